/-! the exchange along the best chain -/
def q_isum (f : Nat → Int32) : Nat → Int32
  | 0 => 0
  | k + 1 => q_isum f k + f k
def q_ifI (P : Prop) [Decidable P] (x : Int32) : Int32 := if P then x else 0
theorem q_isum_cong {f g : Nat → Int32} : ∀ {n : Nat}, (∀ k, k < n → f k = g k) → q_isum f n = q_isum g n
  | 0, _ => rfl
  | n + 1, h => by
    show q_isum f n + f n = q_isum g n + g n
    rw [q_isum_cong (fun k hk => h k (by omega)), h n (by omega)]
theorem q_isum_add (f g : Nat → Int32) : ∀ n, q_isum (fun k => f k + g k) n = q_isum f n + q_isum g n
  | 0 => by show (0 : Int32) = 0 + 0; rw [Int32.add_zero]
  | n + 1 => by
    show q_isum (fun k => f k + g k) n + (f n + g n) = q_isum f n + f n + (q_isum g n + g n)
    rw [q_isum_add f g n]
    ac_rfl
theorem q_isum_sh (f : Nat → Int32) : ∀ n, q_isum (fun k => f (k + 1)) n + f 0 = q_isum f (n + 1)
  | 0 => by show (0 : Int32) + f 0 = 0 + f 0; rfl
  | n + 1 => by
    show q_isum (fun k => f (k + 1)) n + f (n + 1) + f 0 = q_isum f (n + 1) + f (n + 1)
    rw [← q_isum_sh f n]
    ac_rfl
theorem q_isum_ring (f : Nat → Int32) (n : Nat) : q_isum (fun k => f (if k + 1 < n then k + 1 else 0)) n = q_isum f n := by
  cases n with
  | zero => rfl
  | succ m =>
    show q_isum (fun k => f (if k + 1 < m + 1 then k + 1 else 0)) m + f (if m + 1 < m + 1 then m + 1 else 0) = q_isum f (m + 1)
    rw [if_neg (by omega), ← q_isum_sh f m]
    rw [q_isum_cong (n := m) (g := fun k => f (k + 1)) (fun k hk => by rw [if_pos (by omega)])]
theorem q_dbl (U : q_V) (k1 i k2 j a m : Nat) (s t : Int32) : q_up (q_up U k1 i (U k1 i + s)) k2 j (q_up U k1 i (U k1 i + s) k2 j + t) a m = U a m + (q_ifI (a = k1 ∧ m = i) s + q_ifI (a = k2 ∧ m = j) t) := by
  unfold q_ifI
  by_cases h2 : a = k2 ∧ m = j
  · rw [if_pos h2]
    obtain ⟨e1, e2⟩ := h2
    subst e1 e2
    rw [q_up_self]
    by_cases h1 : a = k1 ∧ m = i
    · rw [if_pos h1]
      obtain ⟨e3, e4⟩ := h1
      subst e3 e4
      rw [q_up_self, Int32.add_assoc]
    · rw [q_up_ne _ _ h1, if_neg h1, Int32.zero_add]
  · rw [q_up_ne _ _ h2, if_neg h2, Int32.add_zero]
    by_cases h1 : a = k1 ∧ m = i
    · rw [if_pos h1]
      obtain ⟨e3, e4⟩ := h1
      subst e3 e4
      rw [q_up_self]
    · rw [q_up_ne _ _ h1, if_neg h1, Int32.add_zero]
theorem q_exch_sum (V : q_V) (b : List Nat) (a m : Nat) : ∀ n, q_exch V b n a m = V a m + q_isum (fun k => q_ifI (a = 20 + b.getD k 0 ∧ m = q_n (V 14 (b.getD k 0))) (nI 1) + q_ifI (a = 20 + b.getD (if k + 1 < b.length then k + 1 else 0) 0 ∧ m = q_n (V 14 (b.getD k 0))) (-(nI 1))) n
  | 0 => (Int32.add_zero _).symm
  | n + 1 => by
    show q_up (q_up (q_exch V b n) _ _ (q_exch V b n _ _ + nI 1)) _ _ (q_up (q_exch V b n) _ _ (q_exch V b n _ _ + nI 1) _ _ - nI 1) a m = V a m + (q_isum _ n + (_ + _))
    rw [Int32.sub_eq_add_neg, q_dbl, q_exch_sum V b a m n, Int32.add_assoc]
/-- the law's hand of person a after the first n colours lost f, or got it -/
def z_sub72 (V : q_V) (a : Nat) (f : Nat → Int32) (n : Nat) : q_V := fun i j => if i = 72 ∧ 8 * a ≤ j ∧ j < 8 * a + n then V i j - f (j - 8 * a) else V i j
theorem z_sub72_0 (V : q_V) (a : Nat) (f : Nat → Int32) : z_sub72 V a f 0 = V := by
  funext i j
  exact if_neg (by omega)
theorem z_sub72_at (V : q_V) (a : Nat) (f : Nat → Int32) (n : Nat) : z_sub72 V a f n 72 (8 * a + n) = V 72 (8 * a + n) := if_neg (by omega)
theorem z_sub72_off (V : q_V) (a : Nat) (f : Nat → Int32) (n : Nat) {i : Nat} (h : i ≠ 72) : z_sub72 V a f n i = V i := funext fun j => if_neg (fun z => h z.1)
theorem z_sub72_s (V : q_V) (a : Nat) (f : Nat → Int32) (n : Nat) : q_up (z_sub72 V a f n) 72 (8 * a + n) (V 72 (8 * a + n) - f n) = z_sub72 V a f (n + 1) := by
  funext i j
  by_cases hi : i = 72
  · subst hi
    by_cases hj : j = 8 * a + n
    · subst hj
      rw [q_up_self]
      unfold z_sub72
      rw [if_pos ⟨rfl, by omega, by omega⟩, Nat.add_sub_cancel_left]
    · rw [q_up_ne _ _ (fun z => hj z.2)]
      unfold z_sub72
      by_cases h2 : 8 * a ≤ j ∧ j < 8 * a + n
      · rw [if_pos ⟨rfl, h2⟩, if_pos ⟨rfl, by omega, by omega⟩]
      · rw [if_neg (fun z => h2 z.2), if_neg (fun z => h2 ⟨z.2.1, by omega⟩)]
  · rw [q_up_ne _ _ (fun z => hi z.1), z_sub72_off _ _ _ _ hi, z_sub72_off _ _ _ _ hi]
def z_add72 (V : q_V) (a : Nat) (f : Nat → Int32) (n : Nat) : q_V := fun i j => if i = 72 ∧ 8 * a ≤ j ∧ j < 8 * a + n then V i j + f (j - 8 * a) else V i j
theorem z_add72_0 (V : q_V) (a : Nat) (f : Nat → Int32) : z_add72 V a f 0 = V := by
  funext i j
  exact if_neg (by omega)
theorem z_add72_at (V : q_V) (a : Nat) (f : Nat → Int32) (n : Nat) : z_add72 V a f n 72 (8 * a + n) = V 72 (8 * a + n) := if_neg (by omega)
theorem z_add72_off (V : q_V) (a : Nat) (f : Nat → Int32) (n : Nat) {i : Nat} (h : i ≠ 72) : z_add72 V a f n i = V i := funext fun j => if_neg (fun z => h z.1)
theorem z_add72_s (V : q_V) (a : Nat) (f : Nat → Int32) (n : Nat) : q_up (z_add72 V a f n) 72 (8 * a + n) (V 72 (8 * a + n) + f n) = z_add72 V a f (n + 1) := by
  funext i j
  by_cases hi : i = 72
  · subst hi
    by_cases hj : j = 8 * a + n
    · subst hj
      rw [q_up_self]
      unfold z_add72
      rw [if_pos ⟨rfl, by omega, by omega⟩, Nat.add_sub_cancel_left]
    · rw [q_up_ne _ _ (fun z => hj z.2)]
      unfold z_add72
      by_cases h2 : 8 * a ≤ j ∧ j < 8 * a + n
      · rw [if_pos ⟨rfl, h2⟩, if_pos ⟨rfl, by omega, by omega⟩]
      · rw [if_neg (fun z => h2 z.2), if_neg (fun z => h2 ⟨z.2.1, by omega⟩)]
  · rw [q_up_ne _ _ (fun z => hi z.1), z_add72_off _ _ _ _ hi, z_add72_off _ _ _ _ hi]
set_option maxHeartbeats 2000000 in
/-- a belt is woven -/
theorem z_weave {V : q_V} {G : q_G} {B n ns g0 : Nat} {gp gs : Nat → Nat} (h : zRel V G B n ns g0 gp gs) (hB : B ≤ 1500) {wh its kf au : Nat} (hw : wh < 5) (hi : its < n) (hk : kf < 6) (hfree : V 6 kf = -1) (hneed : ∀ c, c < 8 → nI (gneed (gp its) c) ≤ V 72 (8 * wh + c)) (hau : au < 7) : zRel (q_up (q_up (q_up (q_subr (q_up (q_up (q_up (z_sub72 (V) wh (fun k => nI (gneed (gp its) k)) 8) (71) (2 * kf) (nI its)) (71) (2 * kf + 1) (nI wh)) (74) (au) (V 74 au + nI 1)) (wh) (fun k => nI (gneed (gp its) k)) 8) (6) (kf) (nI its)) (7) (kf) (nI wh)) (8) (au) (V 8 au + nI 1)) (G) (B + 30) n ns g0 gp gs := by
  obtain ⟨h1, h2, h3, h4, h5, h6, h7, h8, h9, h10⟩ := h
  have hn6 := h4.2.2.1
  have hns4 := h6.2.2.1
  generalize hU : q_up (q_up (q_up (q_subr (q_up (q_up (q_up (z_sub72 (V) wh (fun k => nI (gneed (gp its) k)) 8) (71) (2 * kf) (nI its)) (71) (2 * kf + 1) (nI wh)) (74) (au) (V 74 au + nI 1)) (wh) (fun k => nI (gneed (gp its) k)) 8) (6) (kf) (nI its)) (7) (kf) (nI wh)) (8) (au) (V 8 au + nI 1) = U
  have hch : ∀ a j, ¬ ((a = 72 ∧ 8 * wh ≤ j ∧ j < 8 * wh + 8) ∨ (a = 71 ∧ j = 2 * kf) ∨ (a = 71 ∧ j = 2 * kf + 1) ∨ (a = 74 ∧ j = au) ∨ (a = 20 + wh ∧ j < 8) ∨ (a = 6 ∧ j = kf) ∨ (a = 7 ∧ j = kf) ∨ (a = 8 ∧ j = au)) → U a j = V a j := by
    intro a j hn9
    rw [← hU]
    exact ((q_up_ne _ _ (by omega)).trans ((q_up_ne _ _ (by omega)).trans ((q_up_ne _ _ (by omega)).trans ((if_neg (by omega)).trans ((q_up_ne _ _ (by omega)).trans ((q_up_ne _ _ (by omega)).trans ((q_up_ne _ _ (by omega)).trans (if_neg (by omega)))))))))
  have e710 : U (71) (2 * kf) = nI its := by
    rw [← hU]
    exact ((q_up_ne _ _ (by omega)).trans ((q_up_ne _ _ (by omega)).trans ((q_up_ne _ _ (by omega)).trans ((if_neg (by omega)).trans ((q_up_ne _ _ (by omega)).trans ((q_up_ne _ _ (by omega)).trans (q_up_self _ _ _ _)))))))
  have e711 : U (71) (2 * kf + 1) = nI wh := by
    rw [← hU]
    exact ((q_up_ne _ _ (by omega)).trans ((q_up_ne _ _ (by omega)).trans ((q_up_ne _ _ (by omega)).trans ((if_neg (by omega)).trans ((q_up_ne _ _ (by omega)).trans (q_up_self _ _ _ _))))))
  have e74 : U (74) (au) = V 74 au + nI 1 := by
    rw [← hU]
    exact ((q_up_ne _ _ (by omega)).trans ((q_up_ne _ _ (by omega)).trans ((q_up_ne _ _ (by omega)).trans ((if_neg (by omega)).trans (q_up_self _ _ _ _)))))
  have e6 : U (6) (kf) = nI its := by
    rw [← hU]
    exact ((q_up_ne _ _ (by omega)).trans ((q_up_ne _ _ (by omega)).trans (q_up_self _ _ _ _)))
  have e7 : U (7) (kf) = nI wh := by
    rw [← hU]
    exact ((q_up_ne _ _ (by omega)).trans (q_up_self _ _ _ _))
  have e8b : U (8) (au) = V 8 au + nI 1 := by
    rw [← hU]
    exact (q_up_self _ _ _ _)
  have e72 : ∀ c, c < 8 → U 72 (8 * wh + c) = V 72 (8 * wh + c) - nI (gneed (gp its) c) := by
    intro c hc
    rw [← hU]
    exact (q_up_ne _ _ (by omega)).trans ((q_up_ne _ _ (by omega)).trans ((q_up_ne _ _ (by omega)).trans ((if_neg (by omega)).trans ((q_up_ne _ _ (by omega)).trans ((q_up_ne _ _ (by omega)).trans ((q_up_ne _ _ (by omega)).trans ((if_pos ⟨rfl, by omega, by omega⟩).trans (by rw [Nat.add_sub_cancel_left]))))))))
  have e20 : ∀ c, c < 8 → U (20 + wh) c = V (20 + wh) c - nI (gneed (gp its) c) := by
    intro c hc
    rw [← hU]
    exact (q_up_ne _ _ (by omega)).trans ((q_up_ne _ _ (by omega)).trans ((q_up_ne _ _ (by omega)).trans ((if_pos ⟨rfl, hc⟩).trans (congrArg (fun z => z - nI (gneed (gp its) c)) ((q_up_ne _ _ (by omega)).trans ((q_up_ne _ _ (by omega)).trans ((q_up_ne _ _ (by omega)).trans (if_neg (by omega)))))))))
  have r4 : zR4 U n gp := zR4_fr h4 (hch _ _ (by omega)) (hch _ _ (by omega)) (fun pa hp => hch _ _ (by omega)) (fun pa hp => ⟨funext fun j => hch _ _ (by omega), funext fun j => hch _ _ (by omega)⟩)
  refine ⟨?_, ?_, zR3_fr h3 (hch _ _ (by omega)) ⟨funext fun j => hch _ _ (by omega), funext fun j => hch _ _ (by omega)⟩, zR4_fr h4 (hch _ _ (by omega)) (hch _ _ (by omega)) (fun pa hp => hch _ _ (by omega)) (fun pa hp => ⟨funext fun j => hch _ _ (by omega), funext fun j => hch _ _ (by omega)⟩), zR5_fr h5 (fun pa hp => hch _ _ (by omega)) (fun pa hp => hch _ _ (by omega)) (fun pa hp => hch _ _ (by omega)) (fun pa hp => ⟨funext fun j => hch _ _ (by omega), funext fun j => hch _ _ (by omega)⟩), zR6_fr h6 (hch _ _ (by omega)) (hch _ _ (by omega)) (fun t ht => hch _ _ (by omega)) (fun t ht => hch _ _ (by omega)) (fun t ht => hch _ _ (by omega)) (fun t ht => ⟨funext fun j => hch _ _ (by omega), funext fun j => hch _ _ (by omega)⟩), ?_, ?_, zR9_fr h9 (fun j hj => hch _ _ (by omega)) (fun p hp => hch _ _ (by omega)) (fun p hp => hch _ _ (by omega)), h10⟩
  · skip
    intro p c hp hc2
    obtain ⟨a1, m, a2, a3⟩ := h1 p c hp hc2
    by_cases e : p = wh
    · subst e
      rw [e72 c hc2, e20 c hc2, a1]
      refine ⟨rfl, m - gneed (gp its) c, by omega, ?_⟩
      have hn9 := hneed c hc2
      have hb9 := gneed_le (h4.2.2.2 its hi).2.1 c
      rw [a1, a3] at hn9
      rw [a3]
      exact pk_sub ((nI_leI (by omega) (by omega)).mp hn9)
    · rw [hch 72 _ (by omega), hch (20 + p) c (by omega)]
      exact ⟨a1, m, by omega, a3⟩
  · skip
    intro c hc2
    obtain ⟨a1, ⟨m, a2, a3⟩, a4, a5⟩ := h2 c hc2
    have e8 := q_chs2_one (V := V) (U := U) (c := c) (a := wh) (x := -(nI (gneed (gp its) c))) (hch 2 c (by omega)) (fun p hp hp7 => hch (20 + p) c (by omega)) (by rw [e20 c hc2, Int32.sub_eq_add_neg]) 7 (Nat.le_refl 7) (by omega)
    have e9 := q_cbs_one (kf := kf) (y := nI (gneed (gp its) c)) e8 (fun b hbk hb => q_cbelt_sg (n := n) (by omega) (hch _ _ (by omega)) (zbelt h7 hb) (fun pa hp => ⟨funext fun j => hch _ _ (by omega), funext fun j => hch _ _ (by omega)⟩) _) (by
      rw [q_cbelt_n hfree, q_cbelt_y (by rw [e6]; exact q_nI_ne1 (by omega)) e6 (by omega), zc_needs r4 hi hc2, Int32.zero_add]) 20 (Nat.le_refl 20)
    rw [if_pos (by omega), Int32.add_left_neg, Int32.add_zero] at e9
    rw [e9, hch 72 _ (by omega), hch 2 _ (by omega), hch 74 _ (by omega), hch 3 _ (by omega)]
    exact ⟨a1, ⟨m, by omega, a3⟩, a4, a5⟩
  · skip
    refine ⟨fun b hb => ?_, fun b hb hb2 => ?_, fun b hb => ?_⟩
    · by_cases e : b = kf
      · subst e
        rw [e710, e711, e6, e7]
        exact ⟨rfl, rfl, Or.inr ⟨its, hi, rfl⟩⟩
      · rw [hch 71 (2 * b) (by omega), hch 71 (2 * b + 1) (by omega), hch 6 b (by omega), hch 7 b (by omega)]
        exact h7.1 b hb
    · rw [hch 6 b (by omega)]
      exact h7.2.1 b hb hb2
    · by_cases e : b = kf
      · subst e
        exact ⟨wh, by omega, e7⟩
      · rw [hch 7 b (by omega)]
        exact h7.2.2 b hb
  · skip
    intro p hp
    by_cases e : p = au
    · subst e
      rw [e74, e8b, h8 p hp]
    · rw [hch 74 p (by omega), hch 8 p (by omega)]
      exact h8 p hp
set_option maxHeartbeats 2000000 in
/-- a belt is taken apart -/
theorem z_apart {V : q_V} {G : q_G} {B n ns g0 : Nat} {gp gs : Nat → Nat} (h : zRel V G B n ns g0 gp gs) {k its ow : Nat} (hk : k < 6) (hi : its < n) (h6k : V 6 k = nI its) (how : ow < 7) : zRel (q_up (q_addr (q_up (z_add72 (V) ow (fun k => nI (gneed (gp its) k)) 8) (71) (2 * k) (-1)) (ow) (fun k => nI (gneed (gp its) k)) 8) (6) (k) (-1)) (G) (B + 30) n ns g0 gp gs := by
  obtain ⟨h1, h2, h3, h4, h5, h6, h7, h8, h9, h10⟩ := h
  have hn6 := h4.2.2.1
  have hns4 := h6.2.2.1
  generalize hU : q_up (q_addr (q_up (z_add72 (V) ow (fun k => nI (gneed (gp its) k)) 8) (71) (2 * k) (-1)) (ow) (fun k => nI (gneed (gp its) k)) 8) (6) (k) (-1) = U
  have hch : ∀ a j, ¬ ((a = 72 ∧ 8 * ow ≤ j ∧ j < 8 * ow + 8) ∨ (a = 71 ∧ j = 2 * k) ∨ (a = 20 + ow ∧ j < 8) ∨ (a = 6 ∧ j = k)) → U a j = V a j := by
    intro a j hn9
    rw [← hU]
    exact ((q_up_ne _ _ (by omega)).trans ((if_neg (by omega)).trans ((q_up_ne _ _ (by omega)).trans (if_neg (by omega)))))
  have e71 : U (71) (2 * k) = -1 := by
    rw [← hU]
    exact ((q_up_ne _ _ (by omega)).trans ((if_neg (by omega)).trans (q_up_self _ _ _ _)))
  have e6 : U (6) (k) = -1 := by
    rw [← hU]
    exact (q_up_self _ _ _ _)
  have e72 : ∀ c, c < 8 → U 72 (8 * ow + c) = V 72 (8 * ow + c) + nI (gneed (gp its) c) := by
    intro c hc
    rw [← hU]
    exact (q_up_ne _ _ (by omega)).trans ((if_neg (by omega)).trans ((q_up_ne _ _ (by omega)).trans ((if_pos ⟨rfl, by omega, by omega⟩).trans (by rw [Nat.add_sub_cancel_left]))))
  have e20 : ∀ c, c < 8 → U (20 + ow) c = V (20 + ow) c + nI (gneed (gp its) c) := by
    intro c hc
    rw [← hU]
    exact (q_up_ne _ _ (by omega)).trans ((if_pos ⟨rfl, hc⟩).trans (congrArg (fun z => z + nI (gneed (gp its) c)) ((q_up_ne _ _ (by omega)).trans (if_neg (by omega)))))
  refine ⟨?_, ?_, zR3_fr h3 (hch _ _ (by omega)) ⟨funext fun j => hch _ _ (by omega), funext fun j => hch _ _ (by omega)⟩, zR4_fr h4 (hch _ _ (by omega)) (hch _ _ (by omega)) (fun pa hp => hch _ _ (by omega)) (fun pa hp => ⟨funext fun j => hch _ _ (by omega), funext fun j => hch _ _ (by omega)⟩), zR5_fr h5 (fun pa hp => hch _ _ (by omega)) (fun pa hp => hch _ _ (by omega)) (fun pa hp => hch _ _ (by omega)) (fun pa hp => ⟨funext fun j => hch _ _ (by omega), funext fun j => hch _ _ (by omega)⟩), zR6_fr h6 (hch _ _ (by omega)) (hch _ _ (by omega)) (fun t ht => hch _ _ (by omega)) (fun t ht => hch _ _ (by omega)) (fun t ht => hch _ _ (by omega)) (fun t ht => ⟨funext fun j => hch _ _ (by omega), funext fun j => hch _ _ (by omega)⟩), ?_, zR8_fr h8 (fun p hp => hch _ _ (by omega)) (fun p hp => hch _ _ (by omega)), zR9_fr h9 (fun j hj => hch _ _ (by omega)) (fun p hp => hch _ _ (by omega)) (fun p hp => hch _ _ (by omega)), h10⟩
  · skip
    intro p c hp hc2
    obtain ⟨a1, m, a2, a3⟩ := h1 p c hp hc2
    by_cases e : p = ow
    · subst e
      rw [e72 c hc2, e20 c hc2, a1]
      have hb9 := gneed_le (h4.2.2.2 its hi).2.1 c
      exact ⟨rfl, m + gneed (gp its) c, by omega, by rw [a3, nI_add]⟩
    · rw [hch 72 _ (by omega), hch (20 + p) c (by omega)]
      exact ⟨a1, m, by omega, a3⟩
  · skip
    intro c hc2
    obtain ⟨a1, ⟨m, a2, a3⟩, a4, a5⟩ := h2 c hc2
    have e8 := q_chs2_one (V := V) (U := U) (c := c) (a := ow) (x := nI (gneed (gp its) c)) (hch 2 c (by omega)) (fun p hp hp7 => hch (20 + p) c (by omega)) (e20 c hc2) 7 (Nat.le_refl 7) (by omega)
    have e9 := q_cbs_one (kf := k) (y := -(nI (gneed (gp its) c))) e8 (fun b hbk hb => q_cbelt_sg (n := n) (by omega) (hch _ _ (by omega)) (zbelt h7 hb) (fun pa hp => ⟨funext fun j => hch _ _ (by omega), funext fun j => hch _ _ (by omega)⟩) _) (by
      rw [q_cbelt_n e6, q_cbelt_y (by rw [h6k]; exact q_nI_ne1 (by omega)) h6k (by omega), zc_needs h4 hi hc2, Int32.add_right_neg]) 20 (Nat.le_refl 20)
    rw [if_pos (by omega), Int32.add_right_neg, Int32.add_zero] at e9
    rw [e9, hch 72 _ (by omega), hch 2 _ (by omega), hch 74 _ (by omega), hch 3 _ (by omega)]
    exact ⟨a1, ⟨m, by omega, a3⟩, a4, a5⟩
  · skip
    refine ⟨fun b hb => ?_, fun b hb hb2 => ?_, fun b hb => ?_⟩
    · by_cases e : b = k
      · subst e
        rw [e71, hch 71 (2 * b + 1) (by omega), e6, hch 7 b (by omega)]
        exact ⟨rfl, (h7.1 b hb).2.1, Or.inl rfl⟩
      · rw [hch 71 (2 * b) (by omega), hch 71 (2 * b + 1) (by omega), hch 6 b (by omega), hch 7 b (by omega)]
        exact h7.1 b hb
    · rw [hch 6 b (by omega)]
      exact h7.2.1 b hb hb2
    · rw [hch 7 b (by omega)]
      exact h7.2.2 b hb
def z_fair (V : q_V) (b : List Nat) : Nat → q_V
  | 0 => V
  | k + 1 => q_up (q_up (z_fair V b k) 72 (8 * b.getD k 0 + q_n (V 73 (2 * b.getD k 0))) (z_fair V b k 72 (8 * b.getD k 0 + q_n (V 73 (2 * b.getD k 0))) - nI 1)) 72 (8 * b.getD k 0 + q_n (V 73 (2 * b.getD k 0 + 1)))
      (q_up (z_fair V b k) 72 (8 * b.getD k 0 + q_n (V 73 (2 * b.getD k 0))) (z_fair V b k 72 (8 * b.getD k 0 + q_n (V 73 (2 * b.getD k 0))) - nI 1) 72 (8 * b.getD k 0 + q_n (V 73 (2 * b.getD k 0 + 1))) + nI 1)
theorem z_fair_off (V : q_V) (b : List Nat) : ∀ (n a : Nat), a ≠ 72 → z_fair V b n a = V a
  | 0, _, _ => rfl
  | k + 1, a, h => by
    show q_up (q_up _ 72 _ _) 72 _ _ a = V a
    rw [q_up_off _ _ h, q_up_off _ _ h]
    exact z_fair_off V b k a h
theorem z_fair_step {V : q_V} {b : List Nat} {k x y : Nat} (h1 : V 73 (2 * b.getD k 0) = nI x) (h2 : V 73 (2 * b.getD k 0 + 1) = nI y) (hx : x < 8) (hy : y < 8) :
    q_up (q_up (z_fair V b k) 72 (8 * b.getD k 0 + x) (z_fair V b k 72 (8 * b.getD k 0 + x) - nI 1)) 72 (8 * b.getD k 0 + y) (q_up (z_fair V b k) 72 (8 * b.getD k 0 + x) (z_fair V b k 72 (8 * b.getD k 0 + x) - nI 1) 72 (8 * b.getD k 0 + y) + nI 1) = z_fair V b (k + 1) := by
  have e1 : q_n (V 73 (2 * b.getD k 0)) = x := by rw [h1]; exact q_n_nI (by omega)
  have e2 : q_n (V 73 (2 * b.getD k 0 + 1)) = y := by rw [h2]; exact q_n_nI (by omega)
  show _ = q_up (q_up _ 72 _ _) 72 _ _
  rw [e1, e2]
theorem z_fair_one (W : q_V) (b : List Nat) (m n : Nat) : z_fair W b (n + 1) 72 m = z_fair W b n 72 m + (q_ifI (72 = 72 ∧ m = 8 * b.getD n 0 + q_n (W 73 (2 * b.getD n 0))) (-(nI 1)) + q_ifI (72 = 72 ∧ m = 8 * b.getD n 0 + q_n (W 73 (2 * b.getD n 0 + 1))) (nI 1)) := by
  show q_up (q_up (z_fair W b n) 72 _ (z_fair W b n 72 _ - nI 1)) 72 _ (q_up (z_fair W b n) 72 _ (z_fair W b n 72 _ - nI 1) 72 _ + nI 1) 72 m = _
  rw [Int32.sub_eq_add_neg, q_dbl]
theorem z_fair_sum (W : q_V) (b : List Nat) (m : Nat) : ∀ n, z_fair W b n 72 m = W 72 m + q_isum (fun k => q_ifI (72 = 72 ∧ m = 8 * b.getD k 0 + q_n (W 73 (2 * b.getD k 0))) (-(nI 1)) + q_ifI (72 = 72 ∧ m = 8 * b.getD k 0 + q_n (W 73 (2 * b.getD k 0 + 1))) (nI 1)) n
  | 0 => (Int32.add_zero _).symm
  | n + 1 => by
    rw [z_fair_one, z_fair_sum W b m n, Int32.add_assoc]
    rfl
/-- the chain's people, as the fair needs them -/
def z_chn (V : q_V) (b : List Nat) : Prop := ∀ k, k < b.length → b.getD k 0 < 7 ∧ (∀ i, i < k → b.getD i 0 ≠ b.getD k 0) ∧ ∃ x y, x < 8 ∧ y < 8 ∧ V 13 (b.getD k 0) = nI x ∧ V 14 (b.getD k 0) = nI y ∧ V 73 (2 * b.getD k 0) = nI x ∧ V 73 (2 * b.getD k 0 + 1) = nI y ∧ 0 < V 72 (8 * b.getD k 0 + x)
theorem z_chn_of {V : q_V} {B : Nat} (h1 : zR1 V B) (h9 : zR9 V) : z_chn V (q_best (q_crd V) (q_cgt V)) := fun k hk => by
  obtain ⟨b7, brd⟩ := q_best_in (q_crd V) (q_cgt V) hk
  obtain ⟨e1, e2⟩ := h9 _ b7
  obtain ⟨-, e3, ⟨x, hx, e4⟩, ⟨y, hy, e5⟩⟩ := e2.resolve_left brd.1
  refine ⟨b7, fun i hi => ?_, x, y, hx, hy, e4, e5, e1.trans e4, e3.trans e5, ?_⟩
  · rcases q_best_ok (q_crd V) (q_cgt V) with e | ⟨hv, -⟩
    · rw [e] at hk; exact absurd hk (Nat.not_lt_zero k)
    · exact (hv k hk).2.2.2.1 i hi
  · rw [(h1 _ x b7 hx).1]
    have h0 := brd.2
    rw [e4, q_n_nI (by omega)] at h0
    exact h0
theorem z_fair_bd {V : q_V} {b : List Nat} {B : Nat} (hB : B ≤ 1500) (h1 : zR1 V B) (hc : z_chn V b) : ∀ k, k ≤ b.length → ∀ p c, p < 7 → c < 8 → (∃ m, m ≤ B + 1 ∧ z_fair V b k 72 (8 * p + c) = nI m) ∧ ((∀ i, i < k → b.getD i 0 ≠ p) → z_fair V b k 72 (8 * p + c) = V 72 (8 * p + c))
  | 0, _, p, c, hp, hc8 => by
    obtain ⟨a1, m, a2, a3⟩ := h1 p c hp hc8
    exact ⟨⟨m, by omega, a1.trans a3⟩, fun _ => rfl⟩
  | k + 1, hk, p, c, hp, hc8 => by
    obtain ⟨b7, bd, x, y, hx, hy, -, -, e3, e4, e5⟩ := hc k (by omega)
    obtain ⟨⟨m, m1, m2⟩, m3⟩ := z_fair_bd hB h1 hc k (by omega) p c hp hc8
    have e9 := z_fair_one V b (8 * p + c) k
    rw [e3, e4, q_n_nI (by omega), q_n_nI (by omega)] at e9
    by_cases hpx : p = b.getD k 0
    · have eo : z_fair V b k 72 (8 * p + c) = V 72 (8 * p + c) := m3 (fun i hi => by rw [hpx]; exact bd i hi)
      obtain ⟨a1, m4, a2, a3⟩ := h1 p c hp hc8
      rw [eo, a1, a3] at e9
      refine ⟨?_, fun hn => absurd hpx.symm (hn k (Nat.lt_succ_self k))⟩
      unfold q_ifI at e9
      rw [e9]
      by_cases hcx : c = x
      · have hpos : 1 ≤ m4 := by
          rw [← hpx, ← hcx, a1, a3] at e5
          exact (nI_ltI (a := 0) (by decide) (by omega)).mp e5
        rw [if_pos ⟨rfl, by rw [← hpx, hcx]⟩]
        by_cases hcy : c = y
        · rw [if_pos ⟨rfl, by rw [← hpx, hcy]⟩, Int32.add_left_neg, Int32.add_zero]
          exact ⟨m4, by omega, rfl⟩
        · rw [if_neg (fun z => hcy (by omega)), Int32.add_zero, ← Int32.sub_eq_add_neg]
          exact ⟨m4 - 1, by omega, pk_sub hpos⟩
      · rw [if_neg (fun z => hcx (by omega)), Int32.zero_add]
        by_cases hcy : c = y
        · rw [if_pos ⟨rfl, by rw [← hpx, hcy]⟩]
          exact ⟨m4 + 1, by omega, nI_add m4 1⟩
        · rw [if_neg (fun z => hcy (by omega)), Int32.add_zero]
          exact ⟨m4, by omega, rfl⟩
    · unfold q_ifI at e9
      rw [if_neg (fun z => hpx (by omega)), if_neg (fun z => hpx (by omega)), Int32.add_zero, Int32.add_zero] at e9
      exact ⟨⟨m, m1, e9.trans m2⟩, fun hn => e9.trans (m3 (fun i hi => hn i (by omega)))⟩
theorem q_chs2_up (X : q_V) {a d c : Nat} (s : Int32) (ha : a < 7) : q_chs2 (q_up X (20 + a) d (X (20 + a) d + s)) c 7 = q_chs2 X c 7 + q_ifI (c = d) s := by
  unfold q_ifI
  by_cases e : c = d
  · subst e
    rw [if_pos rfl]
    exact q_chs2_one (a := a) (q_up_ne _ _ (by omega)) (fun p hp _ => q_up_ne _ _ (by omega)) (q_up_self _ _ _ _) 7 (Nat.le_refl 7) ha
  · rw [if_neg e, Int32.add_zero]
    exact q_chs2_congr (q_up_ne _ _ (by omega)) 7 (fun p hp => q_up_ne _ _ (by omega))
theorem q_exch_chs2 (U : q_V) {b : List Nat} (h7 : ∀ i, i < b.length → b.getD i 0 < 7) (c : Nat) : ∀ n, n ≤ b.length → q_chs2 (q_exch U b n) c 7 = q_chs2 U c 7
  | 0, _ => rfl
  | n + 1, hn => by
    have b1 := h7 n (by omega)
    have b2 := h7 (if n + 1 < b.length then n + 1 else 0) (by split <;> omega)
    show q_chs2 (q_up (q_up (q_exch U b n) _ _ (q_exch U b n _ _ + nI 1)) _ _ (q_up (q_exch U b n) _ _ (q_exch U b n _ _ + nI 1) _ _ - nI 1)) c 7 = _
    rw [Int32.sub_eq_add_neg, q_chs2_up _ _ b2, q_chs2_up _ _ b1, q_exch_chs2 U h7 c n (by omega)]
    unfold q_ifI
    split
    · rw [Int32.add_assoc, Int32.add_right_neg, Int32.add_zero]
    · rw [Int32.add_zero, Int32.add_zero]
/-- a fair day -/
theorem z_fairrel {V : q_V} {G : q_G} {B n ns g0 : Nat} {gp gs : Nat → Nat} (h : zRel V G B n ns g0 gp gs) (hB : B ≤ 1500) {b : List Nat} (hb : b = q_best (q_crd V) (q_cgt V)) {U : q_V} (hU : q_boff (z_fair V b b.length) U) : zRel (q_exch U b b.length) G (B + 30) n ns g0 gp gs := by
  obtain ⟨h1, h2, h3, h4, h5, h6, h7, h8, h9, h10⟩ := h
  have hn6 := h4.2.2.1
  have hns4 := h6.2.2.1
  have hc : z_chn V b := by rw [hb]; exact z_chn_of h1 h9
  have hb7 : ∀ i, i < b.length → b.getD i 0 < 7 := fun i hi => (hc i hi).1
  generalize hW : q_exch U b b.length = W
  have hoff : ∀ a, (a < 20 ∨ 27 ≤ a) → W a = U a := fun a ha => by rw [← hW]; exact q_exch_off U hb7 b.length (Nat.le_refl _) ha
  have hU1 : ∀ a j, ¬ (a = 15 ∨ a = 16 ∨ a = 17 ∨ a = 9 ∨ a = 72) → U a j = V a j := fun a j ha => (hU a j (by omega) (by omega) (by omega) (by omega)).trans (congrFun (z_fair_off V b b.length a (by omega)) j)
  have hch : ∀ a j, ¬ (a = 15 ∨ a = 16 ∨ a = 17 ∨ a = 9 ∨ a = 72 ∨ (20 ≤ a ∧ a < 27)) → W a j = V a j := fun a j ha => by
    rw [hoff a (by omega)]
    exact hU1 a j (by omega)
  have e72 : ∀ j, W 72 j = z_fair V b b.length 72 j := fun j => by
    rw [hoff 72 (by omega)]
    exact hU 72 j (by omega) (by omega) (by omega) (by omega)
  have ehand : ∀ p c, p < 7 → c < 8 → W 72 (8 * p + c) = W (20 + p) c := fun p c hp hc8 => by
    rw [e72, ← hW, z_fair_sum, q_exch_sum, (h1 p c hp hc8).1, hU1 (20 + p) c (by omega)]
    congr 1
    rw [q_isum_add, q_isum_add, Int32.add_comm]
    congr 1
    · refine q_isum_cong fun k hk => ?_
      obtain ⟨b7, -, x, y, hx, hy, d1, d2, d3, d4, d5⟩ := hc k hk
      unfold q_ifI
      rw [d4, hU1 14 _ (by omega), d2, q_n_nI (by omega)]
      by_cases hq : p = b.getD k 0 ∧ c = y
      · rw [if_pos (by omega), if_pos (by omega)]
      · rw [if_neg (by omega), if_neg (by omega)]
    · rw [← q_isum_ring (fun k => q_ifI (72 = 72 ∧ 8 * p + c = 8 * b.getD k 0 + q_n (V 73 (2 * b.getD k 0))) (-(nI 1)))]
      refine q_isum_cong fun k hk => ?_
      have hk2 : (if k + 1 < b.length then k + 1 else 0) < b.length := by split <;> omega
      obtain ⟨b7, -, x, y, hx, hy, d1, d2, d3, d4, d5⟩ := hc k hk
      obtain ⟨c7, -, x2, y2, hx2, hy2, f1, f2, f3, f4, f5⟩ := hc _ hk2
      have hr : V 14 (b.getD k 0) = V 13 (b.getD (if k + 1 < b.length then k + 1 else 0) 0) := by
        have hok : q_okb (q_crd V) (q_cgt V) b := by rw [hb]; exact q_best_ok _ _
        rcases hok with e | ⟨hv, hc2⟩
        · rw [e] at hk; exact absurd hk (Nat.not_lt_zero _)
        · by_cases hl : k + 1 < b.length
          · rw [if_pos hl]
            exact (hv k hk).2.2.2.2 hl
          · rw [if_neg hl]
            have h8 := hc2.2
            unfold q_la at h8
            rw [show b.length - 1 = k by omega] at h8
            exact h8
      rw [d2, f1] at hr
      have exy : y = x2 := q_nI_inj hr (by omega) (by omega)
      unfold q_ifI
      rw [f3, hU1 14 _ (by omega), d2, q_n_nI (by omega), q_n_nI (by omega)]
      generalize b.getD (if k + 1 < b.length then k + 1 else 0) 0 = bb at c7 ⊢
      by_cases hq : p = bb ∧ c = x2
      · rw [if_pos (by omega), if_pos (by omega)]
      · rw [if_neg (by omega), if_neg (by omega)]
  refine ⟨fun p c hp hc8 => ?_, fun c hc8 => ?_, zR3_fr h3 (hch _ _ (by omega)) ⟨funext fun j => hch _ _ (by omega), funext fun j => hch _ _ (by omega)⟩, zR4_fr h4 (hch _ _ (by omega)) (hch _ _ (by omega)) (fun pa hp => hch _ _ (by omega)) (fun pa hp => ⟨funext fun j => hch _ _ (by omega), funext fun j => hch _ _ (by omega)⟩), zR5_fr h5 (fun pa hp => hch _ _ (by omega)) (fun pa hp => hch _ _ (by omega)) (fun pa hp => hch _ _ (by omega)) (fun pa hp => ⟨funext fun j => hch _ _ (by omega), funext fun j => hch _ _ (by omega)⟩), zR6_fr h6 (hch _ _ (by omega)) (hch _ _ (by omega)) (fun t ht => hch _ _ (by omega)) (fun t ht => hch _ _ (by omega)) (fun t ht => hch _ _ (by omega)) (fun t ht => ⟨funext fun j => hch _ _ (by omega), funext fun j => hch _ _ (by omega)⟩), zR7_fr h7 (fun j hj => hch _ _ (by omega)) (fun b hb => hch _ _ (by omega)) (fun b hb => hch _ _ (by omega)), zR8_fr h8 (fun p hp => hch _ _ (by omega)) (fun p hp => hch _ _ (by omega)), zR9_fr h9 (fun j hj => hch _ _ (by omega)) (fun p hp => hch _ _ (by omega)) (fun p hp => hch _ _ (by omega)), h10⟩
  · obtain ⟨⟨m, m1, m2⟩, -⟩ := z_fair_bd hB h1 hc b.length (Nat.le_refl _) p c hp hc8
    exact ⟨ehand p c hp hc8, m, by omega, by rw [← ehand p c hp hc8, e72]; exact m2⟩
  · obtain ⟨a1, ⟨m, a2, a3⟩, a4, a5⟩ := h2 c hc8
    have e8 : q_chs2 W c 7 = q_chs2 V c 7 := by
      rw [← hW, q_exch_chs2 U hb7 c b.length (Nat.le_refl _)]
      exact q_chs2_congr (hU1 2 c (by omega)) 7 (fun p hp => hU1 (20 + p) c (by omega))
    have e9 := q_cbs_congr e8 20 (fun b hb => q_cbelt_sg (n := n) (by omega) (hch _ _ (by omega)) (zbelt h7 hb) (fun pa hp => ⟨funext fun j => hch _ _ (by omega), funext fun j => hch _ _ (by omega)⟩) _)
    have e56 : W 72 (56 + c) = V 72 (56 + c) := by
      rw [e72]
      have hall : ∀ k, k ≤ b.length → z_fair V b k 72 (56 + c) = V 72 (56 + c) := by
        intro k
        induction k with
        | zero => intro _; rfl
        | succ k ih =>
          intro hk
          obtain ⟨b7, -, x, y, hx, hy, d1, d2, d3, d4, d5⟩ := hc k (by omega)
          rw [z_fair_one, ih (by omega), d3, d4, q_n_nI (by omega), q_n_nI (by omega)]
          unfold q_ifI
          rw [if_neg (by omega), if_neg (by omega), Int32.add_zero, Int32.add_zero]
      exact hall b.length (Nat.le_refl _)
    rw [e9, e56, hch 2 _ (by omega), hch 74 _ (by omega), hch 3 _ (by omega)]
    exact ⟨a1, ⟨m, by omega, a3⟩, a4, a5⟩
