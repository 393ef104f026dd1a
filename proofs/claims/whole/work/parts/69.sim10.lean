/-! the exchange along the best chain -/
def q_isum (f : Nat → Int32) : Nat → Int32
  | 0 => 0
  | k + 1 => q_isum f k + f k
def q_ifI (P : Prop) [Decidable P] (x : Int32) : Int32 := if P then x else 0
theorem q_isum_cong {f g : Nat → Int32} : ∀ {n : Nat}, (∀ k, k < n → f k = g k) → q_isum f n = q_isum g n
  | 0, _ => rfl
  | n + 1, h => by
    show q_isum f n + f n = q_isum g n + g n
    rw [q_isum_cong (fun k hk => h k (by omega)), h n (by omega)]
theorem q_isum_add (f g : Nat → Int32) : ∀ n, q_isum (fun k => f k + g k) n = q_isum f n + q_isum g n
  | 0 => by show (0 : Int32) = 0 + 0; rw [Int32.add_zero]
  | n + 1 => by
    show q_isum (fun k => f k + g k) n + (f n + g n) = q_isum f n + f n + (q_isum g n + g n)
    rw [q_isum_add f g n]
    ac_rfl
theorem q_isum_sh (f : Nat → Int32) : ∀ n, q_isum (fun k => f (k + 1)) n + f 0 = q_isum f (n + 1)
  | 0 => by show (0 : Int32) + f 0 = 0 + f 0; rfl
  | n + 1 => by
    show q_isum (fun k => f (k + 1)) n + f (n + 1) + f 0 = q_isum f (n + 1) + f (n + 1)
    rw [← q_isum_sh f n]
    ac_rfl
theorem q_isum_ring (f : Nat → Int32) (n : Nat) : q_isum (fun k => f (if k + 1 < n then k + 1 else 0)) n = q_isum f n := by
  cases n with
  | zero => rfl
  | succ m =>
    show q_isum (fun k => f (if k + 1 < m + 1 then k + 1 else 0)) m + f (if m + 1 < m + 1 then m + 1 else 0) = q_isum f (m + 1)
    rw [if_neg (by omega), ← q_isum_sh f m]
    rw [q_isum_cong (n := m) (g := fun k => f (k + 1)) (fun k hk => by rw [if_pos (by omega)])]
theorem q_dbl (U : q_V) (k1 i k2 j a m : Nat) (s t : Int32) : q_up (q_up U k1 i (U k1 i + s)) k2 j (q_up U k1 i (U k1 i + s) k2 j + t) a m = U a m + (q_ifI (a = k1 ∧ m = i) s + q_ifI (a = k2 ∧ m = j) t) := by
  unfold q_ifI
  by_cases h2 : a = k2 ∧ m = j
  · rw [if_pos h2]
    obtain ⟨e1, e2⟩ := h2
    subst e1 e2
    rw [q_up_self]
    by_cases h1 : a = k1 ∧ m = i
    · rw [if_pos h1]
      obtain ⟨e3, e4⟩ := h1
      subst e3 e4
      rw [q_up_self, Int32.add_assoc]
    · rw [q_up_ne _ _ h1, if_neg h1, Int32.zero_add]
  · rw [q_up_ne _ _ h2, if_neg h2, Int32.add_zero]
    by_cases h1 : a = k1 ∧ m = i
    · rw [if_pos h1]
      obtain ⟨e3, e4⟩ := h1
      subst e3 e4
      rw [q_up_self]
    · rw [q_up_ne _ _ h1, if_neg h1, Int32.add_zero]
theorem q_fair_sum (W : q_V) (b : List Nat) (m : Nat) : ∀ n, q_fair W b n 69 m = W 69 m + q_isum (fun k => q_ifI (69 = 69 ∧ m = 8 * b.getD k 0 + q_n (W 81 (b.getD k 0))) (-(nI 1)) + q_ifI (69 = 69 ∧ m = 8 * b.getD k 0 + q_n (W 82 (b.getD k 0))) (nI 1)) n
  | 0 => (Int32.add_zero _).symm
  | n + 1 => by
    show q_up (q_up (q_fair W b n) 69 _ (q_fair W b n 69 _ - nI 1)) 69 _ (q_up (q_fair W b n) 69 _ (q_fair W b n 69 _ - nI 1) 69 _ + nI 1) 69 m = W 69 m + (q_isum _ n + (_ + _))
    rw [Int32.sub_eq_add_neg, q_dbl, q_fair_sum W b m n, Int32.add_assoc]
theorem q_exch_sum (V : q_V) (b : List Nat) (a m : Nat) : ∀ n, q_exch V b n a m = V a m + q_isum (fun k => q_ifI (a = 20 + b.getD k 0 ∧ m = q_n (V 14 (b.getD k 0))) (nI 1) + q_ifI (a = 20 + b.getD (if k + 1 < b.length then k + 1 else 0) 0 ∧ m = q_n (V 14 (b.getD k 0))) (-(nI 1))) n
  | 0 => (Int32.add_zero _).symm
  | n + 1 => by
    show q_up (q_up (q_exch V b n) _ _ (q_exch V b n _ _ + nI 1)) _ _ (q_up (q_exch V b n) _ _ (q_exch V b n _ _ + nI 1) _ _ - nI 1) a m = V a m + (q_isum _ n + (_ + _))
    rw [Int32.sub_eq_add_neg, q_dbl, q_exch_sum V b a m n, Int32.add_assoc]
/-- the same hands behind the exchange -/
theorem q_fair_eq {V U W : q_V} {b : List Nat} {p c : Nat} (hp : p < 7) (hc : c < 8) (h0 : W 69 (8 * p + c) = U (20 + p) c) (hw81 : ∀ k, k < b.length → q_n (W 81 (b.getD k 0)) = q_n (V 13 (b.getD k 0)) ∧ q_n (V 13 (b.getD k 0)) < 8) (hw82 : ∀ k, k < b.length → q_n (W 82 (b.getD k 0)) = q_n (V 14 (b.getD k 0)) ∧ q_n (V 14 (b.getD k 0)) < 8 ∧ U 14 (b.getD k 0) = V 14 (b.getD k 0))
    (hring : ∀ k, k < b.length → V 14 (b.getD k 0) = V 13 (b.getD (if k + 1 < b.length then k + 1 else 0) 0)) : q_fair W b b.length 69 (8 * p + c) = q_exch U b b.length (20 + p) c := by
  rw [q_fair_sum, q_exch_sum, h0]
  congr 1
  rw [q_isum_add, q_isum_add, Int32.add_comm]
  congr 1
  · refine q_isum_cong fun k hk => ?_
    obtain ⟨e1, e2, e3⟩ := hw82 k hk
    unfold q_ifI
    rw [e1, e3]
    by_cases h : p = b.getD k 0 ∧ c = q_n (V 14 (b.getD k 0))
    · rw [if_pos (by omega), if_pos (by omega)]
    · rw [if_neg (by omega), if_neg (by omega)]
  · rw [← q_isum_ring (fun k => q_ifI (69 = 69 ∧ 8 * p + c = 8 * b.getD k 0 + q_n (W 81 (b.getD k 0))) (-(nI 1)))]
    refine q_isum_cong fun k hk => ?_
    obtain ⟨e1, e2, e3⟩ := hw82 k hk
    have hk2 : (if k + 1 < b.length then k + 1 else 0) < b.length := by split <;> omega
    obtain ⟨f1, f2⟩ := hw81 _ hk2
    have hr := hring k hk
    unfold q_ifI
    rw [f1, e3, hr]
    by_cases h : p = b.getD (if k + 1 < b.length then k + 1 else 0) 0 ∧ c = q_n (V 13 (b.getD (if k + 1 < b.length then k + 1 else 0) 0))
    · rw [if_pos ⟨rfl, by omega⟩, if_pos ⟨by omega, h.2⟩]
    · rw [if_neg (fun z => h ⟨by omega, by omega⟩), if_neg (fun z => h ⟨by omega, z.2⟩)]
theorem q_Rel_fr2 {V U : q_V} {G K : q_G} {n ns : Nat} (h : q_Rel V G n ns) (row : ∀ a, (a ≠ 19 ∧ ¬ (15 ≤ a ∧ a ≤ 18) ∧ a ≠ 9 ∧ a ≠ 83 ∧ a ≠ 84 ∧ a ≠ 69 ∧ ¬ (20 ≤ a ∧ a < 27)) → U a = V a) (at_ : ∀ j, j ≠ 0 → U 19 j = V 19 j) (r1 : q_R1 U) (hG : K 89 = G 89) (hG2 : K 12 = G 12) : q_Rel U K n ns := by
  obtain ⟨h1, h2, h3, h4, h5, h6, h7, h8, h9, h10⟩ := h
  have hn := h4.2.2.1
  have hns := h6.2.2.1
  have sg : ∀ i, i < 21 → q_sg V U i := fun i hi => ⟨row _ (by omega), row _ (by omega)⟩
  exact ⟨r1, q_R2_fr h2 (row _ (by omega)) (row _ (by omega)) (row _ (by omega)) (row _ (by omega)),
    q_R3_fr h3 (sg _ (by omega)) (at_ _ (by omega)) (at_ _ (by omega)) (row _ (by omega)),
    q_R4_fr h4 (fun pa hpa => sg _ (by omega)) (congrFun (row 0 (by omega)) 6) (at_ _ (by omega)) (row _ (by omega)) (row _ (by omega)) (row _ (by omega)),
    q_R5_fr h5 (fun pa hpa => sg _ (by omega)) (row _ (by omega)) (row _ (by omega)) (row _ (by omega)),
    q_R6_fr h6 (fun t ht => sg _ (by omega)) (congrFun (row 0 (by omega)) 13) (at_ _ (by omega)) (row _ (by omega)) (row _ (by omega)) (row _ (by omega)) (row _ (by omega)) (row _ (by omega)),
    q_R7_fr h7 (row _ (by omega)) (row _ (by omega)) (row _ (by omega)) (row _ (by omega)), q_R8_fr h8 (row _ (by omega)) (row _ (by omega)),
    q_R9_fr h9 (row _ (by omega)) (row _ (by omega)) (row _ (by omega)) (row _ (by omega)), q_R10_fr h10 hG hG2⟩
theorem q_sim_fair {V : q_V} {G : q_G} {n ns : Nat} (h : q_Rel V G n ns) {r1 r2 : Int32} {V' V'' : q_V} {G' G'' : q_G} (hL : nI (q_best (q_crd V) (q_cgt V)).length = r1 ∧ (∃ U, q_boff V U ∧ q_exch U (q_best (q_crd V) (q_cgt V)) (q_best (q_crd V) (q_cgt V)).length = V') ∧ G = G') (hM : nI (q_best (q_mrd V') (q_mgt V')).length = r2 ∧ (∃ U, q_off (q_up V' 19 0 (nI 0)) U ∧ q_fair U (q_best (q_mrd V') (q_mgt V')) (q_best (q_mrd V') (q_mgt V')).length = V'') ∧ G' = G'') : r1 = r2 ∧ ∃ n ns, q_Rel V'' G'' n ns := by
  obtain ⟨rfl, ⟨U, hb, e1⟩, rfl⟩ := hL
  obtain ⟨rfl, ⟨W, ho, e2⟩, rfl⟩ := hM
  have hr := q_Rel_sm h (q_sm_boff hb) rfl rfl
  have hbest := q_Rel_best h.1 h.2.2.2.2.2.2.2.2.1
  have h9 := h.2.2.2.2.2.2.2.2.1
  obtain ⟨B, hB⟩ : ∃ B, B = q_best (q_crd V) (q_cgt V) := ⟨_, rfl⟩
  have hin : ∀ i, i < B.length → B.getD i 0 < 7 ∧ q_crd V (B.getD i 0) := by rw [hB]; exact fun i hi => q_best_in _ _ hi
  have hok : q_okb (q_crd V) (q_cgt V) B := by rw [hB]; exact q_best_ok _ _
  rw [← hB] at e1
  have hoff : ∀ a, (a < 20 ∨ 27 ≤ a) → V' a = U a := fun a ha => by rw [← e1]; exact q_exch_off U (fun i hi => (hin i hi).1) B.length (Nat.le_refl _) ha
  have eM : q_best (q_mrd V') (q_mgt V') = B := by
    have m1 : q_mrd V' = q_mrd V := by
      funext a
      unfold q_mrd
      rw [hoff 81 (by omega), hoff 69 (by omega), hb 81 _ (by decide) (by decide) (by decide) (by omega), hb 69 _ (by decide) (by decide) (by decide) (by omega)]
    have m2 : q_mgt V' = q_mgt V := by
      funext a b
      unfold q_mgt
      rw [hoff 81 (by omega), hoff 82 (by omega), hb 81 _ (by decide) (by decide) (by decide) (by omega), hb 82 _ (by decide) (by decide) (by decide) (by omega)]
    rw [m1, m2, hbest, hB]
  rw [eM] at e2 ⊢
  refine ⟨by rw [hB], n, ns, ?_⟩
  have hW : ∀ a j, a ≠ 83 → a ≠ 84 → ¬ (a = 19 ∧ j = 0) → W a j = V' a j := fun a j x y z => by rw [ho a x y]; exact q_up_ne _ _ z
  have hV2 : ∀ a, a ≠ 69 → V'' a = W a := fun a ha => by rw [← e2]; exact q_fair_off W B _ a ha
  refine q_Rel_fr2 h (fun a ha => ?_) (fun j hj => ?_) (fun p c hp hc => ?_) rfl rfl
  · rw [hV2 a (by omega)]
    funext j
    rw [hW a j (by omega) (by omega) (by omega), hoff a (by omega), hb a j (by omega) (by omega) (by omega) (by omega)]
  · rw [hV2 19 (by omega), hW 19 j (by omega) (by omega) (by omega), hoff 19 (by omega), hb 19 j (by omega) (by omega) (by omega) (by omega)]
  · rw [hV2 (20 + p) (by omega), hW (20 + p) c (by omega) (by omega) (by omega), ← e1, ← e2]
    have w81 : ∀ q, W 81 q = V 81 q := fun q => by rw [hW 81 q (by omega) (by omega) (by omega), hoff 81 (by omega), hb 81 q (by omega) (by omega) (by omega) (by omega)]
    have w82 : ∀ q, W 82 q = V 82 q := fun q => by rw [hW 82 q (by omega) (by omega) (by omega), hoff 82 (by omega), hb 82 q (by omega) (by omega) (by omega) (by omega)]
    have u14 : ∀ q, U 14 q = V 14 q := fun q => hb 14 q (by omega) (by omega) (by omega) (by omega)
    have mem : ∀ k, k < B.length → V 81 (B.getD k 0) = V 13 (B.getD k 0) ∧ V 82 (B.getD k 0) = V 14 (B.getD k 0) ∧ (∃ c, c < 8 ∧ V 13 (B.getD k 0) = nI c) ∧ ∃ d, d < 8 ∧ V 14 (B.getD k 0) = nI d := fun k hk => by
      obtain ⟨z1, z2⟩ := hin k hk
      obtain ⟨y1, y2⟩ := h9 _ z1
      exact ⟨y1, y2.resolve_left z2.1⟩
    refine q_fair_eq (V := V) hp hc ?_ (fun k hk => ?_) (fun k hk => ?_) (fun k hk => ?_)
    · rw [hW 69 _ (by omega) (by omega) (by omega), hoff 69 (by omega), hb 69 _ (by omega) (by omega) (by omega) (by omega), hb (20 + p) c (by omega) (by omega) (by omega) (by omega)]
      exact h.1 p c hp hc
    · obtain ⟨z1, z2, ⟨d, hd, z3⟩, z4⟩ := mem k hk
      rw [w81, z1, z3, q_n_nI (by omega)]
      exact ⟨rfl, hd⟩
    · obtain ⟨z1, z2, z3, ⟨d, hd, z4⟩⟩ := mem k hk
      rw [w82, z2, u14, z4, q_n_nI (by omega)]
      exact ⟨rfl, hd, rfl⟩
    · rcases hok with e | ⟨hv, hc2⟩
      · rw [e] at hk; exact absurd hk (Nat.not_lt_zero _)
      · by_cases hl : k + 1 < B.length
        · rw [if_pos hl]
          exact (hv k hk).2.2.2.2 hl
        · rw [if_neg hl]
          have h8 := hc2.2
          unfold q_la at h8
          rw [show B.length - 1 = k by omega] at h8
          exact h8
