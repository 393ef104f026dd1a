/-! the best chain: the longest, of these the least -/
def zle : List Nat → List Nat → Prop
  | [], _ => True
  | _ :: _, [] => False
  | a :: s, b :: t => a < b ∨ (a = b ∧ zle s t)
theorem zle_cons {a b : Nat} {s t : List Nat} : zle (a :: s) (b :: t) ↔ (a < b ∨ (a = b ∧ zle s t)) := Iff.rfl
theorem zle_rf : ∀ s : List Nat, zle s s
  | [] => trivial
  | _ :: s => Or.inr ⟨rfl, zle_rf s⟩
def zcv (rd : Nat → Prop) (gt : Nat → Nat → Prop) (t : List Nat) : Prop := q_vr rd gt t ∧ q_cl gt t
theorem z_app_gd {r s : List Nat} {i : Nat} (h : r.length ≤ i) : (r ++ s).getD i 0 = s.getD (i - r.length) 0 := by
  simp [List.getD, List.getElem?_append_right h]
theorem z_app_gl {r s : List Nat} {i : Nat} (h : i < r.length) : (r ++ s).getD i 0 = r.getD i 0 := by
  simp [List.getD, List.getElem?_append_left h]
theorem z_vr_row {rd : Nat → Prop} {gt : Nat → Nat → Prop} {r s : List Nat} {k : Nat} (h : q_vr rd gt (r ++ k :: s)) : k < 7 ∧ q_row rd gt r k := by
  have hlen : (r ++ k :: s).length = r.length + (s.length + 1) := by simp
  have hk : (r ++ k :: s).getD r.length 0 = k := by
    rw [z_app_gd (Nat.le_refl _), Nat.sub_self]
    rfl
  obtain ⟨h1, h2, h3, h4, -⟩ := h r.length (by omega)
  rw [hk] at h1 h2 h3 h4
  refine ⟨h1, h2, ?_⟩
  by_cases e : r = []
  · exact Or.inl e
  · have h0 := List.length_pos_iff.mpr e
    refine Or.inr ⟨?_, fun i hi => ?_, ?_⟩
    · have := h3 h0
      rw [z_app_gl h0] at this
      exact this
    · have := h4 i hi
      rw [z_app_gl hi] at this
      exact this
    · have := (h (r.length - 1) (by omega)).2.2.2.2 (by omega)
      rw [z_app_gl (by omega), show r.length - 1 + 1 = r.length by omega, hk] at this
      exact this
/-- what the search from the row r, d deep, finds: b1 instead of b -/
def zmin (rd : Nat → Prop) (gt : Nat → Nat → Prop) (d : Nat) (r b b1 : List Nat) : Prop :=
  b.length ≤ b1.length ∧ (∀ s, s ≠ [] → s.length ≤ d → zcv rd gt (r ++ s) → (r ++ s).length ≤ b1.length) ∧
    (b1 = b ∨ (b.length < b1.length ∧ ∃ s1, s1 ≠ [] ∧ b1 = r ++ s1 ∧ ∀ s, s ≠ [] → s.length ≤ d → zcv rd gt (r ++ s) → (r ++ s).length = b1.length → zle s1 s))
/-- .. of the rows that go on with a number below k -/
def zmink (rd : Nat → Prop) (gt : Nat → Nat → Prop) (d k : Nat) (r b b1 : List Nat) : Prop :=
  b.length ≤ b1.length ∧ (∀ k1 s, k1 < k → s.length ≤ d → zcv rd gt (r ++ k1 :: s) → (r ++ k1 :: s).length ≤ b1.length) ∧
    (b1 = b ∨ (b.length < b1.length ∧ ∃ k0 s0, k0 < k ∧ b1 = r ++ k0 :: s0 ∧ ∀ k1 s, k1 < k → s.length ≤ d → zcv rd gt (r ++ k1 :: s) → (r ++ k1 :: s).length = b1.length → zle (k0 :: s0) (k1 :: s)))
theorem zmink_step {rd : Nat → Prop} {gt : Nat → Nat → Prop} {d k : Nat} {r b bk : List Nat} (ih : ∀ r b, zmin rd gt d r b (q_ch rd gt d r b)) (h : zmink rd gt d k r b bk) : zmink rd gt d (k + 1) r b (q_stp rd gt d r bk k) := by
  obtain ⟨h1, h2, h3⟩ := h
  by_cases hrow : q_row rd gt r k
  · rw [q_stp_y hrow]
    have hup1 : bk.length ≤ (q_upb gt bk (r ++ [k])).length := by
      by_cases hc : q_cl gt (r ++ [k]) ∧ bk.length < (r ++ [k]).length
      · rw [q_upb, q_ite_y hc]; exact Nat.le_of_lt hc.2
      · rw [q_upb, q_ite_n hc]; exact Nat.le_refl _
    obtain ⟨i1, i2, i3⟩ := ih (r ++ [k]) (q_upb gt bk (r ++ [k]))
    generalize q_ch rd gt d (r ++ [k]) (q_upb gt bk (r ++ [k])) = b2 at i1 i2 i3
    have happ : ∀ s : List Nat, (r ++ [k]) ++ s = r ++ k :: s := fun s => by simp
    have hlen : ∀ (x : Nat) (s : List Nat), (r ++ x :: s).length = r.length + (s.length + 1) := fun x s => by simp
    refine ⟨by omega, fun k1 s hk1 hs hcv => ?_, ?_⟩
    · rcases Nat.lt_or_ge k1 k with q | q
      · have := h2 k1 s q hs hcv
        omega
      · obtain rfl : k1 = k := by omega
        by_cases e : s = []
        · subst e
          have hu : (r ++ [k1]).length ≤ (q_upb gt bk (r ++ [k1])).length := by
            by_cases hc : q_cl gt (r ++ [k1]) ∧ bk.length < (r ++ [k1]).length
            · rw [q_upb, q_ite_y hc]; exact Nat.le_refl _
            · rw [q_upb, q_ite_n hc]
              exact Nat.not_lt.mp fun z => hc ⟨hcv.2, z⟩
          exact Nat.le_trans hu i1
        · have := i2 s e hs (by rw [happ]; exact hcv)
          rw [happ] at this
          exact this
    · rcases i3 with e | ⟨q1, s1, q2, q3, q4⟩
      · by_cases hc : q_cl gt (r ++ [k]) ∧ bk.length < (r ++ [k]).length
        · rw [q_upb, q_ite_y hc] at e
          subst e
          refine Or.inr ⟨by have := hc.2; omega, k, [], Nat.lt_succ_self k, rfl, fun k1 s hk1 hs hcv hl => ?_⟩
          rcases Nat.lt_or_ge k1 k with q | q
          · have := h2 k1 s q hs hcv
            have := hc.2
            omega
          · obtain rfl : k1 = k := by omega
            have hs0 : s = [] := by
              rw [hlen] at hl
              have h9 : (r ++ [k1]).length = r.length + 1 := by simp
              exact List.length_eq_zero_iff.mp (by omega)
            rw [hs0]
            exact zle_rf _
        · rw [q_upb, q_ite_n hc] at e
          subst e
          rcases h3 with e | ⟨g1, k0, s0, g2, g3, g4⟩
          · exact Or.inl e
          · refine Or.inr ⟨g1, k0, s0, by omega, g3, fun k1 s hk1 hs hcv hl => ?_⟩
            rcases Nat.lt_or_ge k1 k with q | q
            · exact g4 k1 s q hs hcv hl
            · exact zle_cons.mpr (Or.inl (by omega))
      · refine Or.inr ⟨by omega, k, s1, Nat.lt_succ_self k, by rw [q3, happ], fun k1 s hk1 hs hcv hl => ?_⟩
        rcases Nat.lt_or_ge k1 k with q | q
        · have := h2 k1 s q hs hcv
          omega
        · obtain rfl : k1 = k := by omega
          refine zle_cons.mpr (Or.inr ⟨rfl, ?_⟩)
          by_cases e : s = []
          · subst e
            have h9 : b2.length = r.length + (s1.length + 1) := by rw [q3, happ, hlen]
            rw [hlen] at hl
            exact absurd (List.length_eq_zero_iff.mp (show s1.length = 0 by simp at hl; omega)) q2
          · exact q4 s e hs (by rw [happ]; exact hcv) (by rw [happ]; exact hl)
  · rw [q_stp_n hrow]
    refine ⟨h1, fun k1 s hk1 hs hcv => ?_, ?_⟩
    · rcases Nat.lt_or_ge k1 k with q | q
      · exact h2 k1 s q hs hcv
      · obtain rfl : k1 = k := by omega
        exact absurd (z_vr_row hcv.1).2 hrow
    · rcases h3 with e | ⟨g1, k0, s0, g2, g3, g4⟩
      · exact Or.inl e
      · refine Or.inr ⟨g1, k0, s0, by omega, g3, fun k1 s hk1 hs hcv hl => ?_⟩
        rcases Nat.lt_or_ge k1 k with q | q
        · exact g4 k1 s q hs hcv hl
        · obtain rfl : k1 = k := by omega
          exact absurd (z_vr_row hcv.1).2 hrow
theorem zmink_all {rd : Nat → Prop} {gt : Nat → Nat → Prop} {d : Nat} {r b : List Nat} (ih : ∀ r b, zmin rd gt d r b (q_ch rd gt d r b)) : ∀ (m k : Nat) (bk : List Nat), k + m = 7 → zmink rd gt d k r b bk → zmink rd gt d 7 r b (q_chs (q_stp rd gt d r) m k bk)
  | 0, k, bk, hk, h => by
    obtain rfl : k = 7 := by omega
    exact h
  | m + 1, k, bk, hk, h => zmink_all ih m (k + 1) _ (by omega) (zmink_step ih h)
theorem zmin_ch (rd : Nat → Prop) (gt : Nat → Nat → Prop) : ∀ (d : Nat) (r b : List Nat), zmin rd gt d r b (q_ch rd gt d r b)
  | 0, r, b => ⟨Nat.le_refl _, fun s h1 h2 _ => absurd (List.length_eq_zero_iff.mp (Nat.le_zero.mp h2)) h1, Or.inl rfl⟩
  | d + 1, r, b => by
    rw [q_ch_succ]
    have h := zmink_all (r := r) (b := b) (zmin_ch rd gt d) 7 0 b rfl ⟨Nat.le_refl _, fun k1 s hk => absurd hk (Nat.not_lt_zero k1), Or.inl rfl⟩
    generalize q_chs (q_stp rd gt d r) 7 0 b = b1 at h
    obtain ⟨h1, h2, h3⟩ := h
    refine ⟨h1, fun s hs hl hcv => ?_, ?_⟩
    · cases s with
      | nil => exact absurd rfl hs
      | cons k1 s => exact h2 k1 s (z_vr_row hcv.1).1 (by simpa using hl) hcv
    · rcases h3 with e | ⟨g1, k0, s0, g2, g3, g4⟩
      · exact Or.inl e
      · refine Or.inr ⟨g1, k0 :: s0, List.cons_ne_nil _ _, g3, fun s hs hl hcv he => ?_⟩
        cases s with
        | nil => exact absurd rfl hs
        | cons k1 s => exact g4 k1 s (z_vr_row hcv.1).1 (by simpa using hl) hcv he
theorem z_best_min {rd : Nat → Prop} {gt : Nat → Nat → Prop} {t : List Nat} (h7 : t.length ≤ 7) (h : zcv rd gt t) : t.length ≤ (q_best rd gt).length ∧ (t.length = (q_best rd gt).length → zle (q_best rd gt) t) := by
  obtain ⟨h1, h2, h3⟩ := zmin_ch rd gt 7 [] []
  have hne : t ≠ [] := fun e => by
    have := h.2.1
    rw [e] at this
    exact absurd this (by decide)
  refine ⟨h2 t hne h7 h, fun he => ?_⟩
  rcases h3 with e | ⟨-, s1, -, e, hm⟩
  · have e2 : q_best rd gt = [] := e
    rw [e2]
    exact trivial
  · have e2 : q_best rd gt = s1 := e
    rw [e2]
    exact hm t hne h7 h he
/-! rows by their numbers: digits to the base 5, the first one highest -/
def zdg (n code i : Nat) : Nat := code / 5 ^ (n - 1 - i) % 5
theorem zdg_lt (n code i : Nat) : zdg n code i < 5 := Nat.mod_lt _ (by decide)
def zen : List Nat → Nat
  | [] => 0
  | x :: t => x * 5 ^ t.length + zen t
theorem zen_lt : ∀ {t : List Nat}, (∀ i, i < t.length → t.getD i 0 < 5) → zen t < 5 ^ t.length
  | [], _ => by decide
  | x :: t, h => by
    have h0 : x < 5 := h 0 (by simp)
    have h1 : zen t < 5 ^ t.length := zen_lt fun i hi => h (i + 1) (by simpa using hi)
    show x * 5 ^ t.length + zen t < 5 ^ (t.length + 1)
    have h2 : (x + 1) * 5 ^ t.length ≤ 5 * 5 ^ t.length := Nat.mul_le_mul_right _ (by omega)
    rw [Nat.add_mul, Nat.one_mul] at h2
    rw [Nat.pow_succ, Nat.mul_comm (5 ^ t.length) 5]
    omega
theorem zen_dg : ∀ {t : List Nat}, (∀ i, i < t.length → t.getD i 0 < 5) → ∀ i, i < t.length → zdg t.length (zen t) i = t.getD i 0
  | [], _, i, hi => absurd hi (Nat.not_lt_zero i)
  | x :: t, h, i, hi => by
    have h0 : x < 5 := h 0 (by simp)
    have ht : ∀ i, i < t.length → t.getD i 0 < 5 := fun i hi => h (i + 1) (by simpa using hi)
    have h1 : zen t < 5 ^ t.length := zen_lt ht
    have hp : 0 < 5 ^ t.length := Nat.pow_pos (by decide)
    cases i with
    | zero =>
      show (x * 5 ^ t.length + zen t) / 5 ^ (t.length + 1 - 1 - 0) % 5 = x
      rw [show t.length + 1 - 1 - 0 = t.length by omega, Nat.mul_comm, Nat.mul_add_div hp, Nat.div_eq_of_lt h1, Nat.add_zero, Nat.mod_eq_of_lt h0]
    | succ i =>
      have hi2 : i < t.length := by simpa using hi
      have e := zen_dg ht i hi2
      show (x * 5 ^ t.length + zen t) / 5 ^ (t.length + 1 - 1 - (i + 1)) % 5 = t.getD i 0
      rw [← e]
      unfold zdg
      have e2 : t.length = (t.length - 1 - i) + (i + 1) := by omega
      have e3 : x * 5 ^ t.length = 5 ^ (t.length - 1 - i) * (5 * (5 ^ i * x)) := by
        conv => lhs; rw [e2, Nat.pow_add, Nat.pow_succ]
        rw [Nat.mul_comm x, Nat.mul_assoc, Nat.mul_assoc, Nat.mul_left_comm (5 ^ i) 5 x]
      rw [show t.length + 1 - 1 - (i + 1) = t.length - 1 - i by omega, e3, Nat.mul_add_div (Nat.pow_pos (by decide)), Nat.mul_add_mod]
theorem zen_le : ∀ {s t : List Nat}, s.length = t.length → (∀ i, i < s.length → s.getD i 0 < 5) → (∀ i, i < t.length → t.getD i 0 < 5) → zle s t → zen s ≤ zen t
  | [], _, _, _, _, _ => Nat.zero_le _
  | _ :: _, [], _, _, _, h => h.elim
  | a :: s, b :: t, hl, h1, h2, h => by
    have hl2 : s.length = t.length := by simpa using hl
    have hs : ∀ i, i < s.length → s.getD i 0 < 5 := fun i hi => h1 (i + 1) (by simpa using hi)
    have ht : ∀ i, i < t.length → t.getD i 0 < 5 := fun i hi => h2 (i + 1) (by simpa using hi)
    show a * 5 ^ s.length + zen s ≤ b * 5 ^ t.length + zen t
    rcases h with h | ⟨rfl, h⟩
    · have h3 := zen_lt hs
      have h4 : (a + 1) * 5 ^ s.length ≤ b * 5 ^ s.length := Nat.mul_le_mul_right _ h
      rw [Nat.add_mul, Nat.one_mul] at h4
      rw [← hl2]
      omega
    · have h3 := zen_le hl2 hs ht h
      rw [← hl2]
      omega
theorem zdg_ext : ∀ {n c1 c2 : Nat}, c1 < 5 ^ n → c2 < 5 ^ n → (∀ i, i < n → zdg n c1 i = zdg n c2 i) → c1 = c2
  | 0, c1, c2, h1, h2, _ => by
    have h3 : c1 < 1 := h1
    have h4 : c2 < 1 := h2
    omega
  | n + 1, c1, c2, h1, h2, h => by
    have e0 := h n (Nat.lt_succ_self n)
    unfold zdg at e0
    rw [show n + 1 - 1 - n = 0 by omega, Nat.pow_zero, Nat.div_one, Nat.div_one] at e0
    rw [Nat.pow_succ] at h1 h2
    have e1 : c1 / 5 = c2 / 5 := zdg_ext (n := n) (Nat.div_lt_of_lt_mul (by rw [Nat.mul_comm]; exact h1)) (Nat.div_lt_of_lt_mul (by rw [Nat.mul_comm]; exact h2)) fun i hi => by
      have e := h i (by omega)
      unfold zdg at e ⊢
      rw [Nat.div_div_eq_div_mul, Nat.div_div_eq_div_mul, Nat.mul_comm 5, ← Nat.pow_succ, show (n - 1 - i).succ = n + 1 - 1 - i by omega]
      exact e
    omega
/-- a row by the function of its people: ready, no two the same; then the first least, each gets from the next -/
def zpp (rd : Nat → Prop) (d : Nat → Nat) (n j : Nat) : Prop := ∀ i, j ≤ i → i < n → (∀ k, i < k → k < n → d i ≠ d k) ∧ rd (d i)
def znx (n i : Nat) : Nat := if i + 1 = n then 0 else i + 1
def zcy (gt : Nat → Nat → Prop) (d : Nat → Nat) (n k : Nat) : Prop := ∀ i, i < k → d 0 ≤ d i ∧ gt (d i) (d (znx n i))
def zval (rd : Nat → Prop) (gt : Nat → Nat → Prop) (n code : Nat) : Prop := zpp rd (zdg n code) n 0 ∧ zcy gt (zdg n code) n n
/-- the chain's number: octal digits, 1 more each, the first one lowest -/
def zro (d : Nat → Nat) (n j rw : Nat) : Prop := rw < 2 ^ (3 * (n - j)) ∧ ∀ i, i < n - j → rw / 2 ^ (3 * i) % 8 = d (j + i) + 1
def zre (b : List Nat) (rw : Nat) : Prop := rw < 2 ^ (3 * b.length) ∧ ∀ i, i < b.length → rw / 2 ^ (3 * i) % 8 = b.getD i 0 + 1
/-- what the law's chain comes to -/
def zfound (rd : Nat → Prop) (gt : Nat → Nat → Prop) (rw : Nat) : Prop :=
  (∃ n code, 2 ≤ n ∧ n ≤ 5 ∧ code < 5 ^ n ∧ zval rd gt n code ∧ zro (zdg n code) n 0 rw ∧ (∀ n1, n < n1 → n1 ≤ 5 → ∀ c, c < 5 ^ n1 → ¬ zval rd gt n1 c) ∧ ∀ c, c < code → ¬ zval rd gt n c) ∨
    ((∀ n1, 2 ≤ n1 → n1 ≤ 5 → ∀ c, c < 5 ^ n1 → ¬ zval rd gt n1 c) ∧ rw = 0)
def zlist (n : Nat) (d : Nat → Nat) : List Nat := (List.range n).map d
theorem zlist_len (n : Nat) (d : Nat → Nat) : (zlist n d).length = n := by simp [zlist]
theorem zlist_gd {n : Nat} {d : Nat → Nat} {i : Nat} (h : i < n) : (zlist n d).getD i 0 = d i := by simp [zlist, List.getD, h]
section ZCH
variable {rd rl : Nat → Prop} {gt gl : Nat → Nat → Prop}
/-- a valid row of the law is one of the class -/
theorem z_val_cv (h1 : ∀ a, a < 5 → (rl a ↔ rd a)) (h2 : ∀ a b, a < 5 → b < 5 → rd a → rd b → (gl a b ↔ gt a b)) {n code : Nat} (hn : 2 ≤ n) (h : zval rl gl n code) : zcv rd gt (zlist n (zdg n code)) := by
  obtain ⟨hp, hc⟩ := h
  have hr : ∀ i, i < n → rd (zdg n code i) := fun i hi => (h1 _ (zdg_lt _ _ _)).mp (hp i (Nat.zero_le _) hi).2
  refine ⟨fun i hi => ?_, by rw [zlist_len]; exact hn, ?_⟩
  · rw [zlist_len] at hi ⊢
    rw [zlist_gd hi, zlist_gd (show 0 < n by omega)]
    have hlt := zdg_lt n code i
    refine ⟨by omega, hr i hi, fun h0 => ?_, fun j hj => ?_, fun hi2 => ?_⟩
    · exact Nat.lt_of_le_of_ne (hc i hi).1 ((hp 0 (Nat.le_refl _) (by omega)).1 i h0 hi)
    · rw [zlist_gd (by omega)]
      exact (hp j (Nat.zero_le _) (by omega)).1 i hj hi
    · rw [zlist_gd hi2]
      have h9 := (hc i hi).2
      rw [znx, if_neg (by omega)] at h9
      exact (h2 _ _ (zdg_lt _ _ _) (zdg_lt _ _ _) (hr i hi) (hr _ hi2)).mp h9
  · show gt (q_la _) _
    unfold q_la
    rw [zlist_len, zlist_gd (show n - 1 < n by omega), zlist_gd (show 0 < n by omega)]
    have h9 := (hc (n - 1) (by omega)).2
    rw [znx, if_pos (by omega)] at h9
    exact (h2 _ _ (zdg_lt _ _ _) (zdg_lt _ _ _) (hr _ (by omega)) (hr _ (by omega))).mp h9
/-- a chain of the class is a valid row of the law -/
theorem z_cv_val (h1 : ∀ a, a < 5 → (rl a ↔ rd a)) (h5 : ∀ a, 5 ≤ a → a < 7 → ¬ rd a) (h2 : ∀ a b, a < 5 → b < 5 → rd a → rd b → (gl a b ↔ gt a b)) {b : List Nat} (h : zcv rd gt b) : (∀ i, i < b.length → b.getD i 0 < 5) ∧ 2 ≤ b.length ∧ b.length ≤ 5 ∧ zval rl gl b.length (zen b) := by
  obtain ⟨hv, hl, hc⟩ := h
  have hb5 : ∀ i, i < b.length → b.getD i 0 < 5 := fun i hi => by
    obtain ⟨a1, a2, -⟩ := hv i hi
    exact Nat.lt_of_not_le fun z => h5 _ z a1 a2
  have hd : ∀ i, i < b.length → zdg b.length (zen b) i = b.getD i 0 := zen_dg hb5
  refine ⟨hb5, hl, ?_, fun i _ hi => ⟨fun k hk hk2 => ?_, ?_⟩, fun i hi => ?_⟩
  · exact fb_holes 5 b.length (fun i => b.getD i 0) hb5 (fun i j hij hj => (hv j hj).2.2.2.1 i hij)
  · rw [hd i hi, hd k hk2]
    exact (hv k hk2).2.2.2.1 i hk
  · rw [hd i hi]
    exact (h1 _ (hb5 i hi)).mpr (hv i hi).2.1
  · rw [hd i hi, hd 0 (by omega)]
    refine ⟨?_, ?_⟩
    · rcases Nat.eq_zero_or_pos i with e | e
      · rw [e]; exact Nat.le_refl _
      · exact Nat.le_of_lt ((hv i hi).2.2.1 e)
    · unfold znx
      by_cases e : i + 1 = b.length
      · rw [if_pos e, hd 0 (by omega)]
        have h9 : gt (b.getD (b.length - 1) 0) (b.getD 0 0) := hc
        rw [show b.length - 1 = i by omega] at h9
        exact (h2 _ _ (hb5 i hi) (hb5 0 (by omega)) (hv i hi).2.1 (hv 0 (by omega)).2.1).mpr h9
      · rw [if_neg e, hd (i + 1) (by omega)]
        exact (h2 _ _ (hb5 i hi) (hb5 _ (by omega)) (hv i hi).2.1 (hv _ (by omega)).2.1).mpr ((hv i hi).2.2.2.2 (by omega))
theorem z_found (h1 : ∀ a, a < 5 → (rl a ↔ rd a)) (h5 : ∀ a, 5 ≤ a → a < 7 → ¬ rd a) (h2 : ∀ a b, a < 5 → b < 5 → rd a → rd b → (gl a b ↔ gt a b)) {rw : Nat} (h : zfound rl gl rw) : zre (q_best rd gt) rw := by
  have hb := q_best_ok rd gt
  rcases h with ⟨n, code, hn2, hn5, hcode, hv, hro, hlong, hleast⟩ | ⟨hno, rfl⟩
  · have hcv := z_val_cv h1 h2 hn2 hv
    have hmin := z_best_min (by rw [zlist_len]; omega) hcv
    rw [zlist_len] at hmin
    have hbcv : zcv rd gt (q_best rd gt) := hb.resolve_left (fun e => by
      have := hmin.1
      rw [e] at this
      have h0 : ([] : List Nat).length = 0 := rfl
      omega)
    obtain ⟨b5, b2, bl5, bval⟩ := z_cv_val h1 h5 h2 hbcv
    have elen : n = (q_best rd gt).length := by
      rcases Nat.lt_or_ge n (q_best rd gt).length with q | q
      · exact absurd bval (hlong _ q bl5 _ (zen_lt b5))
      · exact Nat.le_antisymm hmin.1 q
    have hle := zen_le (by rw [zlist_len]; exact elen.symm) b5 (fun i hi => by rw [zlist_len] at hi; rw [zlist_gd hi]; exact zdg_lt _ _ _) (hmin.2 elen)
    have h5l : ∀ i, i < (zlist n (zdg n code)).length → (zlist n (zdg n code)).getD i 0 < 5 := fun i hi => by
      rw [zlist_len] at hi
      rw [zlist_gd hi]
      exact zdg_lt _ _ _
    have ecode : zen (zlist n (zdg n code)) = code := by
      have a1 := zen_lt h5l
      have a2 := zen_dg h5l
      rw [zlist_len] at a1 a2
      exact zdg_ext a1 hcode fun i hi => by rw [a2 i hi, zlist_gd hi]
    have ezb : zen (q_best rd gt) = code := by
      rw [ecode] at hle
      rcases Nat.lt_or_ge (zen (q_best rd gt)) code with q | q
      · exact absurd (elen ▸ bval) (hleast _ q)
      · exact Nat.le_antisymm hle q
    obtain ⟨r1, r2⟩ := hro
    refine ⟨by rw [← elen]; exact r1, fun i hi => ?_⟩
    rw [r2 i (by omega), Nat.zero_add, ← zen_dg b5 i hi, ezb, ← elen]
  · have e : q_best rd gt = [] := by
      rcases hb with e | hbcv
      · exact e
      · obtain ⟨b5, b2, bl5, bval⟩ := z_cv_val h1 h5 h2 hbcv
        exact absurd bval (hno _ b2 bl5 _ (zen_lt b5))
    rw [e]
    exact ⟨by decide, fun i hi => absurd hi (Nat.not_lt_zero i)⟩
end ZCH
