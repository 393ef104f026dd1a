theorem q_mbelt_n {V : q_V} {b : Nat} {y : Int32} (h : V 78 b = -1) : q_mbelt V b y = 0 := if_pos h
theorem q_mbelt_y {V : q_V} {b pa : Nat} {y : Int32} (h : ¬ V 78 b = -1) (e : V 78 b = nI pa) (hp : pa < 1000) : q_mbelt V b y = nI (q_mneeds V pa y) := by
  unfold q_mbelt
  rw [if_neg h, e, q_n_nI (by omega)]
def q_msgs (V : q_V) (n : Nat) : Prop := ∀ t, t < n → q_sok V t (q_n (V 85 t)) (q_n (V 86 t))
/-- a sign's cells, row by row, out of the draft -/
def q_scp (V : q_V) (n w m : Nat) : q_V := fun a b => if a = 87 ∧ 9 * n ≤ b ∧ b < 9 * n + m then V 72 (8 * ((b - 9 * n) / w) + (b - 9 * n) % w) else V a b
theorem q_scp_0 (V : q_V) (n w : Nat) : q_scp V n w 0 = V := by
  funext a b
  exact if_neg (by omega)
theorem q_scp_succ (V : q_V) (n w m : Nat) : q_up (q_scp V n w m) 87 (9 * n + m) (q_scp V n w m 72 (8 * (m / w) + m % w)) = q_scp V n w (m + 1) := by
  have e1 : q_scp V n w m 72 (8 * (m / w) + m % w) = V 72 (8 * (m / w) + m % w) := if_neg (fun z => absurd z.1 (by decide))
  rw [e1]
  funext a b
  by_cases ha : a = 87
  · subst ha
    by_cases hb : b = 9 * n + m
    · subst hb
      simp [q_up, q_scp]
    · by_cases h2 : 9 * n ≤ b ∧ b < 9 * n + m
      · simp [q_up, q_scp, hb, h2, show b < 9 * n + (m + 1) by omega]
      · have h3 : ¬ (9 * n ≤ b ∧ b < 9 * n + (m + 1)) := by omega
        simp only [q_up, q_scp, hb, and_false, if_false, true_and, h2, h3]
  · simp [q_up, q_scp, ha]
/-- the hand of person a after the first n colours lost f -/
def q_subh (V : q_V) (a : Nat) (f : Nat → Int32) (n : Nat) : q_V := fun i j => if i = 69 ∧ 8 * a ≤ j ∧ j < 8 * a + n then V i j - f (j - 8 * a) else V i j
theorem q_subh_0 (V : q_V) (a : Nat) (f : Nat → Int32) : q_subh V a f 0 = V := by
  funext i j
  exact if_neg (by omega)
theorem q_subh_at (V : q_V) (a : Nat) (f : Nat → Int32) (n : Nat) : q_subh V a f n 69 (8 * a + n) = V 69 (8 * a + n) := if_neg (by omega)
theorem q_subh_succ (V : q_V) (a : Nat) (f : Nat → Int32) (n : Nat) : q_up (q_subh V a f n) 69 (8 * a + n) (q_subh V a f n 69 (8 * a + n) - f n) = q_subh V a f (n + 1) := by
  rw [q_subh_at]
  funext i j
  by_cases hi : i = 69
  · subst hi
    by_cases hj : j = 8 * a + n
    · subst hj
      simp [q_up, q_subh]
    · by_cases h2 : 8 * a ≤ j ∧ j < 8 * a + n
      · simp [q_up, q_subh, hj, h2, show j < 8 * a + (n + 1) by omega]
      · have h3 : ¬ (8 * a ≤ j ∧ j < 8 * a + (n + 1)) := by omega
        simp only [q_up, q_subh, hj, and_false, if_false, true_and, h2, h3]
  · simp [q_up, q_subh, hi]
def q_addh (V : q_V) (a : Nat) (f : Nat → Int32) (n : Nat) : q_V := fun i j => if i = 69 ∧ 8 * a ≤ j ∧ j < 8 * a + n then V i j + f (j - 8 * a) else V i j
theorem q_addh_0 (V : q_V) (a : Nat) (f : Nat → Int32) : q_addh V a f 0 = V := by
  funext i j
  exact if_neg (by omega)
theorem q_addh_at (V : q_V) (a : Nat) (f : Nat → Int32) (n : Nat) : q_addh V a f n 69 (8 * a + n) = V 69 (8 * a + n) := if_neg (by omega)
theorem q_addh_succ (V : q_V) (a : Nat) (f : Nat → Int32) (n : Nat) : q_up (q_addh V a f n) 69 (8 * a + n) (q_addh V a f n 69 (8 * a + n) + f n) = q_addh V a f (n + 1) := by
  rw [q_addh_at]
  funext i j
  by_cases hi : i = 69
  · subst hi
    by_cases hj : j = 8 * a + n
    · subst hj
      simp [q_up, q_addh]
    · by_cases h2 : 8 * a ≤ j ∧ j < 8 * a + n
      · simp [q_up, q_addh, hj, h2, show j < 8 * a + (n + 1) by omega]
      · have h3 : ¬ (8 * a ≤ j ∧ j < 8 * a + (n + 1)) := by omega
        simp only [q_up, q_addh, hj, and_false, if_false, true_and, h2, h3]
  · simp [q_up, q_addh, hi]
/-- how many are ahead of person k, by what row holds -/
noncomputable def q_rk (g : Nat → Int64) (k : Nat) : Nat := q_ct (fun i => g k < g i ∨ (g i = g k ∧ i < k)) 7
noncomputable def q_mfd (g : Nat → Int64) (x : Int32) : Nat → Int32
  | 0 => 0
  | k + 1 => if nI (q_rk g k) = x then nI k else q_mfd g x k
theorem q_mstory_up (V : q_V) (pa : Nat) : ∀ (n : Nat) (x : Int32), q_mstory V pa n = q_mstory (q_up V 19 0 x) pa n
  | 0, _ => rfl
  | k + 1, x => by
    show q_mstory V pa k + _ = q_mstory (q_up V 19 0 x) pa k + _
    rw [q_mstory_up V pa k x]
    rfl
