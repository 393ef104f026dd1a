/-- the class of the throw with the number k -/
def q_xc (L : List String) (k : Nat) (E : String) : Prop := 1 ≤ k ∧ L[k - 1]? = some E
theorem q_xc_i {L : List String} {k j : Nat} {E : String} (h : k = j + 1) (e : L[j]? = some E) : q_xc L k E := by
  subst h
  exact ⟨Nat.le_add_left 1 j, by rw [Nat.add_sub_cancel]; exact e⟩
def q_cisb (V : q_V) (x : Int32) : Prop := ∃ b, b < 20 ∧ x = nI b ∧ ¬ V 6 b = -1
/-- the columns, the rows of grid i -/
def q_gw (V : q_V) (i : Nat) : Nat := q_n (V (27 + i) 1)
def q_gh (V : q_V) (i : Nat) : Nat := q_n (V (27 + i) 2)
def q_cpats (V : q_V) (n : Nat) : Prop := ∀ pa, pa < n → q_gok V (1 + pa) (q_gw V (1 + pa)) (q_gh V (1 + pa))
def q_csgs (V : q_V) (n : Nat) : Prop := ∀ t, t < n → q_gok V (13 + t) (q_gw V (13 + t)) (q_gh V (13 + t))
def q_cbelts (V : q_V) (n : Nat) : Prop := ∀ b, b < 20 → V 6 b = -1 ∨ ∃ pa, pa < n ∧ V 6 b = nI pa
noncomputable def q_cneeds (V : q_V) (pa : Nat) (y : Int32) : Nat := q_ct (fun k => V (48 + (1 + pa)) k = y) (q_gw V (1 + pa) * q_gh V (1 + pa))
def q_chs2 (V : q_V) (c : Nat) : Nat → Int32
  | 0 => V 2 c
  | k + 1 => q_chs2 V c k + V (20 + k) c
noncomputable def q_cbelt (V : q_V) (b : Nat) (y : Int32) : Int32 := if V 6 b = -1 then 0 else nI (q_cneeds V (q_n (V 6 b)) y)
noncomputable def q_cbs (V : q_V) (c : Nat) : Nat → Int32
  | 0 => q_chs2 V c 7
  | k + 1 => q_cbs V c k + q_cbelt V k (nI c)
theorem q_cbelt_n {V : q_V} {b : Nat} {y : Int32} (h : V 6 b = -1) : q_cbelt V b y = 0 := if_pos h
theorem q_cbelt_y {V : q_V} {b pa : Nat} {y : Int32} (h : ¬ V 6 b = -1) (e : V 6 b = nI pa) (hp : pa < 1000) : q_cbelt V b y = nI (q_cneeds V pa y) := by
  unfold q_cbelt
  rw [if_neg h, e, q_n_nI (by omega)]
def q_calk (V : q_V) (n o k : Nat) : Prop := q_alike V (1 + n) (q_gw V (1 + n)) (q_gh V (1 + n)) k (1 + o) (q_gw V (1 + o)) (q_gh V (1 + o))
def q_corg (V : q_V) (n o : Nat) : Prop := o ≤ n ∧ (o < n → ∃ k, k < 8 ∧ q_calk V n o k) ∧ ∀ o', o' < o → ¬ ∃ k, k < 8 ∧ q_calk V n o' k
noncomputable def q_cstory (V : q_V) (pa : Nat) : Nat → Int32
  | 0 => 0
  | k + 1 => q_cstory V pa k + V 11 k * nI (q_places V (1 + pa) (q_gw V (1 + pa)) (q_gh V (1 + pa)) (13 + k) (q_gw V (13 + k)) (q_gh V (13 + k)))
/-- the hand row of person a after the first n colours lost f, or got it -/
def q_subr (V : q_V) (a : Nat) (f : Nat → Int32) (n : Nat) : q_V := fun i j => if i = 20 + a ∧ j < n then V i j - f j else V i j
def q_addr (V : q_V) (a : Nat) (f : Nat → Int32) (n : Nat) : q_V := fun i j => if i = 20 + a ∧ j < n then V i j + f j else V i j
theorem q_subr_0 (V : q_V) (a : Nat) (f : Nat → Int32) : q_subr V a f 0 = V := by
  funext i j
  exact if_neg (by omega)
theorem q_addr_0 (V : q_V) (a : Nat) (f : Nat → Int32) : q_addr V a f 0 = V := by
  funext i j
  exact if_neg (by omega)
theorem q_subr_at (V : q_V) (a : Nat) (f : Nat → Int32) (n : Nat) : q_subr V a f n (20 + a) n = V (20 + a) n := if_neg (by omega)
theorem q_addr_at (V : q_V) (a : Nat) (f : Nat → Int32) (n : Nat) : q_addr V a f n (20 + a) n = V (20 + a) n := if_neg (by omega)
theorem q_subr_succ (V : q_V) (a : Nat) (f : Nat → Int32) (n : Nat) : q_up (q_subr V a f n) (20 + a) n (q_subr V a f n (20 + a) n - f n) = q_subr V a f (n + 1) := by
  rw [q_subr_at]
  funext i j
  by_cases hi : i = 20 + a
  · subst hi
    by_cases hj : j = n
    · subst hj
      simp [q_up, q_subr]
    · by_cases h2 : j < n
      · simp [q_up, q_subr, hj, h2, Nat.lt_succ_of_lt h2]
      · simp [q_up, q_subr, hj, h2, show ¬ j < n + 1 by omega]
  · simp [q_up, q_subr, hi]
theorem q_addr_succ (V : q_V) (a : Nat) (f : Nat → Int32) (n : Nat) : q_up (q_addr V a f n) (20 + a) n (q_addr V a f n (20 + a) n + f n) = q_addr V a f (n + 1) := by
  rw [q_addr_at]
  funext i j
  by_cases hi : i = 20 + a
  · subst hi
    by_cases hj : j = n
    · subst hj
      simp [q_up, q_addr]
    · by_cases h2 : j < n
      · simp [q_up, q_addr, hj, h2, Nat.lt_succ_of_lt h2]
      · simp [q_up, q_addr, hj, h2, show ¬ j < n + 1 by omega]
  · simp [q_up, q_addr, hi]
