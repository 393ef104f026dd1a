def q_pat1 (V : q_V) (n w h : Nat) (x : Int32) : q_V := q_up (q_cpyo (q_up (q_up (q_up (q_up V 19 0 (nI 0)) 73 n (nI w)) 74 n (nI h)) 76 n x) 72 75 (48 * n) 48) 19 7 (nI (n + 1))
theorem q_pat1_mok {V : q_V} {n w h : Nat} {x : Int32} (hp : q_mpats V n) (hw1 : 1 ≤ w) (hw8 : w ≤ 8) (hh1 : 1 ≤ h) (hh6 : h ≤ 6) : ∀ pa, pa ≤ n → q_mok (q_pat1 V n w h x) pa (q_n (q_pat1 V n w h x 73 pa)) (q_n (q_pat1 V n w h x 74 pa)) := by
  intro pa hpa
  by_cases e : pa = n
  · subst e
    have e1 : q_pat1 V pa w h x 73 pa = nI w := by simp [q_pat1, q_up, q_cpyo]
    have e2 : q_pat1 V pa w h x 74 pa = nI h := by simp [q_pat1, q_up, q_cpyo]
    rw [e1, e2, q_n_nI (by omega), q_n_nI (by omega)]
    exact ⟨e1, e2, hw1, hw8, hh1, hh6⟩
  · have e1 : q_pat1 V n w h x 73 pa = V 73 pa := by simp [q_pat1, q_up, q_cpyo, e]
    have e2 : q_pat1 V n w h x 74 pa = V 74 pa := by simp [q_pat1, q_up, q_cpyo, e]
    have h9 := hp pa (by omega)
    rw [e1, e2]
    exact ⟨e1.trans h9.1, e2.trans h9.2.1, h9.2.2⟩
theorem q_m1_lt {j : Nat} (hj : j < 1000) : nI j - nI 1 < 0 ↔ j = 0 := by
  constructor
  · intro h
    cases j with
    | zero => rfl
    | succ k =>
      rw [pk_sub (Nat.le_add_left 1 k), Nat.add_sub_cancel] at h
      exact absurd h (nI_pos (by omega))
  · rintro rfl
    decide
theorem q_dec (j : Nat) : nI j + Int32.ofInt (-1) = nI j - nI 1 := by
  rw [Int32.sub_eq_add_neg]
  rfl
def q_alk (U : q_V) (n o : Nat) : Prop := ∃ k, k < 8 ∧ q_malk U n o k
