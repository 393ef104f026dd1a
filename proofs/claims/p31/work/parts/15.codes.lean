/-- which answer an operation gives: 0 it returns, else the number of its throw -/
noncomputable def q_c1 (P : Prop) : Nat := @ite Nat P (Classical.propDecidable P) 0 1
noncomputable def q_c2 (P R : Prop) : Nat := @ite Nat P (Classical.propDecidable P) (@ite Nat R (Classical.propDecidable R) 0 2) 1
noncomputable def q_c3 (P R F : Prop) : Nat := @ite Nat P (Classical.propDecidable P) (@ite Nat R (Classical.propDecidable R) (@ite Nat F (Classical.propDecidable F) 0 3) 2) 1
theorem q_c1_0 {P : Prop} (h : P) : q_c1 P = 0 := if_pos h
theorem q_c1_1 {P : Prop} (h : ¬ P) : q_c1 P = 1 := if_neg h
theorem q_c2_0 {P R : Prop} (h : P) (h2 : R) : q_c2 P R = 0 := by unfold q_c2; rw [if_pos h, if_pos h2]
theorem q_c2_1 {P R : Prop} (h : ¬ P) : q_c2 P R = 1 := by unfold q_c2; rw [if_neg h]
theorem q_c2_2 {P R : Prop} (h : P) (h2 : ¬ R) : q_c2 P R = 2 := by unfold q_c2; rw [if_pos h, if_neg h2]
theorem q_c3_0 {P R F : Prop} (h : P) (h2 : R) (h3 : F) : q_c3 P R F = 0 := by unfold q_c3; rw [if_pos h, if_pos h2, if_pos h3]
theorem q_c3_1 {P R F : Prop} (h : ¬ P) : q_c3 P R F = 1 := by unfold q_c3; rw [if_neg h]
theorem q_c3_2 {P R F : Prop} (h : P) (h2 : ¬ R) : q_c3 P R F = 2 := by unfold q_c3; rw [if_pos h, if_neg h2]
theorem q_c3_3 {P R F : Prop} (h : P) (h2 : R) (h3 : ¬ F) : q_c3 P R F = 3 := by unfold q_c3; rw [if_pos h, if_pos h2, if_neg h3]
theorem q_c1_of {P : Prop} (h : q_c1 P = 0) : P := Classical.byContradiction fun z => by rw [q_c1_1 z] at h; cases h
theorem q_c2_of {P R : Prop} (h : q_c2 P R = 0) : P ∧ R := by
  by_cases hP : P
  · by_cases hR : R
    · exact ⟨hP, hR⟩
    · rw [q_c2_2 hP hR] at h; cases h
  · rw [q_c2_1 hP] at h; cases h
theorem q_c3_of {P R F : Prop} (h : q_c3 P R F = 0) : P ∧ R ∧ F := by
  by_cases hP : P
  · by_cases hR : R
    · by_cases hF : F
      · exact ⟨hP, hR, hF⟩
      · rw [q_c3_3 hP hR hF] at h; cases h
    · rw [q_c3_2 hP hR] at h; cases h
  · rw [q_c3_1 hP] at h; cases h
/-- what the reference says behind an operation with the code k: it answers r and leaves W, or notes k -/
def q_mres (V : q_V) (k : Nat) (r0 : Int32) (W : q_V) (r : Int32) (V' : q_V) : Prop := (k = 0 ∧ r0 = r ∧ W = V') ∨ (k ≠ 0 ∧ q_up V 19 0 (nI k) = V')
theorem q_mres_0 {V V' W : q_V} {k : Nat} {r0 r : Int32} (h : k = 0) (h1 : r0 = r) (h2 : W = V') : q_mres V k r0 W r V' := Or.inl ⟨h, h1, h2⟩
theorem q_mres_1 {V V' W : q_V} {k j : Nat} {r0 r : Int32} (h : k = j) (h0 : j ≠ 0) (h1 : q_up V 19 0 (nI j) = V') : q_mres V k r0 W r V' := by
  subst h
  exact Or.inr ⟨h0, h1⟩
noncomputable def q_mstory (V : q_V) (pa : Nat) : Nat → Int32
  | 0 => 0
  | k + 1 => q_mstory V pa k + V 88 k * nI (q_mplaces V k pa (q_n (V 73 pa)) (q_n (V 74 pa)) (q_n (V 85 k)) (q_n (V 86 k)))
