/-- x is one of the first n numbers -/
def q_ok (n : Nat) (x : Int32) : Prop := ∃ j, j < n ∧ x = nI j
theorem q_ok_nI {n j : Nat} (h : j < n) : q_ok n (nI j) := ⟨j, h, rfl⟩
theorem q_ok_of {n : Nat} {x : Int32} (h1 : ¬ x < 0) (h2 : x < nI n) (hn : n < 2 ^ 31) : q_ok n x := by
  rcases pk_ix x hn with h | h | ⟨j, h, e⟩
  · exact absurd h h1
  · exact absurd h2 (Int32.not_lt.mpr h)
  · exact ⟨j, h, e⟩
theorem q_ok_of2 {n : Nat} {x : Int32} (h1 : ¬ x < 0) (h2 : ¬ nI n ≤ x) (hn : n < 2 ^ 31) : q_ok n x := q_ok_of h1 (Int32.not_le.mp h2) hn
theorem q_ok_neg {n : Nat} {x : Int32} (h : x < 0) (hn : n < 2 ^ 31) : ¬ q_ok n x := by
  rintro ⟨j, hj, rfl⟩
  exact nI_pos (by omega) h
theorem q_ok_ge {n : Nat} {x : Int32} (h : ¬ x < nI n) (hn : n < 2 ^ 31) : ¬ q_ok n x := by
  rintro ⟨j, hj, rfl⟩
  exact h (nI_lt hj hn)
theorem q_ok_ge2 {n : Nat} {x : Int32} (h : nI n ≤ x) (hn : n < 2 ^ 31) : ¬ q_ok n x := q_ok_ge (Int32.not_lt.mpr h) hn
theorem q_nI_inj {a b : Nat} (h : nI a = nI b) (ha : a < 2 ^ 31) (hb : b < 2 ^ 31) : a = b := (nI_eq ha hb).mp h
theorem q_ix {r c w h : Nat} (hr : r < h) (hc : c < w) : r * w + c < w * h := by
  have h1 : (r + 1) * w ≤ h * w := Nat.mul_le_mul_right w hr
  rw [Nat.add_mul, Nat.mul_comm h w] at h1
  omega
/-- a grid's sides -/
def q_gok (V : q_V) (i w h : Nat) : Prop := V (27 + i) 1 = nI w ∧ V (27 + i) 2 = nI h ∧ 1 ≤ w ∧ w ≤ 8 ∧ 1 ≤ h ∧ h ≤ 6
theorem q_gwh {V : q_V} {i w h : Nat} (g : q_gok V i w h) : w * h ≤ 48 := Nat.mul_le_mul g.2.2.2.1 g.2.2.2.2.2
theorem q_gone {V : q_V} {i w h w2 h2 : Nat} (g : q_gok V i w h) (g2 : q_gok V i w2 h2) : w = w2 ∧ h = h2 := by
  obtain ⟨a1, a2, a3, a4, a5, a6⟩ := g
  obtain ⟨b1, b2, b3, b4, b5, b6⟩ := g2
  exact ⟨q_nI_inj (a1.symm.trans b1) (by omega) (by omega), q_nI_inj (a2.symm.trans b2) (by omega) (by omega)⟩
/-- how many of the first n have p -/
def q_ct (p : Nat → Prop) (d : ∀ k, Decidable (p k)) : Nat → Nat
  | 0 => 0
  | n + 1 => q_ct p d n + (if p n then 1 else 0)
def q_bi (b : Bool) : Int32 := if b then 1 else 0
theorem q_bi_t : q_bi true = 1 := rfl
theorem q_bi_f : q_bi false = 0 := rfl
theorem q_bi_nar (b : Bool) : narrow .boolean (.int (q_bi b)) = .int (q_bi b) := by cases b <;> rfl
theorem q_bi_eq0 (b : Bool) : q_bi b = 0 ↔ b = false := by cases b <;> simp [q_bi]
theorem q_bi_ne0 (b : Bool) : ¬ q_bi b = 0 ↔ b = true := by cases b <;> simp [q_bi]
/-- the answer of a question -/
def q_is (P : Prop) (r : Int32) : Prop := (P ∧ r = 1) ∨ (¬ P ∧ r = 0)
theorem q_is_y {P : Prop} (h : P) : q_is P 1 := Or.inl ⟨h, rfl⟩
theorem q_is_n {P : Prop} (h : ¬ P) : q_is P 0 := Or.inr ⟨h, rfl⟩
theorem q_is_eq {P : Prop} {r : Int32} (h : q_is P r) : r = 0 ↔ ¬ P := by
  rcases h with ⟨h, rfl⟩ | ⟨h, rfl⟩
  · simp [h]
  · simp [h]
theorem q_is_ne {P : Prop} {r : Int32} (h : q_is P r) : ¬ r = 0 ↔ P := by
  rcases h with ⟨h, rfl⟩ | ⟨h, rfl⟩
  · simp [h]
  · simp [h]
theorem q_is_nar {P : Prop} {r : Int32} (h : q_is P r) : narrow .boolean (.int r) = .int r := by
  rcases h with ⟨h, rfl⟩ | ⟨h, rfl⟩ <;> rfl
theorem q_is_iff {P P' : Prop} {r : Int32} (h : q_is P r) (e : P ↔ P') : q_is P' r := by
  rcases h with ⟨h, rfl⟩ | ⟨h, rfl⟩
  · exact Or.inl ⟨e.mp h, rfl⟩
  · exact Or.inr ⟨fun z => h (e.mpr z), rfl⟩
abbrev xI : String := "java/lang/IndexOutOfBoundsException"
abbrev xA : String := "java/lang/IllegalArgumentException"
abbrev xS : String := "java/lang/IllegalStateException"
def q_src (k w h c r : Nat) : Nat × Nat :=
  let q : Nat × Nat := if k % 4 = 1 then (r, h - 1 - c) else if k % 4 = 2 then (w - 1 - c, h - 1 - r) else if k % 4 = 3 then (w - 1 - r, c) else (c, r)
  if 4 ≤ k then (w - 1 - q.1, q.2) else q
def q_ow (k w h : Nat) : Nat := if k % 2 = 1 then h else w
def q_oh (k w h : Nat) : Nat := if k % 2 = 1 then w else h
theorem q_src_in {k w h c r : Nat} (hc : c < q_ow k w h) (hr : r < q_oh k w h) : (q_src k w h c r).1 < w ∧ (q_src k w h c r).2 < h := by
  unfold q_ow at hc
  unfold q_oh at hr
  have hk : k % 4 = 0 ∨ k % 4 = 1 ∨ k % 4 = 2 ∨ k % 4 = 3 := by omega
  rcases hk with e | e | e | e
  · rw [if_neg (by omega)] at hc hr
    by_cases h4 : 4 ≤ k <;> simp [q_src, e, h4] <;> omega
  · rw [if_pos (by omega)] at hc hr
    by_cases h4 : 4 ≤ k <;> simp [q_src, e, h4] <;> omega
  · rw [if_neg (by omega)] at hc hr
    by_cases h4 : 4 ≤ k <;> simp [q_src, e, h4] <;> omega
  · rw [if_pos (by omega)] at hc hr
    by_cases h4 : 4 ≤ k <;> simp [q_src, e, h4] <;> omega
theorem q_and3 {k : Nat} (hk : k < 8) : nI k &&& 3 = nI (k % 4) := by
  have : ∀ k, k < 8 → nI k &&& 3 = nI (k % 4) := by decide +kernel
  exact this k hk
theorem q_and1 {k : Nat} (hk : k < 8) : nI k &&& 1 = nI (k % 2) := by
  have : ∀ k, k < 8 → nI k &&& 1 = nI (k % 2) := by decide +kernel
  exact this k hk
theorem q_and4 {k : Nat} (hk : k < 8) : nI k &&& 4 = nI (if 4 ≤ k then 4 else 0) := by
  have : ∀ k, k < 8 → nI k &&& 4 = nI (if 4 ≤ k then 4 else 0) := by decide +kernel
  exact this k hk
