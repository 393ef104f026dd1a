noncomputable def q_mneeds (V : q_V) (pa : Nat) (y : Int32) : Nat := q_ct (q_mneed V pa (q_n (V 73 pa)) y) (q_n (V 73 pa) * q_n (V 74 pa))
theorem q_mok_n {V : q_V} {pa w h : Nat} (g : q_mok V pa w h) : q_n (V 73 pa) = w ∧ q_n (V 74 pa) = h := by
  obtain ⟨a1, a2, a3, a4, a5, a6⟩ := g
  rw [a1, a2]
  exact ⟨q_n_nI (by omega), q_n_nI (by omega)⟩
theorem q_gok_n {V : q_V} {i w h : Nat} (g : q_gok V i w h) : q_n (V (27 + i) 1) = w ∧ q_n (V (27 + i) 2) = h := by
  obtain ⟨a1, a2, a3, a4, a5, a6⟩ := g
  rw [a1, a2]
  exact ⟨q_n_nI (by omega), q_n_nI (by omega)⟩
/-- the beads of the colour y in the hands of the first k people, and on the stall -/
def q_mhs (V : q_V) (c : Nat) : Nat → Int32
  | 0 => V 70 c
  | k + 1 => q_mhs V c k + V 69 (8 * k + c)
noncomputable def q_mbelt (V : q_V) (b : Nat) (y : Int32) : Int32 := if V 78 b = -1 then 0 else nI (q_mneeds V (q_n (V 78 b)) y)
noncomputable def q_mbs (V : q_V) (c : Nat) : Nat → Int32
  | 0 => q_mhs V c 7
  | k + 1 => q_mbs V c k + q_mbelt V k (nI c)
/-- what the reference's belts and patterns are, where there are n patterns -/
def q_mpats (V : q_V) (n : Nat) : Prop := ∀ pa, pa < n → q_mok V pa (q_n (V 73 pa)) (q_n (V 74 pa))
def q_mbelts (V : q_V) (n : Nat) : Prop := ∀ b, b < 20 → V 78 b = -1 ∨ ∃ pa, pa < n ∧ V 78 b = nI pa
def q_isb (V : q_V) (x : Int32) : Prop := ∃ b, b < 20 ∧ x = nI b ∧ ¬ V 78 b = -1
theorem q_nI_ne1 {n : Nat} (h : n < 2 ^ 31) : ¬ nI n = -1 := fun e => by
  have h1 : (nI n).toInt = (-1 : Int32).toInt := by rw [e]
  rw [nI_toInt h] at h1
  have h2 : ((-1 : Int32).toInt) = -1 := by decide
  omega
/-- n places of row k1 come over those of row k2, from the place off on -/
def q_cpyo (V : q_V) (k1 k2 off n : Nat) : q_V := fun a b => if a = k2 ∧ off ≤ b ∧ b < off + n then V k1 (b - off) else V a b
theorem q_cpyo_0 (V : q_V) (k1 k2 off : Nat) : q_cpyo V k1 k2 off 0 = V := by
  funext a b
  exact if_neg (by omega)
theorem q_cpyo_succ (V : q_V) {k1 k2 : Nat} (off n : Nat) (hk : k1 ≠ k2) : q_up (q_cpyo V k1 k2 off n) k2 (off + n) (q_cpyo V k1 k2 off n k1 n) = q_cpyo V k1 k2 off (n + 1) := by
  have e1 : q_cpyo V k1 k2 off n k1 n = V k1 n := if_neg (fun z => hk z.1)
  rw [e1]
  funext a b
  by_cases ha : a = k2
  · subst ha
    by_cases hb : b = off + n
    · subst hb
      simp [q_up, q_cpyo]
    · by_cases h2 : off ≤ b ∧ b < off + n
      · simp [q_up, q_cpyo, hb, h2, show b < off + (n + 1) by omega]
      · have h3 : ¬ (off ≤ b ∧ b < off + (n + 1)) := by omega
        simp only [q_up, q_cpyo, hb, and_false, if_false, true_and, h2, h3]
  · simp [q_up, q_cpyo, ha]
theorem q_up_same {V : q_V} {k j : Nat} {x : Int32} (h : V k j = x) : q_up V k j x = V := by
  funext a b
  by_cases e : a = k ∧ b = j
  · obtain ⟨rfl, rfl⟩ := e
    rw [q_up_self, h]
  · rw [q_up_ne V x e]
noncomputable def q_b (P : Prop) (d : Nat) : Nat := @ite Nat P (Classical.propDecidable P) d 0
theorem q_b_y {P : Prop} (h : P) (d : Nat) : q_b P d = d := if_pos h
theorem q_b_n {P : Prop} (h : ¬ P) (d : Nat) : q_b P d = 0 := if_neg h
noncomputable def q_w01 (P : Prop) : Int32 := @ite Int32 P (Classical.propDecidable P) 1 0
theorem q_w01_y {P : Prop} (h : P) : q_w01 P = 1 := if_pos h
theorem q_w01_n {P : Prop} (h : ¬ P) : q_w01 P = 0 := if_neg h
theorem q_w01_nar (P : Prop) : narrow .boolean (.int (q_w01 P)) = .int (q_w01 P) := by
  by_cases h : P
  · rw [q_w01_y h]; rfl
  · rw [q_w01_n h]; rfl
/-- which pattern is the origin of the one with the number n, at the reference -/
def q_malk (V : q_V) (n o k : Nat) : Prop := q_malike V n (q_n (V 73 n)) (q_n (V 74 n)) k o (q_n (V 73 o)) (q_n (V 74 o))
def q_morg (V : q_V) (n o : Nat) : Prop := o ≤ n ∧ (o < n → ∃ k, k < 8 ∧ q_malk V n o k) ∧ ∀ o', o' < o → ¬ ∃ k, k < 8 ∧ q_malk V n o' k
section QLVE
variable {σ : q_E} {p : Program} {l : Launch} {e : Env} {R : Room} {s : State} {m : MethodId} {args : Array Value} {below : List Frame} {meth : Method} {c : Code} {Q : State → Prop} {nL cells slots : Nat} {V : q_V} {G : q_G} {lv lv' : List (Nat × Value)} {pc : Nat} {st : List Value}
theorem q_lve (h : lv = lv') (kk : q_W σ p l e R s m args below meth c Q nL cells slots V G lv' pc st) : q_W σ p l e R s m args below meth c Q nL cells slots V G lv pc st := by subst h; exact kk
end QLVE
theorem q_up_up (V : q_V) (k j : Nat) (x y : Int32) : q_up (q_up V k j x) k j y = q_up V k j y := by
  funext a b
  by_cases e : a = k ∧ b = j
  · simp [q_up, e]
  · simp only [q_up, if_neg e]
