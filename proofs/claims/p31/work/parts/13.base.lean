/-- x is one of the first n numbers -/
def q_ok (n : Nat) (x : Int32) : Prop := ∃ j, j < n ∧ x = nI j
theorem q_ok_nI {n j : Nat} (h : j < n) : q_ok n (nI j) := ⟨j, h, rfl⟩
theorem q_ok_of {n : Nat} {x : Int32} (h1 : ¬ x < 0) (h2 : x < nI n) (hn : n < 2 ^ 31) : q_ok n x := by
  rcases pk_ix x hn with h | h | ⟨j, h, e⟩
  · exact absurd h h1
  · exact absurd h2 (Int32.not_lt.mpr h)
  · exact ⟨j, h, e⟩
theorem q_ok_of2 {n : Nat} {x : Int32} (h1 : ¬ x < 0) (h2 : ¬ nI n ≤ x) (hn : n < 2 ^ 31) : q_ok n x := q_ok_of h1 (Int32.not_le.mp h2) hn
theorem q_ok_neg {n : Nat} {x : Int32} (h : x < 0) (hn : n < 2 ^ 31) : ¬ q_ok n x := by
  rintro ⟨j, hj, rfl⟩
  exact nI_pos (by omega) h
theorem q_ok_ge {n : Nat} {x : Int32} (h : ¬ x < nI n) (hn : n < 2 ^ 31) : ¬ q_ok n x := by
  rintro ⟨j, hj, rfl⟩
  exact h (nI_lt hj hn)
theorem q_ok_ge2 {n : Nat} {x : Int32} (h : nI n ≤ x) (hn : n < 2 ^ 31) : ¬ q_ok n x := q_ok_ge (Int32.not_lt.mpr h) hn
theorem q_nI_inj {a b : Nat} (h : nI a = nI b) (ha : a < 2 ^ 31) (hb : b < 2 ^ 31) : a = b := (nI_eq ha hb).mp h
theorem q_ix {r c w h : Nat} (hr : r < h) (hc : c < w) : r * w + c < w * h := by
  have h1 : (r + 1) * w ≤ h * w := Nat.mul_le_mul_right w hr
  rw [Nat.add_mul, Nat.mul_comm h w] at h1
  omega
/-- a grid's sides -/
def q_gok (V : q_V) (i w h : Nat) : Prop := V (27 + i) 1 = nI w ∧ V (27 + i) 2 = nI h ∧ 1 ≤ w ∧ w ≤ 8 ∧ 1 ≤ h ∧ h ≤ 6
theorem q_gwh {V : q_V} {i w h : Nat} (g : q_gok V i w h) : w * h ≤ 48 := Nat.mul_le_mul g.2.2.2.1 g.2.2.2.2.2
theorem q_gone {V : q_V} {i w h w2 h2 : Nat} (g : q_gok V i w h) (g2 : q_gok V i w2 h2) : w = w2 ∧ h = h2 := by
  obtain ⟨a1, a2, a3, a4, a5, a6⟩ := g
  obtain ⟨b1, b2, b3, b4, b5, b6⟩ := g2
  exact ⟨q_nI_inj (a1.symm.trans b1) (by omega) (by omega), q_nI_inj (a2.symm.trans b2) (by omega) (by omega)⟩
/-- how many of the first n have p -/
noncomputable def q_ct (p : Nat → Prop) : Nat → Nat
  | 0 => 0
  | n + 1 => q_ct p n + @ite Nat (p n) (Classical.propDecidable _) 1 0
theorem q_ct_y {p : Nat → Prop} {n : Nat} (h : p n) : q_ct p (n + 1) = q_ct p n + 1 := by
  show q_ct p n + _ = _
  rw [if_pos h]
theorem q_ct_n {p : Nat → Prop} {n : Nat} (h : ¬ p n) : q_ct p (n + 1) = q_ct p n := by
  show q_ct p n + _ = _
  rw [if_neg h, Nat.add_zero]
theorem q_ct_congr {p q : Nat → Prop} : ∀ {n : Nat}, (∀ k, k < n → (p k ↔ q k)) → q_ct p n = q_ct q n
  | 0, _ => rfl
  | n + 1, h => by
    have ih := q_ct_congr (n := n) (fun k hk => h k (Nat.lt_succ_of_lt hk))
    by_cases hp : p n
    · rw [q_ct_y hp, q_ct_y ((h n (Nat.lt_succ_self n)).mp hp), ih]
    · rw [q_ct_n hp, q_ct_n (fun z => hp ((h n (Nat.lt_succ_self n)).mpr z)), ih]
theorem q_ct_le (p : Nat → Prop) : ∀ n, q_ct p n ≤ n
  | 0 => Nat.le_refl 0
  | n + 1 => by
    have ih := q_ct_le p n
    by_cases hp : p n
    · rw [q_ct_y hp]; omega
    · rw [q_ct_n hp]; omega
def q_fill (V : q_V) (k : Nat) (x : Int32) (n : Nat) : q_V := fun a b => if a = k ∧ b < n then x else V a b
theorem q_fill_0 (V : q_V) (k : Nat) (x : Int32) : q_fill V k x 0 = V := by
  funext a b
  simp [q_fill]
theorem q_fill_succ (V : q_V) (k : Nat) (x : Int32) (n : Nat) : q_up (q_fill V k x n) k n x = q_fill V k x (n + 1) := by
  funext a b
  by_cases ha : a = k
  · by_cases hb : b = n
    · simp [q_up, q_fill, ha, hb]
    · by_cases hb2 : b < n
      · simp [q_up, q_fill, ha, hb, hb2, Nat.lt_succ_of_lt hb2]
      · simp [q_up, q_fill, ha, hb, hb2, show ¬ b < n + 1 by omega]
  · simp [q_up, q_fill, ha]
/-- the first n cells of k1 come over those of k2 -/
def q_cpy (V : q_V) (k1 k2 n : Nat) : q_V := fun a b => if a = k2 ∧ b < n then V k1 b else V a b
def q_bi (b : Bool) : Int32 := if b then 1 else 0
theorem q_bi_t : q_bi true = 1 := rfl
theorem q_bi_f : q_bi false = 0 := rfl
theorem q_bi_nar (b : Bool) : narrow .boolean (.int (q_bi b)) = .int (q_bi b) := by cases b <;> rfl
theorem q_bi_eq0 (b : Bool) : q_bi b = 0 ↔ b = false := by cases b <;> simp [q_bi]
theorem q_bi_ne0 (b : Bool) : ¬ q_bi b = 0 ↔ b = true := by cases b <;> simp [q_bi]
/-- the answer of a question -/
def q_is (P : Prop) (r : Int32) : Prop := (P ∧ r = 1) ∨ (¬ P ∧ r = 0)
theorem q_is_y {P : Prop} (h : P) : q_is P 1 := Or.inl ⟨h, rfl⟩
theorem q_is_n {P : Prop} (h : ¬ P) : q_is P 0 := Or.inr ⟨h, rfl⟩
theorem q_is_eq {P : Prop} {r : Int32} (h : q_is P r) : r = 0 ↔ ¬ P := by
  rcases h with ⟨h, rfl⟩ | ⟨h, rfl⟩
  · simp [h]
  · simp [h]
theorem q_is_ne {P : Prop} {r : Int32} (h : q_is P r) : ¬ r = 0 ↔ P := by
  rcases h with ⟨h, rfl⟩ | ⟨h, rfl⟩
  · simp [h]
  · simp [h]
theorem q_is_nar {P : Prop} {r : Int32} (h : q_is P r) : narrow .boolean (.int r) = .int r := by
  rcases h with ⟨h, rfl⟩ | ⟨h, rfl⟩ <;> rfl
theorem q_is_iff {P P' : Prop} {r : Int32} (h : q_is P r) (e : P ↔ P') : q_is P' r := by
  rcases h with ⟨h, rfl⟩ | ⟨h, rfl⟩
  · exact Or.inl ⟨e.mp h, rfl⟩
  · exact Or.inr ⟨fun z => h (e.mpr z), rfl⟩
abbrev xI : String := "java/lang/IndexOutOfBoundsException"
abbrev xA : String := "java/lang/IllegalArgumentException"
abbrev xS : String := "java/lang/IllegalStateException"
def q_src (k w h c r : Nat) : Nat × Nat :=
  let q : Nat × Nat := if k % 4 = 1 then (r, h - 1 - c) else if k % 4 = 2 then (w - 1 - c, h - 1 - r) else if k % 4 = 3 then (w - 1 - r, c) else (c, r)
  if 4 ≤ k then (w - 1 - q.1, q.2) else q
def q_ow (k w h : Nat) : Nat := if k % 2 = 1 then h else w
def q_oh (k w h : Nat) : Nat := if k % 2 = 1 then w else h
theorem q_src_in {k w h c r : Nat} (hc : c < q_ow k w h) (hr : r < q_oh k w h) : (q_src k w h c r).1 < w ∧ (q_src k w h c r).2 < h := by
  unfold q_ow at hc
  unfold q_oh at hr
  have hk : k % 4 = 0 ∨ k % 4 = 1 ∨ k % 4 = 2 ∨ k % 4 = 3 := by omega
  rcases hk with e | e | e | e
  · rw [if_neg (by omega)] at hc hr
    by_cases h4 : 4 ≤ k <;> simp [q_src, e, h4] <;> omega
  · rw [if_pos (by omega)] at hc hr
    by_cases h4 : 4 ≤ k <;> simp [q_src, e, h4] <;> omega
  · rw [if_neg (by omega)] at hc hr
    by_cases h4 : 4 ≤ k <;> simp [q_src, e, h4] <;> omega
  · rw [if_pos (by omega)] at hc hr
    by_cases h4 : 4 ≤ k <;> simp [q_src, e, h4] <;> omega
theorem q_and3 {k : Nat} (hk : k < 8) : nI k &&& 3 = nI (k % 4) := by
  have : ∀ k, k < 8 → nI k &&& 3 = nI (k % 4) := by decide +kernel
  exact this k hk
theorem q_and1 {k : Nat} (hk : k < 8) : nI k &&& 1 = nI (k % 2) := by
  have : ∀ k, k < 8 → nI k &&& 1 = nI (k % 2) := by decide +kernel
  exact this k hk
theorem q_and4 {k : Nat} (hk : k < 8) : nI k &&& 4 = nI (if 4 ≤ k then 4 else 0) := by
  have : ∀ k, k < 8 → nI k &&& 4 = nI (if 4 ≤ k then 4 else 0) := by decide +kernel
  exact this k hk
section QMORE
variable {σ : q_E} {p : Program} {l : Launch} {e : Env} {R : Room} {s : State} {m : MethodId} {args : Array Value} {below : List Frame} {meth : Method} {c : Code} {Q : State → Prop} {nL cells slots : Nat} {V : q_V} {G : q_G} {lv : List (Nat × Value)} {pc : Nat} {st : List Value} {cc : ByteArray} {own : String} {Ts : List Cond}
theorem q_tableIn (C : q_C σ p s m args c cc nL own Ts) {dflt lo hi : Int} {offs : Array Int} {len : Nat} {x : Int32} {off : Int} (tgt : Nat) (hd : decode cc pc = .ok (.tableswitch dflt lo hi offs, len)) (h1 : ¬ x.toInt < lo) (h2 : ¬ hi < x.toInt) (ho : offs[(x.toInt - lo).toNat]? = some off) (ht : (pc : Int) + off = (tgt : Int)) (kk : q_W σ p l e R s m args below meth c Q nL cells slots V G lv tgt st) : q_W σ p l e R s m args below meth c Q nL cells slots V G lv pc (.int x :: st) := fun H locs ls hP hS hl => lv_tableIn C.1 C.2.1 hd h1 h2 ho ht (kk H locs ls hP hS hl)
theorem q_tableOut (C : q_C σ p s m args c cc nL own Ts) {dflt lo hi : Int} {offs : Array Int} {len : Nat} {x : Int32} (tgt : Nat) (hd : decode cc pc = .ok (.tableswitch dflt lo hi offs, len)) (h : x.toInt < lo ∨ hi < x.toInt) (ht : (pc : Int) + dflt = (tgt : Int)) (kk : q_W σ p l e R s m args below meth c Q nL cells slots V G lv tgt st) : q_W σ p l e R s m args below meth c Q nL cells slots V G lv pc (.int x :: st) := fun H locs ls hP hS hl => lv_tableOut C.1 C.2.1 hd h ht (kk H locs ls hP hS hl)
theorem q_copyI (C : q_C σ p s m args c cc nL own Ts) {k1 k2 n1 n2 n index : Nat} (hk1 : q_isI k1 n1) (hk2 : q_isI k2 n2) (h1 : n ≤ n1) (h2 : n ≤ n2) (hn : n < 2 ^ 31) (w1 : Cond.methodLink own index arraycopyName ∈ Ts) (w2 : Cond.native arraycopyName ∈ Ts) (w3 : Cond.static arraycopyName ∈ Ts) (w4 : Cond.initialized "java/lang/System" ∈ Ts) (hf : 1 ≤ R.frames) (hl9 : (st.map fun v => v.category).sum + (nativeFrameWords "java/lang/System" "arraycopy" 5 + 11) ≤ R.locals) (hd : decode cc pc = .ok (.invokestatic index, 3)) (kk : q_W σ p l e R s m args below meth c Q nL cells slots (q_cpy V k1 k2 n) G lv (pc + 3) st) : q_W σ p l e R s m args below meth c Q nL cells slots V G lv pc (.int (nI n) :: .int (nI 0) :: .ref (σ.2.1 k2) :: .int (nI 0) :: .ref (σ.2.1 k1) :: st) := fun H locs ls hP hS hl => by
  have hW := C.2.2.2.2.1
  have e0 : (nI 0).toNatClampNeg = 0 := rfl
  have en : (nI n).toNatClampNeg = n := nI_clamp hn
  refine va_copyi C.1 C.2.1 (by rw [hl.1, C.2.2.1]) C.2.2.2.1 (hW _ w1) (hW _ w2) (hW _ w3) (hW _ w4) C.2.2.2.2.2.1 hP (q_D C.2.2.2.2.2.2.1) hS k1 k2 0 0 ((q_ws_at hk1.1).trans (by rw [q_en1 hk1.2.1, hk1.2.2])) ((q_ws_at hk2.1).trans (by rw [q_en1 hk2.2.1, hk2.2.2])) rfl rfl rfl (by decide) (by decide) (nI_pos hn) (by rw [e0, en]; omega) (by rw [e0, en]; omega) (fun _ _ => rfl) hf hl9 hd (fun H1 locs1 g1 _ g3 => ?_)
  rw [e0, en] at g1
  rw [q_ws_set (V' := q_cpy V k1 k2 n) (G' := G) (by
    rw [q_en1 hk2.2.1, hk2.2.2]
    congr 5
    funext b
    by_cases hb : b < n
    · simp [q_cpy, va_cpy, hb]
    · simp [q_cpy, va_cpy, hb]) (fun a ha => ⟨by funext b; simp [q_cpy, ha], rfl⟩)] at g1
  exact kk H1 locs1 ls g1 g3 hl
theorem q_max (C : q_C σ p s m args c cc nL own Ts) {x y : Int32} {index : Nat} (w1 : Cond.methodLink own index Lib.Math.max.name ∈ Ts) (w2 : Cond.static Lib.Math.max.name ∈ Ts) (w3 : Cond.initialized "java/lang/Math" ∈ Ts) (w4 : Cond.code Lib.Math.max.name Lib.Math.max.code 2 (some .int) ∈ Ts) (hf : 1 ≤ R.frames) (hl9 : (st.map fun v => v.category).sum + 13 ≤ R.locals) (hc : cells ≤ R.cells) (hs : slots ≤ R.slots) (hd : decode cc pc = .ok (.invokestatic index, 3)) (kk : q_W σ p l e R s m args below meth c Q nL cells slots V G lv (pc + 3) (.int (if x < y then y else x) :: st)) : q_W σ p l e R s m args below meth c Q nL cells slots V G lv pc (.int y :: .int x :: st) := fun H locs ls hP hS hl => by
  have hW := C.2.2.2.2.1
  exact va_mmax C.1 C.2.1 (by rw [hl.1, C.2.2.1]) C.2.2.2.1 (hW _ w1) (hW _ w2) (hW _ w3) (hW _ w4) hf hl9 hc hs hd (kk H locs ls hP hS hl)
end QMORE
/-- the image k of grid i is alike to grid j -/
def q_alike (V : q_V) (i w h k j ow oh : Nat) : Prop := ow = q_ow k w h ∧ oh = q_oh k w h ∧ ∀ r c, r < oh → c < ow → V (48 + i) ((q_src k w h c r).2 * w + (q_src k w h c r).1) = V (48 + j) (r * ow + c)
/-- the grid j (sw columns, sh rows) stands in grid i (w columns) at the column cn and the row rn -/
def q_shows (V : q_V) (i w j sw sh cn rn : Nat) : Prop := ∀ d t, d < sh → t < sw → V (48 + i) ((rn + d) * w + (cn + t)) = V (48 + j) (d * sw + t)
noncomputable def q_places (V : q_V) (i w h j sw sh : Nat) : Nat := fb_sm (fun r => q_ct (fun c => q_shows V i w j sw sh c r) (w + 1 - sw)) (h + 1 - sh)
