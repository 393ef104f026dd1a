/-! Int32 by its bits (rows bt, b_ .. of the kit's BITS, first family) -/
def bt (x : Int32) (i : Nat) : Bool := x.toBitVec.getLsbD i
theorem b_ext {x y : Int32} (h : ∀ i, i < 32 → bt x i = bt y i) : x = y := Int32.toBitVec_inj.mp (BitVec.eq_of_getLsbD_eq (fun i hi => h i hi))
theorem b_or (x y : Int32) (i : Nat) : bt (x ||| y) i = (bt x i || bt y i) := by unfold bt; rw [Int32.toBitVec_or, BitVec.getLsbD_or]
theorem b_and (x y : Int32) (i : Nat) : bt (x &&& y) i = (bt x i && bt y i) := by unfold bt; rw [Int32.toBitVec_and, BitVec.getLsbD_and]
theorem b_xor (x y : Int32) (i : Nat) : bt (x ^^^ y) i = (bt x i ^^ bt y i) := by unfold bt; rw [Int32.toBitVec_xor, BitVec.getLsbD_xor]
theorem b_m1 : ∀ i, i < 32 → bt (-1) i = true := by decide +kernel
theorem s_l : ∀ n, n < 32 → ((nI n &&& 31).toBitVec.smod 32).toNat = n := by decide +kernel
theorem b_shl (n : Nat) (hn : n < 32) (x : Int32) {i : Nat} (hi : i < 32) : bt (x <<< (nI n &&& 31)) i = (decide (n ≤ i) && bt x (i - n)) := by
  unfold bt
  rw [Int32.toBitVec_shiftLeft]
  show (x.toBitVec <<< ((nI n &&& 31).toBitVec.smod 32).toNat).getLsbD i = _
  rw [s_l n hn, BitVec.getLsbD_shiftLeft]
  rcases Nat.lt_or_ge i n with h | h
  · simp [h, Nat.not_le.mpr h]
  · simp [hi, h, Nat.not_lt.mpr h]
theorem b_sshr (n : Nat) (hn : n < 32) (x : Int32) {i : Nat} (hi : i < 32) : bt (x >>> (nI n &&& 31)) i = if n + i < 32 then bt x (n + i) else bt x 31 := by
  unfold bt
  rw [Int32.toBitVec_shiftRight]
  show (x.toBitVec.sshiftRight ((nI n &&& 31).toBitVec.smod 32).toNat).getLsbD i = _
  rw [s_l n hn, BitVec.getLsbD_sshiftRight, BitVec.msb_eq_getLsbD_last]
  simp [hi]
theorem b_nI (a : Nat) {i : Nat} (hi : i < 32) : bt (nI a) i = a.testBit i := by
  show (BitVec.ofNat 32 a).getLsbD i = _
  rw [BitVec.getLsbD_ofNat]
  simp [hi]
/-! nI and its bits -/
theorem zb_and (a b : Nat) : nI a &&& nI b = nI (a &&& b) := b_ext fun i hi => by rw [b_and, b_nI a hi, b_nI b hi, b_nI _ hi, Nat.testBit_and]
theorem zb_or (a b : Nat) : nI a ||| nI b = nI (a ||| b) := b_ext fun i hi => by rw [b_or, b_nI a hi, b_nI b hi, b_nI _ hi, Nat.testBit_or]
theorem zb_shl (a : Nat) {n : Nat} (hn : n < 32) : nI a <<< (nI n &&& 31) = nI (a * 2 ^ n) := b_ext fun i hi => by
  rw [b_shl n hn _ hi, b_nI _ hi, Nat.testBit_mul_two_pow]
  by_cases h : n ≤ i
  · rw [b_nI a (show i - n < 32 by omega)]
  · simp [h]
theorem zb_top {a : Nat} (ha : a < 2 ^ 31) {i : Nat} (hi : 31 ≤ i) : a.testBit i = false := Nat.testBit_lt_two_pow (Nat.lt_of_lt_of_le ha (Nat.pow_le_pow_right (by decide) hi))
theorem zb_shr {a : Nat} (ha : a < 2 ^ 31) {n : Nat} (hn : n < 32) : nI a >>> (nI n &&& 31) = nI (a / 2 ^ n) := b_ext fun i hi => by
  rw [b_sshr n hn _ hi, b_nI _ hi, Nat.testBit_div_two_pow]
  by_cases h : n + i < 32
  · rw [if_pos h, b_nI a h, Nat.add_comm n i]
  · rw [if_neg h, b_nI a (by omega), zb_top ha (by omega), zb_top ha (by omega)]
theorem zb_and7 (a : Nat) : nI a &&& nI 7 = nI (a % 8) := by
  rw [zb_and, show (7 : Nat) = 2 ^ 3 - 1 from rfl, Nat.and_two_pow_sub_one_eq_mod]
theorem zb_and3 (a : Nat) : nI a &&& nI 3 = nI (a % 4) := by
  rw [zb_and, show (3 : Nat) = 2 ^ 2 - 1 from rfl, Nat.and_two_pow_sub_one_eq_mod]
theorem zb_and1 (a : Nat) : nI a &&& nI 1 = nI (a % 2) := by
  rw [zb_and, show (1 : Nat) = 2 ^ 1 - 1 from rfl, Nat.and_two_pow_sub_one_eq_mod]
theorem zb_7 (m : Nat) : Nat.testBit 7 m = decide (m < 3) := Nat.testBit_two_pow_sub_one 3 m
/-! a grid as the law keeps it: three bits a cell, the columns, the rows -/
def gd (g j : Nat) : Nat := g / 2 ^ (3 * j) % 8
def gat (g x y : Nat) : Nat := gd g (3 * y + x)
def gwd (g : Nat) : Nat := g / 2 ^ 27 % 4
def ghi (g : Nat) : Nat := g / 2 ^ 29 % 4
theorem gd_lt (g j : Nat) : gd g j < 8 := Nat.mod_lt _ (by decide)
theorem gat_lt (g x y : Nat) : gat g x y < 8 := gd_lt g _
theorem gd_bit (g j m : Nat) : (gd g j).testBit m = (decide (m < 3) && g.testBit (m + 3 * j)) := by
  unfold gd
  rw [show (8 : Nat) = 2 ^ 3 from rfl, Nat.testBit_mod_two_pow, Nat.testBit_div_two_pow]
theorem gwd_bit (g m : Nat) : (gwd g).testBit m = (decide (m < 2) && g.testBit (m + 27)) := by
  unfold gwd
  rw [show (4 : Nat) = 2 ^ 2 from rfl, Nat.testBit_mod_two_pow, Nat.testBit_div_two_pow]
theorem ghi_bit (g m : Nat) : (ghi g).testBit m = (decide (m < 2) && g.testBit (m + 29)) := by
  unfold ghi
  rw [show (4 : Nat) = 2 ^ 2 from rfl, Nat.testBit_mod_two_pow, Nat.testBit_div_two_pow]
theorem gd_ext {g u : Nat} (hg : g < 2 ^ 31) (hu : u < 2 ^ 31) (hw : gwd g = gwd u) (hh : ghi g = ghi u) (hd : ∀ j, j < 9 → gd g j = gd u j) : g = u := by
  refine Nat.eq_of_testBit_eq fun i => ?_
  rcases Nat.lt_or_ge i 27 with h | h
  · have e := congrArg (fun z => Nat.testBit z (i % 3)) (hd (i / 3) (by omega))
    simp only [gd_bit] at e
    rw [show i % 3 + 3 * (i / 3) = i by omega, decide_eq_true (show i % 3 < 3 by omega), Bool.true_and, Bool.true_and] at e
    exact e
  · rcases Nat.lt_or_ge i 29 with h2 | h2
    · have e := congrArg (fun z => Nat.testBit z (i - 27)) hw
      simp only [gwd_bit] at e
      rw [show i - 27 + 27 = i by omega, decide_eq_true (show i - 27 < 2 by omega), Bool.true_and, Bool.true_and] at e
      exact e
    · rcases Nat.lt_or_ge i 31 with h3 | h3
      · have e := congrArg (fun z => Nat.testBit z (i - 29)) hh
        simp only [ghi_bit] at e
        rw [show i - 29 + 29 = i by omega, decide_eq_true (show i - 29 < 2 by omega), Bool.true_and, Bool.true_and] at e
        exact e
      · rw [zb_top hg h3, zb_top hu h3]
/-- the cell j of g becomes c -/
def gset (g j c : Nat) : Nat := 2 ^ (3 * j) * (2 ^ 3 * (g / 2 ^ (3 * j + 3)) + c) + g % 2 ^ (3 * j)
theorem gset_bit (g j : Nat) {c : Nat} (hc : c < 8) (i : Nat) : (gset g j c).testBit i = if 3 * j ≤ i ∧ i < 3 * j + 3 then c.testBit (i - 3 * j) else g.testBit i := by
  unfold gset
  rw [Nat.testBit_two_pow_mul_add _ (Nat.mod_lt _ (Nat.two_pow_pos _))]
  by_cases h : i < 3 * j
  · rw [if_pos h, if_neg (by omega), Nat.testBit_mod_two_pow, decide_eq_true h, Bool.true_and]
  · rw [if_neg h, Nat.testBit_two_pow_mul_add _ (show c < 2 ^ 3 from hc)]
    by_cases h2 : i - 3 * j < 3
    · rw [if_pos h2, if_pos (by omega)]
    · rw [if_neg h2, if_neg (by omega), Nat.testBit_div_two_pow, show i - 3 * j - 3 + (3 * j + 3) = i by omega]
theorem gset_lt {g j c : Nat} (hg : g < 2 ^ 31) (hj : j < 9) (hc : c < 8) : gset g j c < 2 ^ 31 := Nat.lt_pow_two_of_testBit _ fun i hi => by
  rw [gset_bit g j hc, if_neg (by omega), zb_top hg hi]
theorem gset_gd {g j c : Nat} (hc : c < 8) (k : Nat) : gd (gset g j c) k = if k = j then c else gd g k := by
  refine Nat.eq_of_testBit_eq fun i => ?_
  rw [gd_bit]
  by_cases hi : i < 3
  · rw [decide_eq_true hi, Bool.true_and, gset_bit g j hc]
    by_cases hk : k = j
    · rw [if_pos hk, if_pos (by omega), show i + 3 * k - 3 * j = i by omega]
    · rw [if_neg hk, if_neg (by omega), gd_bit, decide_eq_true hi, Bool.true_and]
  · rw [decide_eq_false hi, Bool.false_and]
    symm
    by_cases hk : k = j
    · rw [if_pos hk]
      exact Nat.testBit_lt_two_pow (Nat.lt_of_lt_of_le (show c < 2 ^ 3 from hc) (Nat.pow_le_pow_right (by decide) (by omega)))
    · rw [if_neg hk]
      exact Nat.testBit_lt_two_pow (Nat.lt_of_lt_of_le (show gd g k < 2 ^ 3 from gd_lt g k) (Nat.pow_le_pow_right (by decide) (by omega)))
theorem gset_gwd {g j c : Nat} (hj : j < 9) (hc : c < 8) : gwd (gset g j c) = gwd g := Nat.eq_of_testBit_eq fun i => by
  rw [gwd_bit, gwd_bit, gset_bit g j hc, if_neg (by omega)]
theorem gset_ghi {g j c : Nat} (hj : j < 9) (hc : c < 8) : ghi (gset g j c) = ghi g := Nat.eq_of_testBit_eq fun i => by
  rw [ghi_bit, ghi_bit, gset_bit g j hc, if_neg (by omega)]
/-- what 'put' computes -/
theorem gset_put {g j c : Nat} (hj : j < 9) (hc : c < 8) : (nI g &&& ((nI 7 <<< (nI (3 * j) &&& 31)) ^^^ (-1))) ||| (nI c <<< (nI (3 * j) &&& 31)) = nI (gset g j c) := b_ext fun i hi => by
  rw [b_or, b_and, b_xor, b_m1 i hi, b_nI _ hi, b_nI _ hi, b_shl _ (by omega) _ hi, b_shl _ (by omega) _ hi, gset_bit g j hc]
  by_cases h : 3 * j ≤ i
  · rw [decide_eq_true h, Bool.true_and, Bool.true_and, b_nI 7 (by omega), b_nI c (by omega), zb_7]
    by_cases h2 : i < 3 * j + 3
    · rw [if_pos ⟨h, h2⟩, decide_eq_true (show i - 3 * j < 3 by omega)]
      simp
    · rw [if_neg (by omega), decide_eq_false (show ¬ i - 3 * j < 3 by omega), show c.testBit (i - 3 * j) = false from Nat.testBit_lt_two_pow (Nat.lt_of_lt_of_le (show c < 2 ^ 3 from hc) (Nat.pow_le_pow_right (by decide) (by omega)))]
      simp
  · rw [decide_eq_false h, if_neg (by omega)]
    simp
def gemp (w h : Nat) : Nat := w * 2 ^ 27 + h * 2 ^ 29
theorem gemp_facts : ∀ w, w < 4 → ∀ h, h < 4 → (((nI w <<< (nI 27 &&& 31)) ||| (nI h <<< (nI 29 &&& 31)) = nI (gemp w h)) ∧ gemp w h < 2 ^ 31 ∧ gwd (gemp w h) = w ∧ ghi (gemp w h) = h ∧ ∀ j, j < 9 → gd (gemp w h) j = 0) := by decide +kernel
/-- g with its first n cells as f says -/
def gfil (f : Nat → Nat) (g : Nat) : Nat → Nat
  | 0 => g
  | n + 1 => gset (gfil f g n) n (f n)
theorem gfil_facts {f : Nat → Nat} {g : Nat} (hg : g < 2 ^ 31) (hf : ∀ j, f j < 8) : ∀ n, n ≤ 9 → gfil f g n < 2 ^ 31 ∧ gwd (gfil f g n) = gwd g ∧ ghi (gfil f g n) = ghi g ∧ ∀ j, gd (gfil f g n) j = if j < n then f j else gd g j
  | 0, _ => ⟨hg, rfl, rfl, fun j => (if_neg (by omega)).symm⟩
  | n + 1, hn => by
    obtain ⟨h1, h2, h3, h4⟩ := gfil_facts hg hf n (by omega)
    refine ⟨gset_lt h1 (by omega) (hf n), (gset_gwd (by omega) (hf n)).trans h2, (gset_ghi (by omega) (hf n)).trans h3, fun j => ?_⟩
    show gd (gset _ n (f n)) j = _
    rw [gset_gd (hf n), h4 j]
    by_cases e : j = n
    · subst e; rw [if_pos rfl, if_pos (by omega)]
    · rw [if_neg e]
      by_cases e2 : j < n
      · rw [if_pos e2, if_pos (by omega)]
      · rw [if_neg e2, if_neg (by omega)]
/-- the grid with w columns, h rows, and the colours that f says -/
def genc (w h : Nat) (f : Nat → Nat → Nat) : Nat := gfil (fun j => f (j % 3) (j / 3) % 8) (gemp w h) 9
theorem genc_facts {w h : Nat} (hw : w < 4) (hh : h < 4) {f : Nat → Nat → Nat} (hf : ∀ x y, f x y < 8) : genc w h f < 2 ^ 31 ∧ gwd (genc w h f) = w ∧ ghi (genc w h f) = h ∧ ∀ x y, x < 3 → y < 3 → gat (genc w h f) x y = f x y := by
  obtain ⟨-, a1, a2, a3, -⟩ := gemp_facts w hw h hh
  obtain ⟨h1, h2, h3, h4⟩ := gfil_facts (f := fun j => f (j % 3) (j / 3) % 8) a1 (fun j => Nat.mod_lt _ (by decide)) 9 (Nat.le_refl 9)
  refine ⟨h1, h2.trans a2, h3.trans a3, fun x y hx hy => ?_⟩
  have e := h4 (3 * y + x)
  rw [if_pos (by omega), show (3 * y + x) % 3 = x by omega, show (3 * y + x) / 3 = y by omega, Nat.mod_eq_of_lt (hf x y)] at e
  exact e
theorem gat_ext {g u : Nat} (hg : g < 2 ^ 31) (hu : u < 2 ^ 31) (hw : gwd g = gwd u) (hh : ghi g = ghi u) (hd : ∀ x y, x < 3 → y < 3 → gat g x y = gat u x y) : g = u := gd_ext hg hu hw hh fun j hj => by
  have e := hd (j % 3) (j / 3) (by omega) (by omega)
  unfold gat at e
  rw [show 3 * (j / 3) + j % 3 = j by omega] at e
  exact e
/-- a grid: its sides are there, its other cells are 0 -/
def ggd (g : Nat) : Prop := g < 2 ^ 31 ∧ 1 ≤ gwd g ∧ gwd g ≤ 3 ∧ 1 ≤ ghi g ∧ ghi g ≤ 3 ∧ ∀ x y, x < 3 → y < 3 → ¬ (x < gwd g ∧ y < ghi g) → gat g x y = 0
theorem ggd_ext {g u : Nat} (hg : ggd g) (hu : ggd u) (hw : gwd g = gwd u) (hh : ghi g = ghi u) (hd : ∀ x y, x < gwd g → y < ghi g → gat g x y = gat u x y) : g = u := gat_ext hg.1 hu.1 hw hh fun x y hx hy => by
  by_cases h : x < gwd g ∧ y < ghi g
  · exact hd x y h.1 h.2
  · rw [hg.2.2.2.2.2 x y hx hy h, hu.2.2.2.2.2 x y hx hy (by rw [← hw, ← hh]; exact h)]
theorem ite0_lt {P : Prop} [Decidable P] {a : Nat} (h : a < 8) : (if P then a else 0) < 8 := by
  split
  · exact h
  · decide
def gtrn (g : Nat) : Nat := genc (ghi g) (gwd g) (fun x y => if x < ghi g ∧ y < gwd g then gat g y (ghi g - 1 - x) else 0)
def gexc (g : Nat) : Nat := genc (gwd g) (ghi g) (fun x y => if x < gwd g ∧ y < ghi g then gat g (gwd g - 1 - x) y else 0)
theorem gtrn_facts {g : Nat} (hg : ggd g) : ggd (gtrn g) ∧ gwd (gtrn g) = ghi g ∧ ghi (gtrn g) = gwd g ∧ ∀ x y, x < 3 → y < 3 → gat (gtrn g) x y = if x < ghi g ∧ y < gwd g then gat g y (ghi g - 1 - x) else 0 := by
  obtain ⟨a1, a2, a3, a4, a5, a6⟩ := hg
  obtain ⟨b1, b2, b3, b4⟩ := genc_facts (w := ghi g) (h := gwd g) (by omega) (by omega) (f := fun x y => if x < ghi g ∧ y < gwd g then gat g y (ghi g - 1 - x) else 0) (fun x y => ite0_lt (gat_lt _ _ _))
  refine ⟨⟨b1, ?_, ?_, ?_, ?_, fun x y hx hy h => ?_⟩, b2, b3, b4⟩
  · show 1 ≤ gwd (genc _ _ _); omega
  · show gwd (genc _ _ _) ≤ 3; omega
  · show 1 ≤ ghi (genc _ _ _); omega
  · show ghi (genc _ _ _) ≤ 3; omega
  · exact (b4 x y hx hy).trans (if_neg (fun z => h ⟨Nat.lt_of_lt_of_eq z.1 b2.symm, Nat.lt_of_lt_of_eq z.2 b3.symm⟩))
theorem gexc_facts {g : Nat} (hg : ggd g) : ggd (gexc g) ∧ gwd (gexc g) = gwd g ∧ ghi (gexc g) = ghi g ∧ ∀ x y, x < 3 → y < 3 → gat (gexc g) x y = if x < gwd g ∧ y < ghi g then gat g (gwd g - 1 - x) y else 0 := by
  obtain ⟨a1, a2, a3, a4, a5, a6⟩ := hg
  obtain ⟨b1, b2, b3, b4⟩ := genc_facts (w := gwd g) (h := ghi g) (by omega) (by omega) (f := fun x y => if x < gwd g ∧ y < ghi g then gat g (gwd g - 1 - x) y else 0) (fun x y => ite0_lt (gat_lt _ _ _))
  refine ⟨⟨b1, ?_, ?_, ?_, ?_, fun x y hx hy h => ?_⟩, b2, b3, b4⟩
  · show 1 ≤ gwd (genc _ _ _); omega
  · show gwd (genc _ _ _) ≤ 3; omega
  · show 1 ≤ ghi (genc _ _ _); omega
  · show ghi (genc _ _ _) ≤ 3; omega
  · exact (b4 x y hx hy).trans (if_neg (fun z => h ⟨Nat.lt_of_lt_of_eq z.1 b2.symm, Nat.lt_of_lt_of_eq z.2 b3.symm⟩))
theorem gtrn_gat {g x y : Nat} (hg : ggd g) (hx : x < ghi g) (hy : y < gwd g) : gat (gtrn g) x y = gat g y (ghi g - 1 - x) := by
  obtain ⟨-, a2, a3, a4, a5, -⟩ := id hg
  exact ((gtrn_facts hg).2.2.2 x y (by omega) (by omega)).trans (if_pos ⟨hx, hy⟩)
theorem gexc_gat {g x y : Nat} (hg : ggd g) (hx : x < gwd g) (hy : y < ghi g) : gat (gexc g) x y = gat g (gwd g - 1 - x) y := by
  obtain ⟨-, a2, a3, a4, a5, -⟩ := id hg
  exact ((gexc_facts hg).2.2.2 x y (by omega) (by omega)).trans (if_pos ⟨hx, hy⟩)
/-- turned k times -/
def gtk : Nat → Nat → Nat
  | 0, g => g
  | k + 1, g => gtrn (gtk k g)
theorem gtk_gd {g : Nat} (hg : ggd g) : ∀ k, ggd (gtk k g)
  | 0 => hg
  | k + 1 => (gtrn_facts (gtk_gd hg k)).1
