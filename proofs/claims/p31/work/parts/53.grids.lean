/-! counting over two numbers -/
theorem zc_add (p : Nat → Prop) (a : Nat) : ∀ b, q_ct p (a + b) = q_ct p a + q_ct (fun i => p (a + i)) b
  | 0 => rfl
  | b + 1 => by
    show q_ct p (a + b) + _ = q_ct p a + (q_ct (fun i => p (a + i)) b + _)
    rw [zc_add p a b, Nat.add_assoc]
    rfl
theorem zc_none {p : Nat → Prop} : ∀ {n : Nat}, (∀ k, k < n → ¬ p k) → q_ct p n = 0
  | 0, _ => rfl
  | n + 1, h => by rw [q_ct_n (h n (Nat.lt_succ_self n)), zc_none (fun k hk => h k (Nat.lt_succ_of_lt hk))]
theorem zc_sm_cong {f g : Nat → Nat} : ∀ {n : Nat}, (∀ k, k < n → f k = g k) → fb_sm f n = fb_sm g n
  | 0, _ => rfl
  | n + 1, h => by
    show fb_sm f n + f n = fb_sm g n + g n
    rw [zc_sm_cong (fun k hk => h k (Nat.lt_succ_of_lt hk)), h n (Nat.lt_succ_self n)]
theorem zc_sm_add (f g : Nat → Nat) : ∀ n, fb_sm (fun k => f k + g k) n = fb_sm f n + fb_sm g n
  | 0 => rfl
  | n + 1 => by
    show fb_sm (fun k => f k + g k) n + (f n + g n) = (fb_sm f n + f n) + (fb_sm g n + g n)
    rw [zc_sm_add f g n]
    omega
theorem zc_sm_zero : ∀ n, fb_sm (fun _ => 0) n = 0
  | 0 => rfl
  | n + 1 => by
    show fb_sm (fun _ => 0) n + 0 = 0
    rw [zc_sm_zero n]
theorem zc_ct_sm (p : Nat → Prop) : ∀ n, q_ct p n = fb_sm (fun k => @ite Nat (p k) (Classical.propDecidable _) 1 0) n
  | 0 => rfl
  | n + 1 => by
    show q_ct p n + _ = fb_sm _ n + _
    rw [zc_ct_sm p n]
theorem zc_swap (P : Nat → Nat → Prop) (a : Nat) : ∀ b, fb_sm (fun y => q_ct (fun x => P x y) a) b = fb_sm (fun x => q_ct (fun y => P x y) b) a
  | 0 => (zc_sm_zero a).symm
  | b + 1 => by
    show fb_sm (fun y => q_ct (fun x => P x y) a) b + q_ct (fun x => P x b) a = fb_sm (fun x => q_ct (fun y => P x y) b + @ite Nat (P x b) (Classical.propDecidable _) 1 0) a
    rw [zc_sm_add, zc_swap P a b, zc_ct_sm (fun x => P x b) a]
theorem zc_grid (P : Nat → Nat → Prop) {w : Nat} (hw : 0 < w) : ∀ h, q_ct (fun k => P (k % w) (k / w)) (w * h) = fb_sm (fun y => q_ct (fun x => P x y) w) h
  | 0 => rfl
  | h + 1 => by
    show q_ct _ (w * h + w) = fb_sm _ h + q_ct (fun x => P x h) w
    rw [zc_add, zc_grid P hw h]
    refine congrArg (_ + ·) (q_ct_congr fun i hi => ?_)
    show P ((w * h + i) % w) ((w * h + i) / w) ↔ P i h
    rw [Nat.mul_add_mod, Nat.mod_eq_of_lt hi, Nat.mul_add_div hw, Nat.div_eq_of_lt hi, Nat.add_zero]
theorem zc_sm_le {f : Nat → Nat} {m : Nat} : ∀ {n : Nat}, (∀ k, k < n → f k ≤ m) → fb_sm f n ≤ n * m
  | 0, _ => Nat.le_of_eq (Nat.zero_mul m).symm
  | n + 1, h => by
    show fb_sm f n + f n ≤ (n + 1) * m
    have h1 := zc_sm_le (f := f) (m := m) (n := n) (fun k hk => h k (Nat.lt_succ_of_lt hk))
    have h2 := h n (Nat.lt_succ_self n)
    rw [Nat.add_mul, Nat.one_mul]
    exact Nat.add_le_add h1 h2
/-! what the law computes of its grids -/
noncomputable def gneed (g c : Nat) : Nat := fb_sm (fun x => q_ct (fun y => gat g x y = c) (ghi g)) (gwd g)
def gsh (s g x y : Nat) : Prop := ∀ i j, i < gwd s → j < ghi s → gat s i j = gat g (x + i) (y + j)
noncomputable def gstd (s g : Nat) : Nat := fb_sm (fun x => q_ct (fun y => gsh s g x y) (ghi g + 1 - ghi s)) (gwd g + 1 - gwd s)
theorem gneed_le {g : Nat} (hg : ggd g) (c : Nat) : gneed g c ≤ 9 := by
  obtain ⟨-, a2, a3, a4, a5, -⟩ := hg
  refine Nat.le_trans (zc_sm_le (m := 3) fun k _ => Nat.le_trans (q_ct_le _ _) a5) ?_
  omega
theorem gstd_le {s g : Nat} (hs : ggd s) (hg : ggd g) : gstd s g ≤ 9 := by
  obtain ⟨-, a2, a3, a4, a5, -⟩ := hg
  obtain ⟨-, b2, b3, b4, b5, -⟩ := hs
  refine Nat.le_trans (zc_sm_le (m := 3) fun k _ => Nat.le_trans (q_ct_le _ _) (by omega)) ?_
  omega
/-! the images -/
def gimg (k g : Nat) : Nat := gtk (k % 4) (if 4 ≤ k then gexc g else g)
theorem gtk_s (k g : Nat) : gtk (k + 1) g = gtrn (gtk k g) := rfl
theorem gtk_0 (g : Nat) : gtk 0 g = g := rfl
theorem gtk_1 (g : Nat) : gtk 1 g = gtrn g := by rw [gtk_s 0 g, gtk_0]
theorem gtk_2 (g : Nat) : gtk 2 g = gtrn (gtrn g) := by rw [gtk_s 1 g, gtk_1]
theorem gtk_3 (g : Nat) : gtk 3 g = gtrn (gtrn (gtrn g)) := by rw [gtk_s 2 g, gtk_2]
theorem trn2_facts {u : Nat} (hu : ggd u) : gwd (gtrn (gtrn u)) = gwd u ∧ ghi (gtrn (gtrn u)) = ghi u ∧ ∀ x y, x < gwd u → y < ghi u → gat (gtrn (gtrn u)) x y = gat u (gwd u - 1 - x) (ghi u - 1 - y) := by
  obtain ⟨a0, a1, a2, -⟩ := gtrn_facts hu
  obtain ⟨b0, b1, b2, -⟩ := gtrn_facts a0
  refine ⟨b1.trans a2, b2.trans a1, fun x y hx hy => ?_⟩
  rw [gtrn_gat a0 (by rw [a2]; exact hx) (by rw [a1]; exact hy), a2, gtrn_gat hu hy (by omega)]
theorem trn3_facts {u : Nat} (hu : ggd u) : gwd (gtrn (gtrn (gtrn u))) = ghi u ∧ ghi (gtrn (gtrn (gtrn u))) = gwd u ∧ ∀ x y, x < ghi u → y < gwd u → gat (gtrn (gtrn (gtrn u))) x y = gat u (gwd u - 1 - y) x := by
  obtain ⟨a1, a2, a3⟩ := trn2_facts hu
  have a0 := (gtrn_facts (gtrn_facts hu).1).1
  obtain ⟨b0, b1, b2, -⟩ := gtrn_facts a0
  refine ⟨b1.trans a2, b2.trans a1, fun x y hx hy => ?_⟩
  rw [gtrn_gat a0 (by rw [a2]; exact hx) (by rw [a1]; exact hy), a2, a3 y _ hy (by omega), show ghi u - 1 - (ghi u - 1 - x) = x by omega]
theorem z_ow0 (w h : Nat) : q_ow 0 w h = w ∧ q_oh 0 w h = h := ⟨if_neg (by decide), if_neg (by decide)⟩
theorem z_ow1 (w h : Nat) : q_ow 1 w h = h ∧ q_oh 1 w h = w := ⟨if_pos rfl, if_pos rfl⟩
theorem z_ow2 (w h : Nat) : q_ow 2 w h = w ∧ q_oh 2 w h = h := ⟨if_neg (by decide), if_neg (by decide)⟩
theorem z_ow3 (w h : Nat) : q_ow 3 w h = h ∧ q_oh 3 w h = w := ⟨if_pos rfl, if_pos rfl⟩
theorem z_sr0 (w h c r : Nat) : q_src 0 w h c r = (c, r) := rfl
theorem z_sr1 (w h c r : Nat) : q_src 1 w h c r = (r, h - 1 - c) := rfl
theorem z_sr2 (w h c r : Nat) : q_src 2 w h c r = (w - 1 - c, h - 1 - r) := rfl
theorem z_sr3 (w h c r : Nat) : q_src 3 w h c r = (w - 1 - r, c) := rfl
theorem gimg_gd {g : Nat} (hg : ggd g) (k : Nat) : ggd (gimg k g) := by
  unfold gimg
  split
  · exact gtk_gd (gexc_facts hg).1 _
  · exact gtk_gd hg _
theorem gtk_src {u : Nat} (hu : ggd u) {k : Nat} (hk : k < 4) : gwd (gtk k u) = q_ow k (gwd u) (ghi u) ∧ ghi (gtk k u) = q_oh k (gwd u) (ghi u) ∧ ∀ c r, c < q_ow k (gwd u) (ghi u) → r < q_oh k (gwd u) (ghi u) → gat (gtk k u) c r = gat u (q_src k (gwd u) (ghi u) c r).1 (q_src k (gwd u) (ghi u) c r).2 := by
  match k, hk with
  | 0, _ =>
    rw [gtk_0, (z_ow0 _ _).1, (z_ow0 _ _).2]
    exact ⟨rfl, rfl, fun c r _ _ => by rw [z_sr0]⟩
  | 1, _ =>
    rw [gtk_1, (z_ow1 _ _).1, (z_ow1 _ _).2]
    exact ⟨(gtrn_facts hu).2.1, (gtrn_facts hu).2.2.1, fun c r hc hr => by rw [z_sr1, gtrn_gat hu hc hr]⟩
  | 2, _ =>
    rw [gtk_2, (z_ow2 _ _).1, (z_ow2 _ _).2]
    exact ⟨(trn2_facts hu).1, (trn2_facts hu).2.1, fun c r hc hr => by rw [z_sr2, (trn2_facts hu).2.2 c r hc hr]⟩
  | 3, _ =>
    rw [gtk_3, (z_ow3 _ _).1, (z_ow3 _ _).2]
    exact ⟨(trn3_facts hu).1, (trn3_facts hu).2.1, fun c r hc hr => by rw [z_sr3, (trn3_facts hu).2.2 c r hc hr]⟩
theorem gimg_src {g : Nat} (hg : ggd g) {k : Nat} (hk : k < 8) : gwd (gimg k g) = q_ow k (gwd g) (ghi g) ∧ ghi (gimg k g) = q_oh k (gwd g) (ghi g) ∧ ∀ c r, c < q_ow k (gwd g) (ghi g) → r < q_oh k (gwd g) (ghi g) → gat (gimg k g) c r = gat g (q_src k (gwd g) (ghi g) c r).1 (q_src k (gwd g) (ghi g) c r).2 := by
  have eow : q_ow (k % 4) (gwd g) (ghi g) = q_ow k (gwd g) (ghi g) := by unfold q_ow; rw [show k % 4 % 2 = k % 2 by omega]
  have eoh : q_oh (k % 4) (gwd g) (ghi g) = q_oh k (gwd g) (ghi g) := by unfold q_oh; rw [show k % 4 % 2 = k % 2 by omega]
  unfold gimg
  by_cases h4 : 4 ≤ k
  · rw [if_pos h4]
    obtain ⟨e0, e1, e2, -⟩ := gexc_facts hg
    obtain ⟨a1, a2, a3⟩ := gtk_src e0 (show k % 4 < 4 by omega)
    rw [e1, e2] at a1 a2 a3
    rw [eow] at a1 a3
    rw [eoh] at a2 a3
    refine ⟨a1, a2, fun c r hc hr => ?_⟩
    rw [a3 c r hc hr]
    have hin := q_src_in (k := k % 4) (w := gwd g) (h := ghi g) (c := c) (r := r) (by rw [eow]; exact hc) (by rw [eoh]; exact hr)
    rw [gexc_gat hg hin.1 hin.2]
    have es : q_src k (gwd g) (ghi g) c r = (gwd g - 1 - (q_src (k % 4) (gwd g) (ghi g) c r).1, (q_src (k % 4) (gwd g) (ghi g) c r).2) := by
      simp only [q_src, show k % 4 % 4 = k % 4 by omega, if_pos h4, if_neg (show ¬ 4 ≤ k % 4 by omega)]
    rw [es]
  · rw [if_neg h4]
    obtain ⟨a1, a2, a3⟩ := gtk_src hg (show k % 4 < 4 by omega)
    rw [show k % 4 = k by omega] at *
    exact ⟨a1, a2, a3⟩
theorem gimg_all {g o : Nat} : (∃ k, k < 8 ∧ gimg k g = o) ↔ ∃ i, i < 4 ∧ (gtk i g = o ∨ gtk i (gexc g) = o) := by
  constructor
  · rintro ⟨k, hk, e⟩
    unfold gimg at e
    by_cases h4 : 4 ≤ k
    · rw [if_pos h4] at e; exact ⟨k % 4, by omega, Or.inr e⟩
    · rw [if_neg h4] at e; exact ⟨k % 4, by omega, Or.inl e⟩
  · rintro ⟨i, hi, e | e⟩
    · exact ⟨i, by omega, by unfold gimg; rw [if_neg (by omega), show i % 4 = i by omega]; exact e⟩
    · exact ⟨i + 4, by omega, by unfold gimg; rw [if_pos (by omega), show (i + 4) % 4 = i by omega]; exact e⟩
theorem gimg_1 (g : Nat) : gimg 1 g = gtrn g := by
  unfold gimg
  rw [if_neg (by decide), show 1 % 4 = 1 from rfl, gtk_1]
theorem gimg_2 (g : Nat) : gimg 2 g = gtrn (gtrn g) := by
  unfold gimg
  rw [if_neg (by decide), show 2 % 4 = 2 from rfl, gtk_2]
theorem gimg_4 (g : Nat) : gimg 4 g = gexc g := by
  unfold gimg
  rw [if_pos (by decide), show 4 % 4 = 0 from rfl, gtk_0]
theorem gimg_6 {g : Nat} (hg : ggd g) : gimg 6 g = gexc (gtrn (gtrn g)) := by
  have h2 := trn2_facts hg
  have hg2 := (gtrn_facts (gtrn_facts hg).1).1
  obtain ⟨e0, e1, e2, -⟩ := gexc_facts hg
  obtain ⟨f0, f1, f2, -⟩ := gexc_facts hg2
  have h9 := trn2_facts e0
  have h8 := (gtrn_facts (gtrn_facts e0).1).1
  have e9 : gimg 6 g = gtrn (gtrn (gexc g)) := by
    unfold gimg
    rw [if_pos (by decide), show 6 % 4 = 2 from rfl, gtk_2]
  rw [e9]
  refine ggd_ext h8 f0 ((h9.1.trans e1).trans (f1.trans h2.1).symm) ((h9.2.1.trans e2).trans (f2.trans h2.2.1).symm) fun x y hx hy => ?_
  rw [h9.1, e1] at hx
  rw [h9.2.1, e2] at hy
  rw [h9.2.2 x y (by omega) (by omega), e1, e2, gexc_gat hg (by omega) (by omega), gexc_gat hg2 (by rw [h2.1]; exact hx) (by rw [h2.2.1]; exact hy), h2.1, h2.2.2 _ _ (by omega) hy]
/-! the program's grids and the law's -/
def gis (V : q_V) (i g : Nat) : Prop := ggd g ∧ q_gok V i (gwd g) (ghi g) ∧ ∀ x y, x < gwd g → y < ghi g → V (48 + i) (y * gwd g + x) = nI (gat g x y)
theorem gis_gw {V : q_V} {i g : Nat} (h : gis V i g) : q_gw V i = gwd g ∧ q_gh V i = ghi g := q_gok_n h.2.1
theorem gis_alike {V : q_V} {i j g g2 k : Nat} (h1 : gis V i g) (h2 : gis V j g2) (hk : k < 8) : q_alike V i (gwd g) (ghi g) k j (gwd g2) (ghi g2) ↔ gimg k g = g2 := by
  obtain ⟨a1, a2, a3⟩ := gimg_src h1.1 hk
  constructor
  · rintro ⟨e1, e2, e3⟩
    refine ggd_ext (gimg_gd h1.1 k) h2.1 (a1.trans e1.symm) (a2.trans e2.symm) fun x y hx hy => ?_
    rw [a1] at hx
    rw [a2] at hy
    have hin := q_src_in (k := k) (w := gwd g) (h := ghi g) (c := x) (r := y) hx hy
    have e := e3 y x (by omega) (by omega)
    rw [h1.2.2 _ _ hin.1 hin.2, h2.2.2 x y (by omega) (by omega)] at e
    rw [a3 x y hx hy]
    exact q_nI_inj e (Nat.lt_trans (gat_lt _ _ _) (by decide)) (Nat.lt_trans (gat_lt _ _ _) (by decide))
  · rintro rfl
    refine ⟨a1, a2, fun r c hr hc => ?_⟩
    rw [a2] at hr
    rw [a1] at hc
    have hin := q_src_in (k := k) (w := gwd g) (h := ghi g) (c := c) (r := r) hc hr
    rw [h1.2.2 _ _ hin.1 hin.2, h2.2.2 c r (by omega) (by omega), a3 c r hc hr]
theorem gis_needs {V : q_V} {i g : Nat} (h : gis V i g) {c : Nat} (hc : c < 8) : q_ct (fun k => V (48 + i) k = nI c) (gwd g * ghi g) = gneed g c := by
  obtain ⟨-, a2, a3, a4, a5, -⟩ := id h.1
  have hw : 0 < gwd g := by omega
  unfold gneed
  rw [← zc_swap (fun x y => gat g x y = c), ← zc_grid (fun x y => gat g x y = c) hw]
  refine q_ct_congr fun k hk => ?_
  have h1 : k / gwd g < ghi g := by rw [Nat.div_lt_iff_lt_mul hw, Nat.mul_comm]; exact hk
  have h2 := Nat.mod_lt k hw
  have e := h.2.2 (k % gwd g) (k / gwd g) h2 h1
  rw [Nat.div_add_mod'] at e
  rw [e]
  exact ⟨fun z => q_nI_inj z (Nat.lt_trans (gat_lt _ _ _) (by decide)) (by omega), fun z => by rw [z]⟩
theorem gis_places {V : q_V} {i j g s : Nat} (h1 : gis V i g) (h2 : gis V j s) : q_places V i (gwd g) (ghi g) j (gwd s) (ghi s) = gstd s g := by
  unfold q_places gstd
  rw [zc_swap (fun c r => q_shows V i (gwd g) j (gwd s) (ghi s) c r)]
  refine zc_sm_cong fun x hx => q_ct_congr fun y hy => ?_
  constructor
  · intro H a b ha hb
    have e := H b a hb ha
    rw [h1.2.2 _ _ (by omega) (by omega), h2.2.2 _ _ ha hb] at e
    exact (q_nI_inj e (Nat.lt_trans (gat_lt _ _ _) (by decide)) (Nat.lt_trans (gat_lt _ _ _) (by decide))).symm
  · intro H d t hd ht
    rw [h1.2.2 _ _ (by omega) (by omega), h2.2.2 _ _ ht hd, H t d ht hd]
theorem gis_sg {V U : q_V} {i g : Nat} (h : gis V i g) (h1 : U (27 + i) = V (27 + i)) (h2 : U (48 + i) = V (48 + i)) : gis U i g := by
  refine ⟨h.1, ?_, fun x y hx hy => by rw [h2]; exact h.2.2 x y hx hy⟩
  unfold q_gok
  rw [h1]
  exact h.2.1
theorem gset_gat {g X Y c : Nat} (hX : X < 3) (hY : Y < 3) (hc : c < 8) {a b : Nat} (ha : a < 3) (hb : b < 3) : gat (gset g (3 * Y + X) c) a b = if a = X ∧ b = Y then c else gat g a b := by
  unfold gat
  rw [gset_gd hc]
  by_cases e : a = X ∧ b = Y
  · rw [if_pos e, if_pos (by omega)]
  · rw [if_neg e, if_neg (by omega)]
/-- the law's turning, at the column x and the row y -/
def ztr (g t x y : Nat) : Prop := t < 2 ^ 31 ∧ gwd t = ghi g ∧ ghi t = gwd g ∧ ∀ a b, a < 3 → b < 3 → gat t a b = if a < ghi g ∧ (b < x ∨ (b = x ∧ ghi g ≤ a + y)) then gat g b (ghi g - 1 - a) else 0
theorem ztr_0 {g : Nat} (hg : ggd g) : ztr g (gemp (ghi g) (gwd g)) 0 0 := by
  obtain ⟨-, a2, a3, a4, a5, -⟩ := hg
  obtain ⟨-, b1, b2, b3, b4⟩ := gemp_facts (ghi g) (by omega) (gwd g) (by omega)
  refine ⟨b1, b2, b3, fun a b ha hb => ?_⟩
  rw [if_neg (by omega)]
  exact b4 _ (by omega)
theorem ztr_step {g t x y : Nat} (hg : ggd g) (hx : x < gwd g) (hy : y < ghi g) (h : ztr g t x y) : ztr g (gset t (3 * x + (ghi g - 1 - y)) (gat g x y)) x (y + 1) := by
  obtain ⟨-, a2, a3, a4, a5, -⟩ := hg
  obtain ⟨h1, h2, h3, h4⟩ := h
  refine ⟨gset_lt h1 (by omega) (gat_lt _ _ _), (gset_gwd (by omega) (gat_lt _ _ _)).trans h2, (gset_ghi (by omega) (gat_lt _ _ _)).trans h3, fun a b ha hb => ?_⟩
  rw [gset_gat (by omega) (by omega) (gat_lt _ _ _) ha hb, h4 a b ha hb]
  by_cases e : a = ghi g - 1 - y ∧ b = x
  · rw [if_pos e, if_pos (by omega), e.2, show ghi g - 1 - a = y by omega]
  · rw [if_neg e]
    by_cases e2 : a < ghi g ∧ (b < x ∨ (b = x ∧ ghi g ≤ a + y))
    · rw [if_pos e2, if_pos (by omega)]
    · rw [if_neg e2, if_neg (by omega)]
theorem ztr_row {g t x : Nat} (h : ztr g t x (ghi g)) : ztr g t (x + 1) 0 := by
  obtain ⟨h1, h2, h3, h4⟩ := h
  refine ⟨h1, h2, h3, fun a b ha hb => ?_⟩
  rw [h4 a b ha hb]
  by_cases e2 : a < ghi g ∧ (b < x ∨ (b = x ∧ ghi g ≤ a + ghi g))
  · rw [if_pos e2, if_pos (by omega)]
  · rw [if_neg e2, if_neg (by omega)]
theorem ztr_end {g t : Nat} (hg : ggd g) (h : ztr g t (gwd g) 0) : t = gtrn g := by
  obtain ⟨h1, h2, h3, h4⟩ := h
  obtain ⟨b0, b1, b2, b3⟩ := gtrn_facts hg
  refine gat_ext h1 b0.1 (h2.trans b1.symm) (h3.trans b2.symm) fun x y hx hy => ?_
  rw [h4 x y hx hy, b3 x y hx hy]
  by_cases e2 : x < ghi g ∧ (y < gwd g ∨ (y = gwd g ∧ ghi g ≤ x + 0))
  · rw [if_pos e2, if_pos (by omega)]
  · rw [if_neg e2, if_neg (by omega)]
/-- the law's exchange, at the column x and the row y -/
def zex (g t x y : Nat) : Prop := t < 2 ^ 31 ∧ gwd t = gwd g ∧ ghi t = ghi g ∧ ∀ a b, a < 3 → b < 3 → gat t a b = if a < gwd g ∧ b < ghi g ∧ (gwd g ≤ a + x ∨ (a + x + 1 = gwd g ∧ b < y)) then gat g (gwd g - 1 - a) b else 0
theorem zex_0 {g : Nat} (hg : ggd g) : zex g (gemp (gwd g) (ghi g)) 0 0 := by
  obtain ⟨-, a2, a3, a4, a5, -⟩ := hg
  obtain ⟨-, b1, b2, b3, b4⟩ := gemp_facts (gwd g) (by omega) (ghi g) (by omega)
  refine ⟨b1, b2, b3, fun a b ha hb => ?_⟩
  rw [if_neg (by omega)]
  exact b4 _ (by omega)
theorem zex_step {g t x y : Nat} (hg : ggd g) (hx : x < gwd g) (hy : y < ghi g) (h : zex g t x y) : zex g (gset t (3 * y + (gwd g - 1 - x)) (gat g x y)) x (y + 1) := by
  obtain ⟨-, a2, a3, a4, a5, -⟩ := hg
  obtain ⟨h1, h2, h3, h4⟩ := h
  refine ⟨gset_lt h1 (by omega) (gat_lt _ _ _), (gset_gwd (by omega) (gat_lt _ _ _)).trans h2, (gset_ghi (by omega) (gat_lt _ _ _)).trans h3, fun a b ha hb => ?_⟩
  rw [gset_gat (by omega) (by omega) (gat_lt _ _ _) ha hb, h4 a b ha hb]
  by_cases e : a = gwd g - 1 - x ∧ b = y
  · rw [if_pos e, if_pos (by omega), e.2, show gwd g - 1 - a = x by omega]
  · rw [if_neg e]
    by_cases e2 : a < gwd g ∧ b < ghi g ∧ (gwd g ≤ a + x ∨ (a + x + 1 = gwd g ∧ b < y))
    · rw [if_pos e2, if_pos (by omega)]
    · rw [if_neg e2, if_neg (by omega)]
theorem zex_row {g t x : Nat} (hx : x < gwd g) (h : zex g t x (ghi g)) : zex g t (x + 1) 0 := by
  obtain ⟨h1, h2, h3, h4⟩ := h
  refine ⟨h1, h2, h3, fun a b ha hb => ?_⟩
  rw [h4 a b ha hb]
  by_cases e2 : a < gwd g ∧ b < ghi g ∧ (gwd g ≤ a + x ∨ (a + x + 1 = gwd g ∧ b < ghi g))
  · rw [if_pos e2, if_pos (by omega)]
  · rw [if_neg e2, if_neg (by omega)]
theorem zex_end {g t : Nat} (hg : ggd g) (h : zex g t (gwd g) 0) : t = gexc g := by
  obtain ⟨h1, h2, h3, h4⟩ := h
  obtain ⟨b0, b1, b2, b3⟩ := gexc_facts hg
  refine gat_ext h1 b0.1 (h2.trans b1.symm) (h3.trans b2.symm) fun x y hx hy => ?_
  rw [h4 x y hx hy, b3 x y hx hy]
  by_cases e2 : x < gwd g ∧ y < ghi g ∧ (gwd g ≤ x + gwd g ∨ (x + gwd g + 1 = gwd g ∧ y < 0))
  · rw [if_pos e2, if_pos (by omega)]
  · rw [if_neg e2, if_neg (by omega)]
theorem zst_0 {s g x y i : Nat} {P : Prop} (hP : P ↔ ∀ a b, b < ghi s → a < i → gat s a b = gat g (x + a) (y + b)) : P ↔ ((∀ a b, b < ghi s → a < i → gat s a b = gat g (x + a) (y + b)) ∧ ∀ b, b < 0 → gat s i b = gat g (x + i) (y + b)) :=
  hP.trans ⟨fun h => ⟨h, fun b hb => absurd hb (Nat.not_lt_zero b)⟩, fun h => h.1⟩
theorem zst_step {s g x y i j : Nat} {P Q A : Prop} (hP : P ↔ (A ∧ ∀ b, b < j → gat s i b = gat g (x + i) (y + b))) (hQ : Q ↔ gat s i j = gat g (x + i) (y + j)) : (P ∧ Q) ↔ (A ∧ ∀ b, b < j + 1 → gat s i b = gat g (x + i) (y + b)) := by
  rw [hP, hQ]
  constructor
  · rintro ⟨⟨h1, h2⟩, h3⟩
    refine ⟨h1, fun b hb => ?_⟩
    rcases Nat.lt_or_ge b j with h | h
    · exact h2 b h
    · rw [show b = j by omega]; exact h3
  · rintro ⟨h1, h2⟩
    exact ⟨⟨h1, fun b hb => h2 b (by omega)⟩, h2 j (by omega)⟩
theorem zst_row {s g x y i j : Nat} {P : Prop} (hj : j = ghi s) (hP : P ↔ ((∀ a b, b < ghi s → a < i → gat s a b = gat g (x + a) (y + b)) ∧ ∀ b, b < j → gat s i b = gat g (x + i) (y + b))) : P ↔ ∀ a b, b < ghi s → a < i + 1 → gat s a b = gat g (x + a) (y + b) := by
  rw [hP]
  subst hj
  constructor
  · rintro ⟨h1, h2⟩ a b hb ha
    rcases Nat.lt_or_ge a i with h | h
    · exact h1 a b hb h
    · rw [show a = i by omega]; exact h2 b hb
  · intro h
    exact ⟨fun a b hb ha => h a b hb (by omega), fun b hb => h i b hb (by omega)⟩
