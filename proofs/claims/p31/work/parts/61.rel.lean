/-! what the program's rows and the law's have in common -/
def zR1 (V : q_V) (B : Nat) : Prop := ∀ p c, p < 7 → c < 8 → V 72 (8 * p + c) = V (20 + p) c ∧ ∃ m, m ≤ B ∧ V (20 + p) c = nI m
def zR2 (V : q_V) (B : Nat) : Prop := ∀ c, c < 8 → V 72 (56 + c) = V 2 c ∧ (∃ m, m ≤ B ∧ V 2 c = nI m) ∧ V 74 (7 + c) = V 3 c ∧ q_cbs V c 20 = V 3 c
def zR3 (V : q_V) (g0 : Nat) : Prop := V 18 0 = nI g0 ∧ gis V 0 g0
def zR4 (V : q_V) (n : Nat) (gp : Nat → Nat) : Prop := V 0 6 = nI n ∧ V 18 1 = nI n ∧ n ≤ 6 ∧ ∀ pa, pa < n → V 69 (3 * pa) = nI (gp pa) ∧ gis V (1 + pa) (gp pa)
def zR5 (V : q_V) (n : Nat) : Prop := ∀ pa, pa < n → V 69 (3 * pa + 1) = V 5 pa ∧ (∃ a, a < 7 ∧ V 5 pa = nI a) ∧ ∃ o, q_corg V pa o ∧ V 69 (3 * pa + 2) = nI o
def zR6 (V : q_V) (ns : Nat) (gs : Nat → Nat) : Prop := V 0 13 = nI ns ∧ V 18 2 = nI ns ∧ ns ≤ 4 ∧ ∀ t, t < ns → V 70 (2 * t) = nI (gs t) ∧ gis V (13 + t) (gs t) ∧ V 70 (2 * t + 1) = V 11 t ∧ ∃ w, w ≤ 100 ∧ V 11 t = nI w
def zR7 (V : q_V) (n : Nat) : Prop := (∀ b, b < 6 → V 71 (2 * b) = V 6 b ∧ V 71 (2 * b + 1) = V 7 b ∧ (V 6 b = -1 ∨ ∃ pa, pa < n ∧ V 6 b = nI pa)) ∧ (∀ b, 6 ≤ b → b < 20 → V 6 b = -1) ∧ ∀ b, b < 20 → ∃ a, a < 7 ∧ V 7 b = nI a
def zR8 (V : q_V) : Prop := ∀ p, p < 7 → V 74 p = V 8 p
def zR9 (V : q_V) : Prop := ∀ p, p < 7 → V 73 (2 * p) = V 13 p ∧ (V 13 p = -1 ∨ (p < 5 ∧ V 73 (2 * p + 1) = V 14 p ∧ (∃ j, j < 8 ∧ V 13 p = nI j) ∧ ∃ j, j < 8 ∧ V 14 p = nI j))
def zR10 (G : q_G) : Prop := ∀ p, p < 7 → G 19 p = G 12 p
def zRel (V : q_V) (G : q_G) (B n ns g0 : Nat) (gp gs : Nat → Nat) : Prop := zR1 V B ∧ zR2 V B ∧ zR3 V g0 ∧ zR4 V n gp ∧ zR5 V n ∧ zR6 V ns gs ∧ zR7 V n ∧ zR8 V ∧ zR9 V ∧ zR10 G
/-- grid i as it was -/
def q_sg (V U : q_V) (i : Nat) : Prop := U (27 + i) = V (27 + i) ∧ U (48 + i) = V (48 + i)
theorem q_sg_gw {V U : q_V} {i : Nat} (h : q_sg V U i) : q_gw U i = q_gw V i := by unfold q_gw; rw [h.1]
theorem q_sg_gh {V U : q_V} {i : Nat} (h : q_sg V U i) : q_gh U i = q_gh V i := by unfold q_gh; rw [h.1]
theorem q_corg_sg {V U : q_V} {n : Nat} (h0 : ∀ pa, pa ≤ n → q_sg V U (1 + pa)) {o : Nat} (h : q_corg V n o) : q_corg U n o := by
  have e : ∀ o k, o ≤ n → (q_calk U n o k ↔ q_calk V n o k) := fun o k ho => by
    unfold q_calk q_alike
    rw [q_sg_gw (h0 n (Nat.le_refl n)), q_sg_gh (h0 n (Nat.le_refl n)), q_sg_gw (h0 o ho), q_sg_gh (h0 o ho), (h0 n (Nat.le_refl n)).2, (h0 o ho).2]
  refine ⟨h.1, fun hlt => ?_, fun o' ho' hk => ?_⟩
  · obtain ⟨k, hk, hc⟩ := h.2.1 hlt
    exact ⟨k, hk, (e o k h.1).mpr hc⟩
  · obtain ⟨k, hk8, hc⟩ := hk
    exact h.2.2 o' ho' ⟨k, hk8, (e o' k (by have := h.1; omega)).mp hc⟩
theorem gis_of_sg {V U : q_V} {i g : Nat} (h : gis V i g) (hs : q_sg V U i) : gis U i g := gis_sg h hs.1 hs.2
theorem q_corg_one {V : q_V} {n o o2 : Nat} (h : q_corg V n o) (h2 : q_corg V n o2) : o = o2 := by
  rcases Nat.lt_trichotomy o o2 with q | q | q
  · exact absurd (h.2.1 (Nat.lt_of_lt_of_le q h2.1)) (h2.2.2 o q)
  · exact q
  · exact absurd (h2.2.1 (Nat.lt_of_lt_of_le q h.1)) (h.2.2 o2 q)
/-! the total of a colour -/
theorem q_chs2_congr {V U : q_V} {c : Nat} (h0 : U 2 c = V 2 c) : ∀ k, (∀ p, p < k → U (20 + p) c = V (20 + p) c) → q_chs2 U c k = q_chs2 V c k
  | 0, _ => h0
  | k + 1, h => by
    show q_chs2 U c k + U (20 + k) c = q_chs2 V c k + V (20 + k) c
    rw [q_chs2_congr h0 k (fun p hp => h p (by omega)), h k (by omega)]
theorem q_cbs_congr {V U : q_V} {c : Nat} (h0 : q_chs2 U c 7 = q_chs2 V c 7) : ∀ k, (∀ b, b < k → q_cbelt U b (nI c) = q_cbelt V b (nI c)) → q_cbs U c k = q_cbs V c k
  | 0, _ => h0
  | k + 1, h => by
    show q_cbs U c k + q_cbelt U k (nI c) = q_cbs V c k + q_cbelt V k (nI c)
    rw [q_cbs_congr h0 k (fun p hp => h p (by omega)), h k (by omega)]
theorem q_cneeds_sg {V U : q_V} {pa : Nat} (h : q_sg V U (1 + pa)) (y : Int32) : q_cneeds U pa y = q_cneeds V pa y := by
  unfold q_cneeds
  rw [q_sg_gw h, q_sg_gh h, h.2]
theorem q_cbelt_sg {V U : q_V} {n b : Nat} (hn : n ≤ 12) (h6 : U 6 b = V 6 b) (hb : V 6 b = -1 ∨ ∃ pa, pa < n ∧ V 6 b = nI pa) (h : ∀ pa, pa < n → q_sg V U (1 + pa)) (y : Int32) : q_cbelt U b y = q_cbelt V b y := by
  unfold q_cbelt
  rw [h6]
  rcases hb with e | ⟨pa, hp, e⟩
  · rw [if_pos e, if_pos e]
  · rw [e, q_n_nI (by omega), q_cneeds_sg (h pa hp)]
/-! pieces as the program's methods want them -/
theorem zcp {V : q_V} {n : Nat} {gp : Nat → Nat} (h : zR4 V n gp) : q_cpats V n := fun pa hp => by
  have h9 := (h.2.2.2 pa hp).2
  obtain ⟨e1, e2⟩ := gis_gw h9
  rw [e1, e2]
  exact h9.2.1
theorem zcs {V : q_V} {ns : Nat} {gs : Nat → Nat} (h : zR6 V ns gs) : q_csgs V ns := fun t ht => by
  have h9 := (h.2.2.2 t ht).2.1
  obtain ⟨e1, e2⟩ := gis_gw h9
  rw [e1, e2]
  exact h9.2.1
theorem zbelt {V : q_V} {n b : Nat} (h : zR7 V n) (hb : b < 20) : V 6 b = -1 ∨ ∃ pa, pa < n ∧ V 6 b = nI pa := by
  rcases Nat.lt_or_ge b 6 with q | q
  · exact (h.1 b q).2.2
  · exact Or.inl (h.2.1 b q hb)
theorem zcb {V : q_V} {n : Nat} (h : zR7 V n) : q_cbelts V n := fun _ hb => zbelt h hb
theorem zw2 {V : q_V} (h : zR9 V) : ∀ a, a < 7 → V 13 a = -1 ∨ ((∃ c, c < 8 ∧ V 13 a = nI c) ∧ ∃ d, d < 8 ∧ V 14 a = nI d) := fun a ha => (h a ha).2.imp id (fun z => z.2.2)
theorem zc_needs {V : q_V} {n pa : Nat} {gp : Nat → Nat} (h : zR4 V n gp) (hp : pa < n) {c : Nat} (hc : c < 8) : q_cneeds V pa (nI c) = gneed (gp pa) c := by
  have h9 := (h.2.2.2 pa hp).2
  obtain ⟨e1, e2⟩ := gis_gw h9
  unfold q_cneeds
  rw [e1, e2]
  exact gis_needs h9 hc
theorem zc_places {V : q_V} {n ns pa t : Nat} {gp gs : Nat → Nat} (h : zR4 V n gp) (h6 : zR6 V ns gs) (hp : pa < n) (ht : t < ns) : q_places V (1 + pa) (q_gw V (1 + pa)) (q_gh V (1 + pa)) (13 + t) (q_gw V (13 + t)) (q_gh V (13 + t)) = gstd (gs t) (gp pa) := by
  have h9 := (h.2.2.2 pa hp).2
  have g9 := (h6.2.2.2 t ht).2.1
  obtain ⟨e1, e2⟩ := gis_gw h9
  obtain ⟨f1, f2⟩ := gis_gw g9
  rw [e1, e2, f1, f2]
  exact gis_places h9 g9
theorem zc_alk {V : q_V} {n pa o k : Nat} {gp : Nat → Nat} (h : zR4 V n gp) (hp : pa < n) (ho : o < n) (hk : k < 8) : q_calk V pa o k ↔ gimg k (gp pa) = gp o := by
  have h9 := (h.2.2.2 pa hp).2
  have g9 := (h.2.2.2 o ho).2
  obtain ⟨e1, e2⟩ := gis_gw h9
  obtain ⟨f1, f2⟩ := gis_gw g9
  unfold q_calk
  rw [e1, e2, f1, f2]
  exact gis_alike h9 g9 hk
theorem q_b_congr {P Q : Prop} (h : P ↔ Q) (d : Nat) : q_b P d = q_b Q d := by rw [propext h]
theorem zst_cs {V : q_V} {n ns pa i : Nat} {gp gs : Nat → Nat} (h : zR4 V n gp) (h6 : zR6 V ns gs) (hp : pa < n) (hi : i < ns) : q_cstory V pa i + V 70 (2 * i + 1) * nI (gstd (gs i) (gp pa)) = q_cstory V pa (i + 1) := by
  show _ = q_cstory V pa i + V 11 i * nI (q_places V (1 + pa) (q_gw V (1 + pa)) (q_gh V (1 + pa)) (13 + i) (q_gw V (13 + i)) (q_gh V (13 + i)))
  rw [zc_places h h6 hp hi, (h6.2.2.2 i hi).2.2.1]
/-! the ranks -/
theorem q_ct_mono {p q : Nat → Prop} : ∀ {n : Nat}, (∀ k, k < n → p k → q k) → q_ct p n ≤ q_ct q n
  | 0, _ => Nat.le_refl _
  | n + 1, h => by
    have ih := q_ct_mono (p := p) (q := q) (n := n) (fun k hk => h k (Nat.lt_succ_of_lt hk))
    by_cases hp : p n
    · rw [q_ct_y hp, q_ct_y (h n (Nat.lt_succ_self n) hp)]; omega
    · rw [q_ct_n hp]
      by_cases hq : q n
      · rw [q_ct_y hq]; omega
      · rw [q_ct_n hq]; exact ih
theorem q_ct_less {p q : Nat → Prop} {j : Nat} : ∀ {n : Nat}, (∀ k, k < n → p k → q k) → j < n → q j → ¬ p j → q_ct p n < q_ct q n
  | 0, _, hj, _, _ => absurd hj (Nat.not_lt_zero j)
  | n + 1, h, hj, h1, h2 => by
    by_cases e : j = n
    · subst e
      rw [q_ct_n h2, q_ct_y h1]
      have := q_ct_mono (p := p) (q := q) (n := j) (fun k hk => h k (Nat.lt_succ_of_lt hk))
      omega
    · have ih := q_ct_less (p := p) (q := q) (j := j) (n := n) (fun k hk => h k (Nat.lt_succ_of_lt hk)) (by omega) h1 h2
      by_cases hp : p n
      · rw [q_ct_y hp, q_ct_y (h n (Nat.lt_succ_self n) hp)]; omega
      · rw [q_ct_n hp]
        by_cases hq : q n
        · rw [q_ct_y hq]; omega
        · rw [q_ct_n hq]; exact ih
def z_ahd (g : Nat → Int64) (i k : Nat) : Prop := g k < g i ∨ (g i = g k ∧ i < k)
theorem z_ahd_tr {g : Nat → Int64} {a b d : Nat} (h1 : z_ahd g a b) (h2 : z_ahd g b d) : z_ahd g a d := by
  rcases h1 with h1 | ⟨h1, h3⟩
  · rcases h2 with h2 | ⟨h2, h4⟩
    · exact Or.inl (Int64.lt_trans h2 h1)
    · exact Or.inl (by rw [← h2]; exact h1)
  · rcases h2 with h2 | ⟨h2, h4⟩
    · exact Or.inl (by rw [h1]; exact h2)
    · exact Or.inr ⟨h1.trans h2, by omega⟩
theorem z_ahd_ir {g : Nat → Int64} {a : Nat} : ¬ z_ahd g a a := fun h => h.elim (fun z => Int64.lt_irrefl z) (fun z => Nat.lt_irrefl a z.2)
theorem z_ahd_or {g : Nat → Int64} {a b : Nat} (h : a ≠ b) : z_ahd g a b ∨ z_ahd g b a := by
  by_cases e : g a = g b
  · rcases Nat.lt_or_ge a b with q | q
    · exact Or.inl (Or.inr ⟨e, q⟩)
    · exact Or.inr (Or.inr ⟨e.symm, by omega⟩)
  · by_cases q : g a < g b
    · exact Or.inr (Or.inl q)
    · refine Or.inl (Or.inl ?_)
      rw [Int64.lt_iff_toInt_lt] at q ⊢
      have e2 : (g a).toInt ≠ (g b).toInt := fun z => e (Int64.toInt_inj.mp z)
      omega
theorem q_rk_lt (g : Nat → Int64) {a b : Nat} (ha : a < 7) (h : z_ahd g a b) : q_rk g a < q_rk g b :=
  q_ct_less (p := fun i => z_ahd g i a) (q := fun i => z_ahd g i b) (j := a) (n := 7) (fun k _ hk => z_ahd_tr hk h) ha h z_ahd_ir
theorem q_rk_inj (g : Nat → Int64) {a b : Nat} (ha : a < 7) (hb : b < 7) (h : q_rk g a = q_rk g b) : a = b := by
  by_cases e : a = b
  · exact e
  · rcases z_ahd_or (g := g) e with q | q
    · have := q_rk_lt g ha q
      omega
    · have := q_rk_lt g hb q
      omega
theorem q_rk_7 (g : Nat → Int64) {a : Nat} (ha : a < 7) : q_rk g a < 7 := by
  have h := q_ct_less (p := fun i => z_ahd g i a) (q := fun _ => True) (j := a) (n := 7) (fun _ _ _ => trivial) ha trivial z_ahd_ir
  have h2 := q_ct_le (fun _ => True) 7
  exact Nat.lt_of_lt_of_le h h2
theorem q_rk_congr {g g2 : Nat → Int64} (h : ∀ p, p < 7 → g p = g2 p) {a : Nat} (ha : a < 7) : q_rk g a = q_rk g2 a :=
  q_ct_congr fun k hk => by
    show z_ahd g k a ↔ z_ahd g2 k a
    unfold z_ahd
    rw [h k hk, h a ha]
/-! behind a search for the best chain -/
theorem q_crd_boff {V U : q_V} (h : q_boff V U) (a : Nat) (ha : a < 7) : q_crd U a ↔ q_crd V a := by
  unfold q_crd
  rw [h 13 a (by decide) (by decide) (by decide) (by omega), h (20 + a) _ (by omega) (by omega) (by omega) (by omega)]
theorem z_row {V U : q_V} (h : q_boff V U) {a : Nat} (h1 : a ≠ 15 ∧ a ≠ 16 ∧ a ≠ 17 ∧ a ≠ 9) : U a = V a := funext fun j => h a j h1.1 h1.2.1 h1.2.2.1 (by omega)
theorem z_sgb {V U : q_V} (h : q_boff V U) (i : Nat) : q_sg V U i := ⟨z_row h (by omega), z_row h (by omega)⟩
theorem zRel_boff {V U : q_V} {G : q_G} {B n ns g0 : Nat} {gp gs : Nat → Nat} (h : zRel V G B n ns g0 gp gs) (hU : q_boff V U) : zRel U G B n ns g0 gp gs := by
  obtain ⟨h1, h2, h3, h4, h5, h6, h7, h8, h9, h10⟩ := h
  have row : ∀ a, (a ≠ 15 ∧ a ≠ 16 ∧ a ≠ 17 ∧ a ≠ 9) → U a = V a := fun a ha => z_row hU ha
  refine ⟨fun p c hp hc => ?_, fun c hc => ?_, ⟨?_, gis_of_sg h3.2 (z_sgb hU 0)⟩, ⟨?_, ?_, h4.2.2.1, fun pa hp => ⟨?_, gis_of_sg (h4.2.2.2 pa hp).2 (z_sgb hU _)⟩⟩, fun pa hp => ?_, ⟨?_, ?_, h6.2.2.1, fun t ht => ?_⟩, ⟨fun b hb => ?_, fun b hb hb2 => ?_, fun b hb => ?_⟩, fun p hp => ?_, fun p hp => ?_, h10⟩
  · rw [row 72 (by decide), row (20 + p) (by omega)]; exact h1 p c hp hc
  · have e : q_cbs U c 20 = q_cbs V c 20 := q_cbs_congr (q_chs2_congr (by rw [row 2 (by decide)]) 7 (fun p hp => by rw [row (20 + p) (by omega)])) 20 (fun b hb => q_cbelt_sg (n := n) (by have := h4.2.2.1; omega) (by rw [row 6 (by decide)]) (zbelt h7 hb) (fun pa _ => z_sgb hU _) _)
    rw [e, row 72 (by decide), row 2 (by decide), row 74 (by decide), row 3 (by decide)]
    exact h2 c hc
  · rw [row 18 (by decide)]; exact h3.1
  · rw [row 0 (by decide)]; exact h4.1
  · rw [row 18 (by decide)]; exact h4.2.1
  · rw [row 69 (by decide)]; exact (h4.2.2.2 pa hp).1
  · obtain ⟨a1, a2, o, a3, a4⟩ := h5 pa hp
    rw [row 69 (by decide), row 5 (by decide)]
    exact ⟨a1, a2, o, q_corg_sg (fun _ _ => z_sgb hU _) a3, a4⟩
  · rw [row 0 (by decide)]; exact h6.1
  · rw [row 18 (by decide)]; exact h6.2.1
  · obtain ⟨a1, a2, a3⟩ := h6.2.2.2 t ht
    rw [row 70 (by decide), row 11 (by decide)]
    exact ⟨a1, gis_of_sg a2 (z_sgb hU _), a3⟩
  · rw [row 71 (by decide), row 6 (by decide), row 7 (by decide)]; exact h7.1 b hb
  · rw [row 6 (by decide)]; exact h7.2.1 b hb hb2
  · rw [row 7 (by decide)]; exact h7.2.2 b hb
  · rw [row 74 (by decide), row 8 (by decide)]; exact h8 p hp
  · rw [row 73 (by decide), row 13 (by decide), row 14 (by decide)]; exact h9 p hp
theorem z_chs_congr {f g : List Nat → Nat → List Nat} (h : ∀ b k, k < 7 → f b k = g b k) : ∀ (m k : Nat) (b : List Nat), k + m ≤ 7 → q_chs f m k b = q_chs g m k b
  | 0, _, _, _ => rfl
  | m + 1, k, b, hk => by
    show q_chs f m (k + 1) (f b k) = q_chs g m (k + 1) (g b k)
    rw [h b k (by omega)]
    exact z_chs_congr h m (k + 1) _ (by omega)
theorem z_ch_congr {rd rd' : Nat → Prop} {gt : Nat → Nat → Prop} (h1 : ∀ a, a < 7 → (rd a ↔ rd' a)) : ∀ (d : Nat) (r b : List Nat), q_ch rd gt d r b = q_ch rd' gt d r b
  | 0, _, _ => rfl
  | d + 1, r, b => by
    rw [q_ch_succ, q_ch_succ]
    refine z_chs_congr (fun b k hk => ?_) 7 0 b (Nat.le_refl 7)
    have hrow : q_row rd gt r k ↔ q_row rd' gt r k := ⟨fun z => ⟨(h1 k hk).mp z.1, z.2⟩, fun z => ⟨(h1 k hk).mpr z.1, z.2⟩⟩
    by_cases hc : q_row rd gt r k
    · rw [q_stp_y hc, q_stp_y (hrow.mp hc)]
      exact z_ch_congr h1 d (r ++ [k]) _
    · rw [q_stp_n hc, q_stp_n (fun z => hc (hrow.mpr z))]
theorem z_best_boff {V U : q_V} (h : q_boff V U) : q_best (q_crd U) (q_cgt U) = q_best (q_crd V) (q_cgt V) := by
  rw [q_cgt_boff h]
  exact z_ch_congr (fun a ha => q_crd_boff h a ha) 7 [] []
