/-! the program's methods where they can't throw, as the law's turns ask them -/
theorem z_nle {a b : Nat} (ha : a < 2 ^ 31) (hb : b < 2 ^ 31) (h : b ≤ a) : ¬ nI a < nI b := fun z => by
  have := (nI_ltI ha hb).mp z
  omega
/-- the program's rows as they were -/
def z_lc (V X : q_V) : Prop := ∀ a, a < 69 → a ≠ 18 → X a = V a
theorem z_lc_sg {V X : q_V} (h : z_lc V X) {i : Nat} (hi : i < 21) : q_sg V X i := ⟨h _ (by omega) (by omega), h _ (by omega) (by omega)⟩
theorem z_lc_cp {V X : q_V} {n : Nat} {gp : Nat → Nat} (h : z_lc V X) (h4 : zR4 V n gp) : q_cpats X n := fun pa hp => by
  have hn := h4.2.2.1
  have h9 := gis_of_sg (h4.2.2.2 pa hp).2 (z_lc_sg h (show 1 + pa < 21 by omega))
  obtain ⟨e1, e2⟩ := gis_gw h9
  rw [e1, e2]
  exact h9.2.1
theorem zM_bring (l : Launch) (σ : q_E) (X : q_V) (G : q_G) (hlf : l.stackTraces = false) {v v3 : Int32} {wh col md m : Nat} (hv : X (20 + wh) col = v) (hv3 : X 3 col = v3) (hm : v = nI m) (hm2 : m ≤ 3000) (hw : wh < 5) (hc : col < 8) (h1 : 1 ≤ md) (h2 : md ≤ 30) : q_Mi l yX2_bring wsX2_bring rX2_bring σ [.ref (σ.2.1 0), .int (nI wh), .int (nI col), .int (nI md)] X G (fun r V' G' => v + nI md = r ∧ q_up (q_up X (20 + wh) col (v + nI md)) 3 col (v3 + nI md) = V' ∧ G = G') 6 36 := by
  refine q_Mi_X (kX2_bring l σ X G hlf (nI wh) (nI col) (nI md)) (fun E V' G' z => q_xc_0 (q_c3_0 ⟨q_ok_nI (by omega), q_ok_nI hc⟩ ⟨z_nle (by omega) (by omega) h1, z_nle (by omega) (by omega) (by omega)⟩ ?_) z.1) (fun r V' G' z => ?_)
  · rw [q_n_nI (n := wh) (by omega), q_n_nI (n := col) (by omega), hv, hm, nI_add]
    exact (nI_leI (by omega) (by omega)).mpr (by omega)
  · obtain ⟨-, e, e2, e3⟩ := z
    rw [q_n_nI (n := wh) (by omega), q_n_nI (n := col) (by omega), hv] at e e2
    rw [hv3] at e2
    exact ⟨e, e2, e3⟩
theorem zt_r {lo : Nat} (h : lo < 41) : ¬ (nI lo - nI 20) < -1000 ∧ ¬ nI 1000 < (nI lo - nI 20) := by
  have e : ((-1000 : Int32)).toInt = -1000 := by decide
  refine ⟨fun z => ?_, fun z => ?_⟩
  · rw [Int32.lt_iff_toInt_lt, zt_z h, e] at z
    omega
  · rw [Int32.lt_iff_toInt_lt, zt_z h, nI_toInt (by omega)] at z
    omega
theorem zM_lay (l : Launch) (σ : q_E) (X : q_V) (G : q_G) (hlf : l.stackTraces = false) {v v2 : Int32} {wh col lo m m2 : Nat} (hv : X (20 + wh) col = v) (hv2 : X 2 col = v2) (hm : v = nI m) (hm2 : v2 = nI m2) (hm3 : m ≤ 3000 ∧ m2 ≤ 3000) (hw : wh < 5) (hc : col < 8) (hlo : lo < 41) (hz1 : ¬ nI m < nI lo - nI 20) (hz2 : 0 ≤ nI m2 + (nI lo - nI 20)) : q_Mi l yX2_lay wsX2_lay rX2_lay σ [.ref (σ.2.1 0), .int (nI wh), .int (nI col), .int (nI lo - nI 20)] X G (fun r V' G' => v2 + (nI lo - nI 20) = r ∧ q_up (q_up X (20 + wh) col (v - (nI lo - nI 20))) 2 col (v2 + (nI lo - nI 20)) = V' ∧ G = G') 6 36 := by
  refine q_Mi_X (kX2_lay l σ X G hlf (nI wh) (nI col) (nI lo - nI 20)) (fun E V' G' z => q_xc_0 (q_c3_0 ⟨q_ok_nI (by omega), q_ok_nI hc⟩ (zt_r hlo) ?_) z.1) (fun r V' G' z => ?_)
  · rw [q_n_nI (n := wh) (by omega), q_n_nI (n := col) (by omega), hv, hv2, hm, hm2]
    obtain ⟨q1, q2⟩ := z_subz hm3.1 hlo hz1
    rw [q1]
    exact ⟨nI_pos (by omega), z_nle (by omega) (by omega) (by omega), hz2⟩
  · obtain ⟨-, e, e2, e3⟩ := z
    rw [q_n_nI (n := col) (by omega), hv2] at e
    rw [q_n_nI (n := wh) (by omega), q_n_nI (n := col) (by omega), hv, hv2] at e2
    exact ⟨e, e2, e3⟩
theorem zM_noLay (l : Launch) (σ : q_E) (X : q_V) (G : q_G) (hlf : l.stackTraces = false) {wh col lo m m2 : Nat} (hv : X (20 + wh) col = nI m) (hv2 : X 2 col = nI m2) (hm3 : m ≤ 3000) (hw : wh < 5) (hc : col < 8) (hlo : lo < 41) (hz : nI m < nI lo - nI 20 ∨ ¬ 0 ≤ nI m2 + (nI lo - nI 20)) : q_Mi l yL_refused wsL_refused rL_refused_1 σ [.ref (σ.2.1 0), .int (nI 1), .int (nI wh), .int (nI col), .int (nI lo - nI 20)] X G (fun r V' G' => nI 3 = r ∧ X = V' ∧ G = G') 6 36 := by
  refine kL_refused_1 l σ X G hlf (nI wh) (nI col) (nI lo - nI 20) (q_c3_3 ⟨q_ok_nI (by omega), q_ok_nI hc⟩ (zt_r hlo) ?_)
  rw [q_n_nI (n := wh) (by omega), q_n_nI (n := col) (by omega), hv, hv2]
  rintro ⟨a1, -, a3⟩
  rcases hz with z | z
  · refine a1 ?_
    rw [Int32.lt_iff_toInt_lt, zt_z hlo, nI_toInt (by omega)] at z
    rw [Int32.lt_iff_toInt_lt, zt_sub hm3 hlo]
    have h0 : (0 : Int32).toInt = 0 := by decide
    rw [h0]
    omega
  · exact z a3
theorem zM_draft (l : Launch) (σ : q_E) (X : q_V) (G : q_G) (hlf : l.stackTraces = false) {x y : Nat} (hx : 1 ≤ x ∧ x ≤ 3) (hy : 1 ≤ y ∧ y ≤ 3) : q_Mi l yX2_draft wsX2_draft rX2_draft σ [.ref (σ.2.1 0), .int (nI x), .int (nI y)] X G (fun r V' G' => nI (x * y) = r ∧ q_fill (q_up (q_up X (27 + 0) 1 (nI x)) (27 + 0) 2 (nI y)) (48 + 0) 0 48 = V' ∧ G = G') 6 36 := by
  refine q_Mi_X (kX2_draft l σ X G hlf (nI x) (nI y)) (fun E V' G' z => q_xc_0 (q_c1_0 ⟨⟨z_nle (by omega) (by omega) hx.1, z_nle (by omega) (by omega) (by omega)⟩, ⟨z_nle (by omega) (by omega) hy.1, z_nle (by omega) (by omega) (by omega)⟩⟩) z.1) (fun r V' G' z => ?_)
  obtain ⟨-, e, e2⟩ := z
  exact ⟨(pk_mul x y).symm.trans e, e2⟩
theorem zM_bead (l : Launch) (σ : q_E) (X : q_V) (G : q_G) (hlf : l.stackTraces = false) {cn ln z w h : Nat} (hd : q_gok X 0 w h) (hcn : cn < w) (hln : ln < h) (hz : z < 8) : q_Mi l yX2_bead wsX2_bead rX2_bead σ [.ref (σ.2.1 0), .int (nI cn), .int (nI ln), .int (nI z)] X G (fun r V' G' => X (48 + 0) (ln * w + cn) = r ∧ q_up X (48 + 0) (ln * w + cn) (nI z) = V' ∧ G = G') 6 36 := by
  obtain ⟨-, -, d1, d2, d3, d4⟩ := id hd
  refine q_Mi_X (kX2_bead l σ X G hlf hd (nI cn) (nI ln) (nI z)) (fun E V' G' z => q_xc_0 (q_c1_0 ⟨q_ok_nI hcn, q_ok_nI hln, q_ok_nI hz⟩) z.1) (fun r V' G' z => ?_)
  obtain ⟨-, e, e2, e3⟩ := z
  rw [q_n_nI (n := cn) (by omega), q_n_nI (n := ln) (by omega)] at e e2
  exact ⟨e, e2, e3⟩
theorem zM_noBead (l : Launch) (σ : q_E) (X : q_V) (G : q_G) (hlf : l.stackTraces = false) {cn ln w h : Nat} (hd : q_gok X 0 w h) (hcl : cn < 3 ∧ ln < 3) (hn : ¬ (cn < w ∧ ln < h)) (z : Int32) : q_Mi l yL_refused wsL_refused rL_refused_5 σ [.ref (σ.2.1 0), .int (nI 5), .int (nI cn), .int (nI ln), .int z] X G (fun r V' G' => nI 1 = r ∧ X = V' ∧ G = G') 6 36 := by
  obtain ⟨-, -, d1, d2, d3, d4⟩ := id hd
  refine kL_refused_5 l σ X G hlf hd (nI cn) (nI ln) z (q_c1_1 ?_)
  rintro ⟨⟨i, hi, e1⟩, ⟨j, hj, e2⟩, -⟩
  have e3 := q_nI_inj e1 (by omega) (by omega)
  have e4 := q_nI_inj e2 (by omega) (by omega)
  omega
theorem zM_pattern (l : Launch) (σ : q_E) (X : q_V) (G : q_G) (hlf : l.stackTraces = false) {n wh : Nat} {x y : Int32} (hn : X 0 6 = nI n) (hn2 : n < 12) (hw : wh < 7) (hx : X (27 + 0) 1 = x) (hy : X (27 + 0) 2 = y) : q_Mi l yX2_pattern wsX2_pattern rX2_pattern σ [.ref (σ.2.1 0), .int (nI wh)] X G (fun r V' G' => nI n = r ∧ q_up (q_up (q_cpy (q_up (q_up X (27 + (1 + n)) 1 x) (27 + (1 + n)) 2 y) (48 + 0) (48 + (1 + n)) 48) 5 n (nI wh)) 0 6 (nI (n + 1)) = V' ∧ G = G') 6 36 := by
  refine q_Mi_X (kX2_pattern l σ X G hlf hn (by omega) (nI wh)) (fun E V' G' z => q_xc_0 (q_c2_0 (q_ok_nI hw) (by omega)) z.1) (fun r V' G' z => ?_)
  obtain ⟨-, e, e2, e3⟩ := z
  rw [hx, hy] at e2
  exact ⟨e, e2, e3⟩
theorem zM_sign (l : Launch) (σ : q_E) (X : q_V) (G : q_G) (hlf : l.stackTraces = false) {ns wt w h : Nat} (hd : q_gok X 0 w h) (hw3 : w ≤ 3) (hh3 : h ≤ 3) (hs : X 0 13 = nI ns) (hns : ns < 8) (h1 : 1 ≤ wt) (h2 : wt ≤ 100) : q_Mi l yX2_sign wsX2_sign rX2_sign σ [.ref (σ.2.1 0), .int (nI wt)] X G (fun r V' G' => nI ns = r ∧ q_up (q_up (q_cpy (q_up (q_up X (27 + (13 + ns)) 1 (nI w)) (27 + (13 + ns)) 2 (nI h)) (48 + 0) (48 + (13 + ns)) 48) 11 ns (nI wt)) 0 13 (nI (ns + 1)) = V' ∧ G = G') 6 36 := by
  refine q_Mi_X (kX2_sign l σ X G hlf hd hs (by omega) (nI wt)) (fun E V' G' z => q_xc_0 (q_c2_0 ⟨z_nle (by omega) (by omega) h1, z_nle (by omega) (by omega) h2⟩ ⟨hw3, hh3, by omega⟩) z.1) (fun r V' G' z => ?_)
  obtain ⟨-, e, e2, e3⟩ := z
  rw [hd.1, hd.2.1] at e2
  exact ⟨e, e2, e3⟩
theorem zM_weave (l : Launch) (σ : q_E) (V X : q_V) (G : q_G) (hlf : l.stackTraces = false) {n : Nat} {gp : Nat → Nat} (hX : z_lc V X) (h4 : zR4 V n gp) (h5 : zR5 V n) {wh its kf o au : Nat} (hw : wh < 5) (hi : its < n) (hk : kf < 6) (hbel : ∀ b, b < kf → ¬ V 6 b = -1) (hfree : V 6 kf = -1) (hneed : ∀ c, c < 8 → nI (gneed (gp its) c) ≤ V (20 + wh) c) (ho : q_corg V its o) (hau : V 5 o = nI au) (hau7 : au < 7) : q_Mi l yX2_weave wsX2_weave rX2_weave σ [.ref (σ.2.1 0), .int (nI wh), .int (nI its)] X G (fun r V' G' => nI kf = r ∧ q_up (q_up (q_up (q_subr X wh (fun k => nI (gneed (gp its) k)) 8) 6 kf (nI its)) 7 kf (nI wh)) 8 au (V 8 au + nI 1) = V' ∧ G = G') 6 36 := by
  have hn6 := h4.2.2.1
  have en : ∀ c, c < 8 → nI (q_cneeds X its (nI c)) = nI (gneed (gp its) c) := fun c hc => by rw [q_cneeds_sg (z_lc_sg hX (by omega)), zc_needs h4 hi hc]
  have x6 : X 6 = V 6 := hX 6 (by omega) (by omega)
  refine q_Mi_X (kX2_weave l σ X G hlf (by rw [hX 0 (by omega) (by omega)]; exact h4.1) (by omega) (z_lc_cp hX h4) (fun pa hp => by rw [hX 5 (by omega) (by omega)]; exact (h5 pa hp).2.1) (nI wh) (nI its)) (fun E V' G' z => q_xc_0 (q_c2_0 ⟨q_ok_nI (by omega), q_ok_nI hi⟩ ⟨⟨kf, by omega, by rw [x6]; exact hfree⟩, fun k hk8 => ?_⟩) z.1) (fun r V' G' z => ?_)
  · obtain ⟨-, ⟨kf2, o2, a1, a2, a3, a4, a5, a6⟩, e3⟩ := z
    rw [x6] at a2 a3
    have ek : kf2 = kf := by
      rcases Nat.lt_trichotomy kf2 kf with q | q | q
      · exact absurd a3 (hbel kf2 q)
      · exact q
      · exact absurd hfree (a2 kf q)
    subst ek
    rw [q_n_nI (n := its) (by omega)] at a5 a6
    have eo : o2 = o := q_corg_one (q_corg_sg (V := X) (U := V) (fun pa hp => ⟨(z_lc_sg hX (show 1 + pa < 21 by omega)).1.symm, (z_lc_sg hX (show 1 + pa < 21 by omega)).2.symm⟩) a5) ho
    subst eo
    rw [q_n_nI (n := wh) (by omega), hX 5 (by omega) (by omega), hau, q_n_nI (n := au) (by omega), hX 8 (by omega) (by omega), q_subr_cong (g := fun k => nI (gneed (gp its) k)) en] at a6
    exact ⟨a4, a6, e3⟩
  · rw [q_n_nI (n := its) (by omega), q_n_nI (n := wh) (by omega), en k hk8, hX (20 + wh) (by omega) (by omega)]
    exact hneed k hk8
theorem zM_noWeave (l : Launch) (σ : q_E) (V : q_V) (G : q_G) (hlf : l.stackTraces = false) {n : Nat} {gp : Nat → Nat} (h4 : zR4 V n gp) (h5 : zR5 V n) {wh its : Nat} (hw : wh < 5) (hi : its < n) (hneed : ¬ ∀ c, c < 8 → nI (gneed (gp its) c) ≤ V (20 + wh) c) (x : Int32) : q_Mi l yL_refused wsL_refused rL_refused_0 σ [.ref (σ.2.1 0), .int (nI 0), .int (nI wh), .int (nI its), .int x] V G (fun r V' G' => nI 3 = r ∧ V = V' ∧ G = G') 6 36 := by
  have hn6 := h4.2.2.1
  refine kL_refused_0 l σ V G hlf h4.1 (by omega) (zcp h4) (fun pa hp => (h5 pa hp).2.1) (nI wh) (nI its) x (q_c2_2 ⟨q_ok_nI (by omega), q_ok_nI hi⟩ ?_)
  rintro ⟨-, a2⟩
  refine hneed fun c hc => ?_
  have := a2 c hc
  rw [q_n_nI (n := its) (by omega), q_n_nI (n := wh) (by omega), zc_needs h4 hi hc] at this
  exact this
theorem zM_give (l : Launch) (σ : q_E) (X : q_V) (G : q_G) (hlf : l.stackTraces = false) {k wh : Nat} {v : Int32} (hk : k < 6) (hw : wh < 5) (hb : ¬ X 6 k = -1) (hv : X 7 k = v) : q_Mi l yX2_give wsX2_give rX2_give σ [.ref (σ.2.1 0), .int (nI k), .int (nI wh)] X G (fun r V' G' => v = r ∧ q_up X 7 k (nI wh) = V' ∧ G = G') 6 36 := by
  refine q_Mi_X (kX2_give l σ X G hlf (nI k) (nI wh)) (fun E V' G' z => q_xc_0 (q_c1_0 ⟨⟨k, by omega, rfl, hb⟩, q_ok_nI (by omega)⟩) z.1) (fun r V' G' z => ?_)
  obtain ⟨-, e, e2, e3⟩ := z
  rw [q_n_nI (n := k) (by omega)] at e e2
  exact ⟨hv.symm.trans e, e2, e3⟩
theorem zM_hear (l : Launch) (σ : q_E) (X : q_V) (G : q_G) (hlf : l.stackTraces = false) {n ns : Nat} {gp gs : Nat → Nat} (h4 : zR4 X n gp) (h6 : zR6 X ns gs) (h7 : zR7 X n) {k wh its : Nat} (hk : k < 6) (hw : wh < 5) (hi : its < n) (hb : X 6 k = nI its) : q_Ml l yX2_hear wsX2_hear rX2_hear σ [.ref (σ.2.1 0), .int (nI k), .int (nI wh)] X G (fun r V' G' => G 12 wh + (q_cstory X its ns).toInt64 = r ∧ X = V' ∧ q_upL G 12 wh (G 12 wh + (q_cstory X its ns).toInt64) = G') 6 36 := by
  have hn6 := h4.2.2.1
  have hns4 := h6.2.2.1
  refine q_Ml_X (kX2_hear l σ X G hlf (show n ≤ 12 by omega) (zcp h4) (zcb h7) h6.1 (by omega) (zcs h6) (nI k) (nI wh)) (fun E V' G' z => q_xc_0 (q_c1_0 ⟨⟨k, by omega, rfl, by rw [hb]; exact q_nI_ne1 (by omega)⟩, q_ok_nI (by omega)⟩) z.1) (fun r V' G' z => ?_)
  obtain ⟨-, e, e2, e3⟩ := z
  rw [q_n_nI (n := wh) (by omega), q_n_nI (n := k) (by omega), hb, q_n_nI (n := its) (by omega)] at e e3
  exact ⟨e, e2, e3⟩
theorem zM_apart (l : Launch) (σ : q_E) (V X : q_V) (G : q_G) (hlf : l.stackTraces = false) {B n : Nat} {gp : Nat → Nat} (hX : z_lc V X) (h1 : zR1 V B) (hB : B ≤ 1500) (h4 : zR4 V n gp) (h7 : zR7 V n) {k its ow : Nat} (hk : k < 6) (hi : its < n) (hb : V 6 k = nI its) (how : V 7 k = nI ow) (how7 : ow < 7) : q_Mi l yX2_apart wsX2_apart rX2_apart σ [.ref (σ.2.1 0), .int (nI k)] X G (fun r V' G' => nI (gwd (gp its) * ghi (gp its)) = r ∧ q_up (q_addr X ow (fun c => nI (gneed (gp its) c)) 8) 6 k (-1) = V' ∧ G = G') 6 36 := by
  have hn6 := h4.2.2.1
  have en : ∀ c, c < 8 → nI (q_cneeds X its (nI c)) = nI (gneed (gp its) c) := fun c hc => by rw [q_cneeds_sg (z_lc_sg hX (by omega)), zc_needs h4 hi hc]
  have x6 : X 6 = V 6 := hX 6 (by omega) (by omega)
  have x7 : X 7 = V 7 := hX 7 (by omega) (by omega)
  have hbl : q_cbelts X n := fun b hb9 => by rw [x6]; exact zbelt h7 hb9
  have how9 : ∀ b, b < 20 → ∃ a, a < 7 ∧ X 7 b = nI a := fun b hb9 => by rw [x7]; exact h7.2.2 b hb9
  refine q_Mi_X (kX2_apart l σ X G hlf (show n ≤ 12 by omega) (z_lc_cp hX h4) hbl how9 (nI k)) (fun E V' G' z => q_xc_0 (q_c2_0 ⟨k, by omega, rfl, by rw [x6, hb]; exact q_nI_ne1 (by omega)⟩ (fun c hc => ?_)) z.1) (fun r V' G' z => ?_)
  · rw [q_n_nI (n := k) (by omega), x7, how, q_n_nI (n := ow) (by omega), x6, hb, q_n_nI (n := its) (by omega), en c hc, hX (20 + ow) (by omega) (by omega)]
    obtain ⟨-, m, m1, m2⟩ := h1 ow c how7 hc
    have hb9 := gneed_le (h4.2.2.2 its hi).2.1 c
    rw [m2, nI_add]
    exact (nI_leI (by omega) (by omega)).mpr (by omega)
  · obtain ⟨-, e, e2, e3⟩ := z
    have h9 := gis_of_sg (h4.2.2.2 its hi).2 (z_lc_sg hX (show 1 + its < 21 by omega))
    obtain ⟨g1, g2⟩ := gis_gw h9
    rw [q_n_nI (n := k) (by omega), x6, hb, q_n_nI (n := its) (by omega), g1, g2] at e
    rw [q_n_nI (n := k) (by omega), x7, how, q_n_nI (n := ow) (by omega), x6, hb, q_n_nI (n := its) (by omega), q_addr_cong (g := fun c => nI (gneed (gp its) c)) en] at e2
    exact ⟨e, e2, e3⟩
theorem zM_noApart (l : Launch) (σ : q_E) (V : q_V) (G : q_G) (hlf : l.stackTraces = false) {n : Nat} {gp : Nat → Nat} (h4 : zR4 V n gp) (h7 : zR7 V n) {k : Nat} (hk : k < 6) (hb : V 71 (2 * k) < 0) (x y : Int32) : q_Mi l yL_refused wsL_refused rL_refused_2 σ [.ref (σ.2.1 0), .int (nI 2), .int (nI k), .int x, .int y] V G (fun r V' G' => nI 1 = r ∧ V = V' ∧ G = G') 6 36 := by
  have hn6 := h4.2.2.1
  exact kL_refused_2 l σ V G hlf (show n ≤ 12 by omega) (zcp h4) (zcb h7) h7.2.2 (nI k) x y (q_c2_1 (z_nib hn6 h7 hk hb))
theorem zM_wish (l : Launch) (σ : q_E) (X : q_V) (G : q_G) (hlf : l.stackTraces = false) {wh y z : Nat} {v : Int32} (hw : wh < 5) (hy : y < 8) (hz : z < 8) (hyz : y ≠ z) (hv : X 13 wh = v) : q_Mi l yX2_wish wsX2_wish rX2_wish σ [.ref (σ.2.1 0), .int (nI wh), .int (nI y), .int (nI z)] X G (fun r V' G' => q_w01 (¬ v = -1) = r ∧ q_up (q_up X 13 wh (nI y)) 14 wh (nI z) = V' ∧ G = G') 6 36 := by
  refine q_Mi_X (kX2_wish l σ X G hlf (nI wh) (nI y) (nI z)) (fun E V' G' z9 => q_xc_0 (q_c2_0 ⟨q_ok_nI (by omega), q_ok_nI hy, q_ok_nI hz⟩ (fun e => hyz (q_nI_inj e (by omega) (by omega)))) z9.1) (fun r V' G' z9 => ?_)
  obtain ⟨-, e, e2, e3⟩ := z9
  rw [q_n_nI (n := wh) (by omega)] at e e2
  rw [hv] at e
  refine ⟨?_, e2, e3⟩
  rcases e with ⟨e, rfl⟩ | ⟨e, rfl⟩
  · exact q_w01_y e
  · exact q_w01_n e
theorem zM_unwish (l : Launch) (σ : q_E) (X : q_V) (G : q_G) (hlf : l.stackTraces = false) {wh : Nat} {v : Int32} (hw : wh < 5) (hv : X 13 wh = v) : q_Mi l yX2_unwish wsX2_unwish rX2_unwish σ [.ref (σ.2.1 0), .int (nI wh)] X G (fun r V' G' => q_w01 (¬ v = -1) = r ∧ q_up (q_up X 13 wh (-1)) 14 wh (-1) = V' ∧ G = G') 6 36 := by
  refine q_Mi_X (kX2_unwish l σ X G hlf (nI wh)) (fun E V' G' z9 => q_xc_0 (q_c1_0 (q_ok_nI (by omega))) z9.1) (fun r V' G' z9 => ?_)
  obtain ⟨-, e, e2, e3⟩ := z9
  rw [q_n_nI (n := wh) (by omega)] at e e2
  rw [hv] at e
  refine ⟨?_, e2, e3⟩
  rcases e with ⟨e, rfl⟩ | ⟨e, rfl⟩
  · exact q_w01_y e
  · exact q_w01_n e
theorem z_lc_best {V X : q_V} (h : z_lc V X) : q_best (q_crd X) (q_cgt X) = q_best (q_crd V) (q_cgt V) := by
  have e : q_cgt X = q_cgt V := by
    funext a b
    unfold q_cgt
    rw [h 13 (by omega) (by omega), h 14 (by omega) (by omega)]
  rw [e]
  refine z_ch_congr (fun a ha => ?_) 7 [] []
  unfold q_crd
  rw [h 13 (by omega) (by omega), h (20 + a) (by omega) (by omega)]
theorem zM_fair (l : Launch) (σ : q_E) (V X : q_V) (G : q_G) (hX : z_lc V X) (h9 : zR9 V) {b : List Nat} (hb : b = q_best (q_crd V) (q_cgt V)) : q_Mi l yX2_fair wsX2_fair rX2_fair σ [.ref (σ.2.1 0)] X G (fun r V' G' => nI b.length = r ∧ (∃ U, q_boff X U ∧ q_exch U b b.length = V') ∧ G = G') 0 0 := by
  refine q_Mi_imp (kX2_fair l σ X G (fun a ha => ?_)) (fun r V' G' z => ?_)
  · rw [hX 13 (by omega) (by omega), hX 14 (by omega) (by omega)]
    exact zw2 h9 a ha
  · rw [z_lc_best hX, ← hb] at z
    exact z
/-! the story as a long -/
theorem z_i64 {a : Nat} (h : a < 2 ^ 31) : (nI a).toInt64.toInt = (a : Int) := by
  rw [Int32.toInt_toInt64, nI_toInt h]
theorem z_i64_add {a b : Nat} (h : a + b < 2 ^ 31) : (nI a).toInt64 + (nI b).toInt64 = (nI (a + b)).toInt64 := by
  refine Int64.toInt_inj.mp ?_
  rw [Int64.toInt_add, z_i64 (by omega), z_i64 (by omega), z_i64 h]
  exact Int.bmod_eq_of_le (by omega) (by omega)
theorem z_st_nat {V : q_V} {n ns pa : Nat} {gp gs : Nat → Nat} (h4 : zR4 V n gp) (h6 : zR6 V ns gs) (hp : pa < n) : ∀ i, i ≤ ns → ∃ s, s ≤ 900 * i ∧ q_cstory V pa i = nI s
  | 0, _ => ⟨0, by omega, rfl⟩
  | i + 1, hi => by
    obtain ⟨s, s1, s2⟩ := z_st_nat h4 h6 hp i (by omega)
    obtain ⟨-, g1, -, w, w1, w2⟩ := h6.2.2.2 i (by omega)
    have hb := gstd_le g1.1 (h4.2.2.2 pa hp).2.1
    have hb2 := Nat.mul_le_mul w1 hb
    refine ⟨s + w * gstd (gs i) (gp pa), by omega, ?_⟩
    rw [← zst_cs h4 h6 hp (by omega), (h6.2.2.2 i (by omega)).2.2.1, w2, s2, pk_mul, nI_add]
theorem z_st_long {V : q_V} {n ns pa i : Nat} {gp gs : Nat → Nat} (h4 : zR4 V n gp) (h6 : zR6 V ns gs) (hp : pa < n) (hi : i < ns) : (q_cstory V pa i).toInt64 + (V 70 (2 * i + 1) * nI (gstd (gs i) (gp pa))).toInt64 = (q_cstory V pa (i + 1)).toInt64 := by
  have hns := h6.2.2.1
  obtain ⟨s, s1, s2⟩ := z_st_nat h4 h6 hp i (by omega)
  obtain ⟨-, g1, e1, w, w1, w2⟩ := h6.2.2.2 i hi
  have hb := gstd_le g1.1 (h4.2.2.2 pa hp).2.1
  have hb2 := Nat.mul_le_mul w1 hb
  rw [← zst_cs h4 h6 hp hi, e1, w2, s2, pk_mul, z_i64_add (by omega), nI_add]
