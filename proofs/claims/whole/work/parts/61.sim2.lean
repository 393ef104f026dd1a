/-! what the program's rows and the reference's have in common -/
def q_R1 (V : q_V) : Prop := ∀ p c, p < 7 → c < 8 → V 69 (8 * p + c) = V (20 + p) c
def q_R2 (V : q_V) : Prop := ∀ c, c < 8 → V 70 c = V 2 c ∧ V 71 c = V 3 c
def q_R3 (V : q_V) : Prop := q_gok V 0 (q_gw V 0) (q_gh V 0) ∧ V 19 4 = V (27 + 0) 1 ∧ V 19 5 = V (27 + 0) 2 ∧ ∀ r c, r < q_gh V 0 → c < q_gw V 0 → V 72 (8 * r + c) = V (48 + 0) (r * q_gw V 0 + c)
def q_R4 (V : q_V) (n : Nat) : Prop := V 0 6 = nI n ∧ V 19 7 = nI n ∧ n ≤ 12 ∧ q_cpats V n ∧ ∀ pa, pa < n → V 73 pa = V (27 + (1 + pa)) 1 ∧ V 74 pa = V (27 + (1 + pa)) 2 ∧ q_gs V (1 + pa) pa (q_gw V (1 + pa)) (q_gh V (1 + pa))
def q_R5 (V : q_V) (n : Nat) : Prop := ∀ pa, pa < n → V 76 pa = V 5 pa ∧ (∃ a, a < 7 ∧ V 5 pa = nI a) ∧ ∃ o, q_corg V pa o ∧ V 77 pa = nI o
def q_R6 (V : q_V) (ns : Nat) : Prop := V 0 13 = nI ns ∧ V 19 20 = nI ns ∧ ns ≤ 8 ∧ q_csgs V ns ∧ ∀ t, t < ns → V 85 t = V (27 + (13 + t)) 1 ∧ V 86 t = V (27 + (13 + t)) 2 ∧ q_gw V (13 + t) ≤ 3 ∧ q_gh V (13 + t) ≤ 3 ∧ V 88 t = V 11 t ∧ q_ss V (13 + t) t (q_gw V (13 + t)) (q_gh V (13 + t))
def q_R7 (V : q_V) (n : Nat) : Prop := ∀ b, b < 20 → V 78 b = V 6 b ∧ V 79 b = V 7 b ∧ (V 6 b = -1 ∨ ∃ pa, pa < n ∧ V 6 b = nI pa) ∧ ∃ a, a < 7 ∧ V 7 b = nI a
def q_R8 (V : q_V) : Prop := ∀ p, p < 7 → V 80 p = V 8 p
def q_R9 (V : q_V) : Prop := ∀ p, p < 7 → V 81 p = V 13 p ∧ (V 13 p = -1 ∨ (V 82 p = V 14 p ∧ (∃ c, c < 8 ∧ V 13 p = nI c) ∧ ∃ d, d < 8 ∧ V 14 p = nI d))
def q_R10 (G : q_G) : Prop := ∀ p, p < 7 → G 89 p = G 12 p
def q_Rel (V : q_V) (G : q_G) (n ns : Nat) : Prop := q_R1 V ∧ q_R2 V ∧ q_R3 V ∧ q_R4 V n ∧ q_R5 V n ∧ q_R6 V ns ∧ q_R7 V n ∧ q_R8 V ∧ q_R9 V ∧ q_R10 G
theorem q_R1_fr {V U : q_V} (h : q_R1 V) (h1 : U 69 = V 69) (h2 : ∀ p, p < 7 → U (20 + p) = V (20 + p)) : q_R1 U := fun p c hp hc => by rw [h1, h2 p hp]; exact h p c hp hc
theorem q_R2_fr {V U : q_V} (h : q_R2 V) (h1 : U 70 = V 70) (h2 : U 2 = V 2) (h3 : U 71 = V 71) (h4 : U 3 = V 3) : q_R2 U := fun c hc => by rw [h1, h2, h3, h4]; exact h c hc
/-- grid i as it was -/
def q_sg (V U : q_V) (i : Nat) : Prop := U (27 + i) = V (27 + i) ∧ U (48 + i) = V (48 + i)
theorem q_sg_gw {V U : q_V} {i : Nat} (h : q_sg V U i) : q_gw U i = q_gw V i := by unfold q_gw; rw [h.1]
theorem q_sg_gh {V U : q_V} {i : Nat} (h : q_sg V U i) : q_gh U i = q_gh V i := by unfold q_gh; rw [h.1]
theorem q_sg_gok {V U : q_V} {i w k : Nat} (h : q_sg V U i) (hg : q_gok V i w k) : q_gok U i w k := by unfold q_gok; rw [h.1]; exact hg
theorem q_R3_fr {V U : q_V} (h : q_R3 V) (h0 : q_sg V U 0) (h1 : U 19 4 = V 19 4) (h2 : U 19 5 = V 19 5) (h3 : U 72 = V 72) : q_R3 U := by
  unfold q_R3
  rw [q_sg_gw h0, q_sg_gh h0, h1, h2, h3, h0.1, h0.2]
  exact ⟨q_sg_gok h0 h.1, h.2⟩
theorem q_R4_fr {V U : q_V} {n : Nat} (h : q_R4 V n) (h0 : ∀ pa, pa < n → q_sg V U (1 + pa)) (h1 : U 0 6 = V 0 6) (h2 : U 19 7 = V 19 7) (h3 : U 73 = V 73) (h4 : U 74 = V 74) (h5 : U 75 = V 75) : q_R4 U n := by
  obtain ⟨a1, a2, a3, a4, a5⟩ := h
  refine ⟨h1.trans a1, h2.trans a2, a3, fun pa hpa => ?_, fun pa hpa => ?_⟩
  · rw [q_sg_gw (h0 pa hpa), q_sg_gh (h0 pa hpa)]
    exact q_sg_gok (h0 pa hpa) (a4 pa hpa)
  · obtain ⟨b1, b2, b3⟩ := a5 pa hpa
    rw [q_sg_gw (h0 pa hpa), q_sg_gh (h0 pa hpa), h3, h4, (h0 pa hpa).1]
    exact ⟨b1, b2, fun r c hr hc => by rw [h5, (h0 pa hpa).2]; exact b3 r c hr hc⟩
theorem q_corg_sg {V U : q_V} {n : Nat} (h0 : ∀ pa, pa ≤ n → q_sg V U (1 + pa)) {o : Nat} (h : q_corg V n o) : q_corg U n o := by
  have e : ∀ o k, o ≤ n → (q_calk U n o k ↔ q_calk V n o k) := fun o k ho => by
    unfold q_calk q_alike
    rw [q_sg_gw (h0 n (Nat.le_refl n)), q_sg_gh (h0 n (Nat.le_refl n)), q_sg_gw (h0 o ho), q_sg_gh (h0 o ho), (h0 n (Nat.le_refl n)).2, (h0 o ho).2]
  refine ⟨h.1, fun hlt => ?_, fun o' ho' hk => ?_⟩
  · obtain ⟨k, hk, hc⟩ := h.2.1 hlt
    exact ⟨k, hk, (e o k h.1).mpr hc⟩
  · obtain ⟨k, hk8, hc⟩ := hk
    exact h.2.2 o' ho' ⟨k, hk8, (e o' k (by have := h.1; omega)).mp hc⟩
theorem q_R5_fr {V U : q_V} {n : Nat} (h : q_R5 V n) (h0 : ∀ pa, pa < n → q_sg V U (1 + pa)) (h1 : U 76 = V 76) (h2 : U 5 = V 5) (h3 : U 77 = V 77) : q_R5 U n := fun pa hpa => by
  rw [h1, h2, h3]
  obtain ⟨b1, b2, o, b3, b4⟩ := h pa hpa
  exact ⟨b1, b2, o, q_corg_sg (fun q hq => h0 q (by omega)) b3, b4⟩
theorem q_R6_fr {V U : q_V} {ns : Nat} (h : q_R6 V ns) (h0 : ∀ t, t < ns → q_sg V U (13 + t)) (h1 : U 0 13 = V 0 13) (h2 : U 19 20 = V 19 20) (h3 : U 85 = V 85) (h4 : U 86 = V 86) (h5 : U 87 = V 87) (h6 : U 88 = V 88) (h7 : U 11 = V 11) : q_R6 U ns := by
  obtain ⟨a1, a2, a3, a4, a5⟩ := h
  refine ⟨h1.trans a1, h2.trans a2, a3, fun t ht => ?_, fun t ht => ?_⟩
  · rw [q_sg_gw (h0 t ht), q_sg_gh (h0 t ht)]
    exact q_sg_gok (h0 t ht) (a4 t ht)
  · obtain ⟨b1, b2, b3, b4, b5, b6⟩ := a5 t ht
    rw [q_sg_gw (h0 t ht), q_sg_gh (h0 t ht), h3, h4, h6, h7, (h0 t ht).1]
    exact ⟨b1, b2, b3, b4, b5, fun r c hr hc => by rw [h5, (h0 t ht).2]; exact b6 r c hr hc⟩
theorem q_R7_fr {V U : q_V} {n : Nat} (h : q_R7 V n) (h1 : U 78 = V 78) (h2 : U 6 = V 6) (h3 : U 79 = V 79) (h4 : U 7 = V 7) : q_R7 U n := fun b hb => by rw [h1, h2, h3, h4]; exact h b hb
theorem q_R8_fr {V U : q_V} (h : q_R8 V) (h1 : U 80 = V 80) (h2 : U 8 = V 8) : q_R8 U := fun b hb => by rw [h1, h2]; exact h b hb
theorem q_R9_fr {V U : q_V} (h : q_R9 V) (h1 : U 81 = V 81) (h2 : U 13 = V 13) (h3 : U 82 = V 82) (h4 : U 14 = V 14) : q_R9 U := fun b hb => by rw [h1, h2, h3, h4]; exact h b hb
theorem q_R10_fr {G K : q_G} (h : q_R10 G) (h1 : K 89 = G 89) (h2 : K 12 = G 12) : q_R10 K := fun b hb => by rw [h1, h2]; exact h b hb
/-- what no promise reads -/
def q_scr (a j : Nat) : Prop := (a = 19 ∧ j = 0) ∨ (15 ≤ a ∧ a ≤ 18) ∨ (a = 9 ∧ j = 5) ∨ a = 83 ∨ a = 84
def q_sm (V U : q_V) : Prop := ∀ a j, ¬ q_scr a j → U a j = V a j
theorem q_sm_row {V U : q_V} (h : q_sm V U) {a : Nat} (ha : ∀ j, ¬ q_scr a j) : U a = V a := funext fun j => h a j (ha j)
theorem q_sm_sg {V U : q_V} (h : q_sm V U) {i : Nat} (hi : i < 21) : q_sg V U i := ⟨q_sm_row h (fun j => by unfold q_scr; omega), q_sm_row h (fun j => by unfold q_scr; omega)⟩
theorem q_sm_rfl (V : q_V) : q_sm V V := fun _ _ _ => rfl
theorem q_sm_tr {V U W : q_V} (h1 : q_sm V U) (h2 : q_sm U W) : q_sm V W := fun a j h => (h2 a j h).trans (h1 a j h)
theorem q_sm_19 (V : q_V) (x : Int32) : q_sm V (q_up V 19 0 x) := fun a j h => q_up_ne _ _ (fun z => h (Or.inl z))
theorem q_sm_boff {V U : q_V} (h : q_boff V U) : q_sm V U := fun a j hs => h a j (fun z => hs (by unfold q_scr; omega)) (fun z => hs (by unfold q_scr; omega)) (fun z => hs (by unfold q_scr; omega)) (fun z => hs (by unfold q_scr; omega))
theorem q_sm_off {V U : q_V} (h : q_off V U) : q_sm V U := fun a j hs => congrFun (h a (fun z => hs (by unfold q_scr; omega)) (fun z => hs (by unfold q_scr; omega))) j
theorem q_Rel_sm {V U : q_V} {G K : q_G} {n ns : Nat} (h : q_Rel V G n ns) (hs : q_sm V U) (hG : K 89 = G 89) (hG2 : K 12 = G 12) : q_Rel U K n ns := by
  obtain ⟨h1, h2, h3, h4, h5, h6, h7, h8, h9, h10⟩ := h
  have row : ∀ a, (a ≠ 19 ∧ ¬ (15 ≤ a ∧ a ≤ 18) ∧ a ≠ 9 ∧ a ≠ 83 ∧ a ≠ 84) → U a = V a := fun a ha => q_sm_row hs (fun j => by unfold q_scr; omega)
  have at_ : ∀ j, j ≠ 0 → U 19 j = V 19 j := fun j hj => hs 19 j (by unfold q_scr; omega)
  have hn := h4.2.2.1
  have hns := h6.2.2.1
  exact ⟨q_R1_fr h1 (row _ (by omega)) (fun p hp => row _ (by omega)), q_R2_fr h2 (row _ (by omega)) (row _ (by omega)) (row _ (by omega)) (row _ (by omega)),
    q_R3_fr h3 (q_sm_sg hs (by omega)) (at_ _ (by omega)) (at_ _ (by omega)) (row _ (by omega)),
    q_R4_fr h4 (fun pa hpa => q_sm_sg hs (by omega)) (congrFun (row 0 (by omega)) 6) (at_ _ (by omega)) (row _ (by omega)) (row _ (by omega)) (row _ (by omega)),
    q_R5_fr h5 (fun pa hpa => q_sm_sg hs (by omega)) (row _ (by omega)) (row _ (by omega)) (row _ (by omega)),
    q_R6_fr h6 (fun t ht => q_sm_sg hs (by omega)) (congrFun (row 0 (by omega)) 13) (at_ _ (by omega)) (row _ (by omega)) (row _ (by omega)) (row _ (by omega)) (row _ (by omega)) (row _ (by omega)),
    q_R7_fr h7 (row _ (by omega)) (row _ (by omega)) (row _ (by omega)) (row _ (by omega)), q_R8_fr h8 (row _ (by omega)) (row _ (by omega)),
    q_R9_fr h9 (row _ (by omega)) (row _ (by omega)) (row _ (by omega)) (row _ (by omega)), q_R10_fr h10 hG hG2⟩
/-! what follows for the reference's own premises -/
theorem q_Rel_mok {V : q_V} {n pa : Nat} (h : q_R4 V n) (hp : pa < n) : q_n (V 73 pa) = q_gw V (1 + pa) ∧ q_n (V 74 pa) = q_gh V (1 + pa) ∧ q_mok V pa (q_gw V (1 + pa)) (q_gh V (1 + pa)) := by
  obtain ⟨-, -, -, a4, a5⟩ := h
  obtain ⟨b1, b2, b3⟩ := a5 pa hp
  have g := a4 pa hp
  refine ⟨by rw [b1]; rfl, by rw [b2]; rfl, by rw [b1]; exact g.1, by rw [b2]; exact g.2.1, g.2.2⟩
theorem q_Rel_mpats {V : q_V} {n : Nat} (h : q_R4 V n) : q_mpats V n := fun pa hp => by
  obtain ⟨e1, e2, e3⟩ := q_Rel_mok h hp
  rw [e1, e2]
  exact e3
theorem q_Rel_sok {V : q_V} {ns t : Nat} (h : q_R6 V ns) (ht : t < ns) : q_n (V 85 t) = q_gw V (13 + t) ∧ q_n (V 86 t) = q_gh V (13 + t) ∧ q_sok V t (q_gw V (13 + t)) (q_gh V (13 + t)) := by
  obtain ⟨-, -, -, a4, a5⟩ := h
  obtain ⟨b1, b2, b3, b4, b5, b6⟩ := a5 t ht
  have g := a4 t ht
  refine ⟨by rw [b1]; rfl, by rw [b2]; rfl, by rw [b1]; exact g.1, by rw [b2]; exact g.2.1, g.2.2.1, b3, g.2.2.2.2.1, b4⟩
theorem q_Rel_msgs {V : q_V} {ns : Nat} (h : q_R6 V ns) : q_msgs V ns := fun t ht => by
  obtain ⟨e1, e2, e3⟩ := q_Rel_sok h ht
  rw [e1, e2]
  exact e3
theorem q_Rel_need {V : q_V} {n pa : Nat} (h : q_R4 V n) (hp : pa < n) (y : Int32) : q_mneeds V pa y = q_cneeds V pa y := by
  obtain ⟨e1, e2, e3⟩ := q_Rel_mok h hp
  unfold q_mneeds q_cneeds
  rw [e1, e2]
  exact (q_need_eq (h.2.2.2.2 pa hp).2.2 (by have := (h.2.2.2.1 pa hp).2.2.1; omega) y).symm
theorem q_Rel_alk {V : q_V} {n pa o k : Nat} (h : q_R4 V n) (hp : pa < n) (ho : o < n) (hk : k < 8) : q_malk V pa o k ↔ q_calk V pa o k := by
  obtain ⟨e1, e2, e3⟩ := q_Rel_mok h hp
  obtain ⟨f1, f2, f3⟩ := q_Rel_mok h ho
  unfold q_malk q_calk
  rw [e1, e2, f1, f2]
  exact (q_alike_eq (h.2.2.2.2 pa hp).2.2 (h.2.2.2.2 o ho).2.2 (by have := (h.2.2.2.1 o ho).2.2.1; omega) hk).symm
theorem q_Rel_places {V : q_V} {n ns pa t : Nat} (h : q_R4 V n) (h6 : q_R6 V ns) (hp : pa < n) (ht : t < ns) : q_mplaces V t pa (q_n (V 73 pa)) (q_n (V 74 pa)) (q_n (V 85 t)) (q_n (V 86 t)) = q_places V (1 + pa) (q_gw V (1 + pa)) (q_gh V (1 + pa)) (13 + t) (q_gw V (13 + t)) (q_gh V (13 + t)) := by
  obtain ⟨e1, e2, e3⟩ := q_Rel_mok h hp
  obtain ⟨f1, f2, f3⟩ := q_Rel_sok h6 ht
  rw [e1, e2, f1, f2]
  have g := h.2.2.2.1 pa hp
  have g6 := h6.2.2.2.1 t ht
  exact (q_places_eq (h.2.2.2.2 pa hp).2.2 (h6.2.2.2.2 t ht).2.2.2.2.2 (by have := g6.2.2.1; omega) (by have := g6.2.2.2.2.1; omega) g.2.2.2.1 g.2.2.2.2.2).symm
theorem q_Rel_story {V : q_V} {n ns pa : Nat} (h : q_R4 V n) (h6 : q_R6 V ns) (hp : pa < n) : ∀ k, k ≤ ns → q_mstory V pa k = q_cstory V pa k
  | 0, _ => rfl
  | k + 1, hk => by
    show q_mstory V pa k + V 88 k * nI (q_mplaces _ _ _ _ _ _ _) = q_cstory V pa k + V 11 k * nI (q_places _ _ _ _ _ _ _)
    rw [q_Rel_story h h6 hp k (by omega), q_Rel_places h h6 hp (by omega), (h6.2.2.2.2 k (by omega)).2.2.2.2.1]
theorem q_Rel_hs {V : q_V} (h1 : q_R1 V) (h2 : q_R2 V) {c : Nat} (hc : c < 8) : ∀ k, k ≤ 7 → q_mhs V c k = q_chs2 V c k
  | 0, _ => (h2 c hc).1
  | k + 1, hk => by
    show q_mhs V c k + V 69 (8 * k + c) = q_chs2 V c k + V (20 + k) c
    rw [q_Rel_hs h1 h2 hc k (by omega), h1 k c (by omega) hc]
theorem q_Rel_belt {V : q_V} {n b : Nat} (h4 : q_R4 V n) (h7 : q_R7 V n) (hb : b < 20) (y : Int32) : q_mbelt V b y = q_cbelt V b y := by
  obtain ⟨e1, -, e3, -⟩ := h7 b hb
  unfold q_mbelt q_cbelt
  rw [e1]
  rcases e3 with e | ⟨pa, hp, e⟩
  · rw [if_pos e, if_pos e]
  · have hn := h4.2.2.1
    rw [e, if_neg (q_nI_ne1 (by omega)), if_neg (q_nI_ne1 (by omega)), q_n_nI (by omega), q_Rel_need h4 hp]
theorem q_Rel_bs {V : q_V} {n : Nat} (h1 : q_R1 V) (h2 : q_R2 V) (h4 : q_R4 V n) (h7 : q_R7 V n) {c : Nat} (hc : c < 8) : ∀ k, k ≤ 20 → q_mbs V c k = q_cbs V c k
  | 0, _ => q_Rel_hs h1 h2 hc 7 (Nat.le_refl 7)
  | k + 1, hk => by
    show q_mbs V c k + q_mbelt V k (nI c) = q_cbs V c k + q_cbelt V k (nI c)
    rw [q_Rel_bs h1 h2 h4 h7 hc k (by omega), q_Rel_belt h4 h7 (by omega)]
theorem q_Rel_mbelts {V : q_V} {n : Nat} (h7 : q_R7 V n) : q_mbelts V n ∧ q_cbelts V n ∧ (∀ b, b < 20 → ∃ a, a < 7 ∧ V 79 b = nI a) ∧ (∀ b, b < 20 → ∃ a, a < 7 ∧ V 7 b = nI a) := by
  refine ⟨fun b hb => ?_, fun b hb => (h7 b hb).2.2.1, fun b hb => ?_, fun b hb => (h7 b hb).2.2.2⟩
  · rw [(h7 b hb).1]; exact (h7 b hb).2.2.1
  · rw [(h7 b hb).2.1]; exact (h7 b hb).2.2.2
theorem q_Rel_isb {V : q_V} {n : Nat} (h7 : q_R7 V n) (x : Int32) : q_isb V x ↔ q_cisb V x :=
  ⟨fun ⟨b, hb, e, h⟩ => ⟨b, hb, e, by rw [← (h7 b hb).1]; exact h⟩, fun ⟨b, hb, e, h⟩ => ⟨b, hb, e, by rw [(h7 b hb).1]; exact h⟩⟩
theorem q_Rel_wish {V : q_V} (h9 : q_R9 V) : (∀ a, a < 7 → V 81 a = -1 ∨ ((∃ c, c < 8 ∧ V 81 a = nI c) ∧ ∃ d, d < 8 ∧ V 82 a = nI d)) ∧ (∀ a, a < 7 → V 13 a = -1 ∨ ((∃ c, c < 8 ∧ V 13 a = nI c) ∧ ∃ d, d < 8 ∧ V 14 a = nI d)) := by
  refine ⟨fun a ha => ?_, fun a ha => ?_⟩
  · obtain ⟨e, h⟩ := h9 a ha
    rw [e]
    rcases h with h | ⟨e2, h3, h4⟩
    · exact Or.inl h
    · rw [e2]; exact Or.inr ⟨h3, h4⟩
  · exact (h9 a ha).2.imp id (fun z => z.2)
