/-! rows of people in the order of the alphabet -/
def q_rise (l : List Nat) : Nat → Option Nat
  | 0 => none
  | k + 1 => if l.getD (k + 1) 0 < l.getD k 0 then q_rise l k else some k
def q_high (l : List Nat) (r : Nat) : Nat → Nat
  | 0 => 0
  | h + 1 => if r < h ∧ l.getD (h + 1) 0 < l.getD r 0 then q_high l r h else h + 1
def q_swp (l : List Nat) (i j : Nat) : List Nat := (l.set i (l.getD j 0)).set j (l.getD i 0)
def q_rv : Nat → List Nat → Nat → Nat → List Nat
  | 0, l, _, _ => l
  | n + 1, l, a, b => if a < b then q_rv n (q_swp l a b) (a + 1) (b - 1) else l
def q_nxt (l : List Nat) : Option (List Nat) :=
  match q_rise l (l.length - 1) with
  | none => none
  | some r => some (q_rv 7 (q_swp l r (q_high l r (l.length - 1))) (r + 1) (l.length - 1))
def q_no (R : List Nat) (x : Nat) : List Nat := R.filter (fun y => decide (y ≠ x))
def q_perms : Nat → List Nat → List (List Nat)
  | 0, _ => [[]]
  | n + 1, R => R.flatMap (fun x => (q_perms n (q_no R x)).map (fun t => x :: t))
def q_subs : List Nat → List (List Nat)
  | [] => [[]]
  | x :: t => q_subs t ++ (q_subs t).map (fun s => x :: s)
def q_trs (R : List Nat) : List Nat → Bool
  | x :: y :: t => decide (q_nxt (x :: (q_no R x).reverse) = some (y :: q_no R y)) && q_trs R (y :: t)
  | _ => true
def q_allok (R : List Nat) : Bool := q_trs R R && decide ((q_nxt R.reverse) = none) && R.all (fun x => decide ((q_no R x).length + 1 = R.length)) && decide (R = [] ∨ (R = R.getD 0 0 :: q_no R (R.getD 0 0) ∧ R.reverse = R.getD (R.length - 1) 0 :: (q_no R (R.getD (R.length - 1) 0)).reverse))
theorem q_allok_7 : (q_subs (List.range 7)).all q_allok = true := by decide +kernel
theorem q_subs_filter (p : Nat → Bool) : ∀ l : List Nat, l.filter p ∈ q_subs l
  | [] => List.mem_singleton.mpr rfl
  | x :: t => by
    have h := q_subs_filter p t
    cases hp : p x
    · rw [List.filter_cons_of_neg (by simp [hp])]
      exact List.mem_append_left _ h
    · rw [List.filter_cons_of_pos hp]
      exact List.mem_append_right _ (List.mem_map.mpr ⟨_, h, rfl⟩)
theorem q_rise_cons (x : Nat) (t : List Nat) : ∀ (k r : Nat), q_rise t k = some r → q_rise (x :: t) (k + 1) = some (r + 1)
  | 0, _, h => by cases h
  | k + 1, r, h => by
    show (if t.getD (k + 1) 0 < t.getD k 0 then q_rise (x :: t) (k + 1) else some (k + 1)) = some (r + 1)
    unfold q_rise at h
    by_cases hc : t.getD (k + 1) 0 < t.getD k 0
    · rw [if_pos hc] at h ⊢
      exact q_rise_cons x t k r h
    · rw [if_neg hc] at h ⊢
      rw [Option.some.inj h]
theorem q_high_cons (x : Nat) (t : List Nat) (r : Nat) : ∀ h : Nat, q_high (x :: t) (r + 1) (h + 1) = q_high t r h + 1
  | 0 => if_neg (fun z => absurd z.1 (Nat.not_lt_zero _))
  | h + 1 => by
    show (if r + 1 < h + 1 ∧ t.getD (h + 1) 0 < t.getD r 0 then q_high (x :: t) (r + 1) (h + 1) else h + 2) = (if r < h ∧ t.getD (h + 1) 0 < t.getD r 0 then q_high t r h else h + 1) + 1
    by_cases hc : r < h ∧ t.getD (h + 1) 0 < t.getD r 0
    · rw [if_pos hc, if_pos ⟨Nat.succ_lt_succ hc.1, hc.2⟩, q_high_cons x t r h]
    · rw [if_neg hc, if_neg (fun z => hc ⟨Nat.lt_of_succ_lt_succ z.1, z.2⟩)]
theorem q_swp_cons (x : Nat) (t : List Nat) (i j : Nat) : q_swp (x :: t) (i + 1) (j + 1) = x :: q_swp t i j := rfl
theorem q_rv_cons (x : Nat) : ∀ (n : Nat) (t : List Nat) (a b : Nat), q_rv n (x :: t) (a + 1) (b + 1) = x :: q_rv n t a b
  | 0, _, _, _ => rfl
  | n + 1, t, a, b => by
    show (if a + 1 < b + 1 then q_rv n (q_swp (x :: t) (a + 1) (b + 1)) (a + 2) b else x :: t) = x :: (if a < b then q_rv n (q_swp t a b) (a + 1) (b - 1) else t)
    by_cases hc : a < b
    · obtain ⟨b', rfl⟩ : ∃ b', b = b' + 1 := ⟨b - 1, by omega⟩
      rw [if_pos hc, if_pos (by omega), q_swp_cons, q_rv_cons x n]
      rfl
    · rw [if_neg hc, if_neg (by omega)]
theorem q_nxt_cons {t t' : List Nat} (x : Nat) (h : q_nxt t = some t') : q_nxt (x :: t) = some (x :: t') := by
  unfold q_nxt at h ⊢
  cases hr : q_rise t (t.length - 1) with
  | none => rw [hr] at h; cases h
  | some r =>
    rw [hr] at h
    have hl : 0 < t.length - 1 := by
      cases e : t.length - 1 with
      | zero => rw [e] at hr; cases hr
      | succ k => omega
    have e1 : (x :: t).length - 1 = (t.length - 1) + 1 := by rw [List.length_cons]; omega
    rw [e1, q_rise_cons x t _ r hr]
    have h' := Option.some.inj h
    show some (q_rv 7 (q_swp (x :: t) (r + 1) (q_high (x :: t) (r + 1) (t.length - 1 + 1))) (r + 1 + 1) (t.length - 1 + 1)) = some (x :: t')
    rw [q_high_cons, q_swp_cons, q_rv_cons, h']
/-- a list of rows, each the next one's forerunner, from s to z -/
def q_path : List (List Nat) → List Nat → List Nat → Prop
  | [], _, _ => False
  | a :: t, s, z => a = s ∧ ((t = [] ∧ a = z) ∨ ∃ b, q_nxt a = some b ∧ q_path t b z)
theorem q_path_app : ∀ {L M : List (List Nat)} {s z s' z' : List Nat}, q_path L s z → q_path M s' z' → q_nxt z = some s' → q_path (L ++ M) s z'
  | [], _, _, _, _, _, h, _, _ => h.elim
  | a :: t, M, s, z, s', z', h, hM, hn => by
    refine ⟨h.1, Or.inr ?_⟩
    rcases h.2 with ⟨h1, h2⟩ | ⟨b, hb, hp⟩
    · subst h1 h2
      exact ⟨s', hn, hM⟩
    · exact ⟨b, hb, q_path_app hp hM hn⟩
theorem q_path_map (x : Nat) : ∀ {L : List (List Nat)} {s z : List Nat}, q_path L s z → q_path (L.map (fun t => x :: t)) (x :: s) (x :: z)
  | [], _, _, h => h.elim
  | a :: t, s, z, h => by
    refine ⟨by rw [h.1], ?_⟩
    rcases h.2 with ⟨h1, h2⟩ | ⟨b, hb, hp⟩
    · subst h1 h2
      exact Or.inl ⟨rfl, rfl⟩
    · exact Or.inr ⟨x :: b, q_nxt_cons x hb, q_path_map x hp⟩
def q_sel (R : List Nat) : Prop := ∃ p : Nat → Bool, R = (List.range 7).filter p
theorem q_sel_ok {R : List Nat} (h : q_sel R) : q_allok R = true := by
  obtain ⟨p, rfl⟩ := h
  exact List.all_eq_true.mp q_allok_7 _ (q_subs_filter p _)
theorem q_sel_no {R : List Nat} (h : q_sel R) (x : Nat) : q_sel (q_no R x) := by
  obtain ⟨p, rfl⟩ := h
  exact ⟨fun y => decide (y ≠ x) && p y, by unfold q_no; rw [List.filter_filter]⟩
theorem q_sel_un {R : List Nat} (h : q_sel R) : q_trs R R = true ∧ q_nxt R.reverse = none ∧ (∀ x ∈ R, (q_no R x).length + 1 = R.length) ∧ (R = [] ∨ (R = R.getD 0 0 :: q_no R (R.getD 0 0) ∧ R.reverse = R.getD (R.length - 1) 0 :: (q_no R (R.getD (R.length - 1) 0)).reverse)) := by
  have h9 := q_sel_ok h
  simp only [q_allok, Bool.and_eq_true, decide_eq_true_eq, List.all_eq_true] at h9
  exact ⟨h9.1.1.1, h9.1.1.2, h9.1.2, h9.2⟩
theorem q_perms_path : ∀ (n : Nat) (R : List Nat), R.length = n → q_sel R → q_path (q_perms n R) R R.reverse
  | 0, R, hn, _ => by
    obtain rfl := List.length_eq_zero_iff.mp hn
    exact ⟨rfl, Or.inl ⟨rfl, rfl⟩⟩
  | n + 1, R, hn, hR => by
    obtain ⟨h1, -, h3, h4⟩ := q_sel_un hR
    have h5 := h4.resolve_left (fun z => by subst z; cases hn)
    have hb : ∀ x ∈ R, q_path ((q_perms n (q_no R x)).map (fun t => x :: t)) (x :: q_no R x) (x :: (q_no R x).reverse) := fun x hx => q_path_map x (q_perms_path n _ (by have := h3 x hx; omega) (q_sel_no hR x))
    have hs : ∀ (S : List Nat) (x : Nat), (∀ y ∈ x :: S, y ∈ R) → q_trs R (x :: S) = true → (x :: S).getD S.length 0 = R.getD (R.length - 1) 0 → q_path ((x :: S).flatMap (fun x => (q_perms n (q_no R x)).map (fun t => x :: t))) (x :: q_no R x) R.reverse := by
      intro S
      induction S with
      | nil =>
        intro x hx _ hl
        rw [h5.2]
        have e : x = R.getD (R.length - 1) 0 := hl
        rw [← e]
        show q_path (_ ++ []) _ _
        rw [List.append_nil]
        exact hb x (hx x List.mem_cons_self)
      | cons y S ih =>
        intro x hx ht hl
        have ht2 : q_nxt (x :: (q_no R x).reverse) = some (y :: q_no R y) ∧ q_trs R (y :: S) = true := by
          have h9 : (decide (q_nxt (x :: (q_no R x).reverse) = some (y :: q_no R y)) && q_trs R (y :: S)) = true := ht
          simpa using h9
        exact q_path_app (hb x (hx x List.mem_cons_self)) (ih y (fun z hz => hx z (List.mem_cons_of_mem _ hz)) ht2.2 hl) ht2.1
    cases R with
    | nil => cases hn
    | cons x S =>
      have h6 := hs S x (fun y hy => hy) h1 rfl
      have e : x :: q_no (x :: S) x = x :: S := h5.1.symm
      rw [e] at h6
      exact h6
def q_fa : Nat → Nat
  | 0 => 1
  | n + 1 => (n + 1) * q_fa n
theorem q_perms_len : ∀ (n : Nat) (R : List Nat), R.length = n → q_sel R → (q_perms n R).length = q_fa n
  | 0, _, _, _ => rfl
  | n + 1, R, hn, hR => by
    have h3 := (q_sel_un hR).2.2.1
    have hs : ∀ S : List Nat, (∀ y ∈ S, y ∈ R) → (S.flatMap (fun x => (q_perms n (q_no R x)).map (fun t => x :: t))).length = S.length * q_fa n := by
      intro S
      induction S with
      | nil => intro _; exact (Nat.zero_mul _).symm
      | cons y S ih =>
        intro hS
        rw [List.flatMap_cons, List.length_append, List.length_map, ih (fun z hz => hS z (List.mem_cons_of_mem _ hz)), q_perms_len n _ (by have := h3 y (hS y List.mem_cons_self); omega) (q_sel_no hR y), List.length_cons, Nat.succ_mul, Nat.add_comm]
    have h9 := hs R (fun y hy => hy)
    rw [hn] at h9
    exact h9
theorem q_no_mem {R : List Nat} {x y : Nat} : y ∈ q_no R x ↔ y ∈ R ∧ y ≠ x := by
  unfold q_no
  rw [List.mem_filter]
  simp
/-- what the rows are -/
theorem q_perms_is : ∀ (n : Nat) (R l : List Nat), l ∈ q_perms n R → l.length = n ∧ (∀ y ∈ l, y ∈ R) ∧ l.Nodup
  | 0, _, l, h => by
    have e : l = [] := List.mem_singleton.mp h
    subst e
    exact ⟨rfl, fun y hy => absurd hy (List.not_mem_nil), List.nodup_nil⟩
  | n + 1, R, l, h => by
    obtain ⟨x, hx, h2⟩ := List.mem_flatMap.mp h
    obtain ⟨t, ht, rfl⟩ := List.mem_map.mp h2
    obtain ⟨h3, h4, h5⟩ := q_perms_is n _ t ht
    refine ⟨by rw [List.length_cons, h3], fun y hy => ?_, List.nodup_cons.mpr ⟨fun hm => (q_no_mem.mp (h4 x hm)).2 rfl, h5⟩⟩
    rcases List.mem_cons.mp hy with rfl | hy
    · exact hx
    · exact (q_no_mem.mp (h4 y hy)).1
/-- every row of some of them begins one -/
theorem q_perms_pre : ∀ (n : Nat) (R b : List Nat), R.length = n → q_sel R → (∀ y ∈ b, y ∈ R) → b.Nodup → ∃ t, b ++ t ∈ q_perms n R
  | 0, R, b, hn, _, hb, _ => by
    obtain rfl := List.length_eq_zero_iff.mp hn
    cases b with
    | nil => exact ⟨[], List.mem_singleton.mpr rfl⟩
    | cons x b => exact absurd (hb x List.mem_cons_self) List.not_mem_nil
  | n + 1, R, b, hn, hR, hb, hd => by
    have h3 := (q_sel_un hR).2.2.1
    cases b with
    | nil =>
      cases R with
      | nil => cases hn
      | cons x S =>
        obtain ⟨t, ht⟩ := q_perms_pre n (q_no (x :: S) x) [] (by have := h3 x List.mem_cons_self; omega) (q_sel_no hR x) (fun y hy => absurd hy List.not_mem_nil) List.nodup_nil
        exact ⟨x :: t, List.mem_flatMap.mpr ⟨x, List.mem_cons_self, List.mem_map.mpr ⟨_, ht, rfl⟩⟩⟩
    | cons x b =>
      have hx := hb x List.mem_cons_self
      obtain ⟨hx2, hd2⟩ := List.nodup_cons.mp hd
      obtain ⟨t, ht⟩ := q_perms_pre n (q_no R x) b (by have := h3 x hx; omega) (q_sel_no hR x) (fun y hy => q_no_mem.mpr ⟨hb y (List.mem_cons_of_mem _ hy), fun e => hx2 (e ▸ hy)⟩) hd2
      exact ⟨t, List.mem_flatMap.mpr ⟨x, hx, List.mem_map.mpr ⟨_, ht, rfl⟩⟩⟩
/-! the best chain is the longest -/
theorem q_upb_ge {gt : Nat → Nat → Prop} (b r : List Nat) : b.length ≤ (q_upb gt b r).length := by
  by_cases h : q_cl gt r ∧ b.length < r.length
  · rw [q_upb, q_ite_y h]; exact Nat.le_of_lt h.2
  · rw [q_upb, q_ite_n h]; exact Nat.le_refl _
theorem q_upb_ge2 {gt : Nat → Nat → Prop} (b r : List Nat) (h : q_cl gt r) : r.length ≤ (q_upb gt b r).length := by
  by_cases h2 : q_cl gt r ∧ b.length < r.length
  · rw [q_upb, q_ite_y h2]; exact Nat.le_refl _
  · rw [q_upb, q_ite_n h2]; exact Nat.le_of_not_lt fun z => h2 ⟨h, z⟩
theorem q_chs_ge {f : List Nat → Nat → List Nat} (hf : ∀ b k, b.length ≤ (f b k).length) : ∀ (m k : Nat) (b : List Nat), b.length ≤ (q_chs f m k b).length
  | 0, _, _ => Nat.le_refl _
  | m + 1, k, b => Nat.le_trans (hf b k) (q_chs_ge hf m (k + 1) (f b k))
theorem q_ch_ge (rd : Nat → Prop) (gt : Nat → Nat → Prop) : ∀ (d : Nat) (r b : List Nat), b.length ≤ (q_ch rd gt d r b).length
  | 0, _, _ => Nat.le_refl _
  | d + 1, r, b => by
    rw [q_ch_succ]
    refine q_chs_ge (fun b k => ?_) 7 0 b
    by_cases h : q_row rd gt r k
    · rw [q_stp_y h]; exact Nat.le_trans (q_upb_ge _ _) (q_ch_ge rd gt d _ _)
    · rw [q_stp_n h]; exact Nat.le_refl _
theorem q_chs_at {f : List Nat → Nat → List Nat} {N : Nat} (hf : ∀ b k, b.length ≤ (f b k).length) {k0 : Nat} (hk : ∀ b, N ≤ (f b k0).length) : ∀ (m k : Nat) (b : List Nat), k ≤ k0 → k0 < k + m → N ≤ (q_chs f m k b).length
  | 0, k, b, h1, h2 => by omega
  | m + 1, k, b, h1, h2 => by
    by_cases e : k = k0
    · subst e
      exact Nat.le_trans (hk b) (q_chs_ge hf m (k + 1) _)
    · exact q_chs_at hf hk m (k + 1) _ (by omega) (by omega)
theorem q_vr_row {rd : Nat → Prop} {gt : Nat → Nat → Prop} {r s : List Nat} {k : Nat} (h : q_vr rd gt (r ++ k :: s)) : q_row rd gt r k ∧ k < 7 := by
  have hl : r.length < (r ++ k :: s).length := by rw [List.length_append, List.length_cons]; omega
  have e : (r ++ k :: s).getD r.length 0 = k := by simp [List.getD]
  have eg : ∀ i, i < r.length → (r ++ k :: s).getD i 0 = r.getD i 0 := fun i hi => by simp [List.getD, List.getElem?_append_left hi]
  obtain ⟨h1, h2, h3, h4, -⟩ := h r.length hl
  rw [e] at h1 h2 h3 h4
  refine ⟨⟨h2, ?_⟩, h1⟩
  by_cases hr : r = []
  · exact Or.inl hr
  · have h0 : 0 < r.length := List.length_pos_iff.mpr hr
    refine Or.inr ⟨by rw [← eg 0 h0]; exact h3 h0, fun i hi => by rw [← eg i hi]; exact h4 i hi, ?_⟩
    have h9 := (h (r.length - 1) (by omega)).2.2.2.2 (by omega)
    rw [show r.length - 1 + 1 = r.length by omega, e, eg _ (by omega)] at h9
    exact h9
theorem q_ch_max (rd : Nat → Prop) (gt : Nat → Nat → Prop) : ∀ (s r b : List Nat) (d : Nat), s ≠ [] → s.length ≤ d → q_vr rd gt (r ++ s) → q_cl gt (r ++ s) → (r ++ s).length ≤ (q_ch rd gt d r b).length
  | [], _, _, _, h, _, _, _ => absurd rfl h
  | k :: s, r, b, d, _, hd, hv, hc => by
    obtain ⟨d, rfl⟩ : ∃ d', d = d' + 1 := ⟨d - 1, by rw [List.length_cons] at hd; omega⟩
    obtain ⟨hrow, hk⟩ := q_vr_row hv
    rw [q_ch_succ]
    refine q_chs_at (k0 := k) (fun b j => ?_) (fun b => ?_) 7 0 b (Nat.zero_le _) (by omega)
    · by_cases h : q_row rd gt r j
      · rw [q_stp_y h]; exact Nat.le_trans (q_upb_ge _ _) (q_ch_ge rd gt d _ _)
      · rw [q_stp_n h]; exact Nat.le_refl _
    · rw [q_stp_y hrow]
      have ea : r ++ k :: s = (r ++ [k]) ++ s := by simp
      rw [ea] at hv hc ⊢
      by_cases hs : s = []
      · subst hs
        rw [List.append_nil] at hc ⊢
        exact Nat.le_trans (q_upb_ge2 b _ hc) (q_ch_ge rd gt d _ _)
      · exact q_ch_max rd gt s (r ++ [k]) _ d hs (by rw [List.length_cons] at hd; omega) hv hc
theorem q_best_max {rd : Nat → Prop} {gt : Nat → Nat → Prop} {c : List Nat} (hv : q_vr rd gt c) (hc : q_cl gt c) (h7 : c.length ≤ 7) : c.length ≤ (q_best rd gt).length :=
  q_ch_max rd gt c [] [] 7 (fun z => by rw [z] at hc; exact absurd hc.1 (by decide)) h7 hv hc
