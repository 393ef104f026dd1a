/-! the program's grids and the reference's cells -/
def q_gs (V : q_V) (i pa w h : Nat) : Prop := ∀ r c, r < h → c < w → V 75 (48 * pa + 8 * r + c) = V (48 + i) (r * w + c)
def q_ss (V : q_V) (j t w h : Nat) : Prop := ∀ r c, r < h → c < w → V 87 (9 * t + (r * w + c)) = V (48 + j) (r * w + c)
theorem q_gs_k {V : q_V} {i pa w h k : Nat} (hg : q_gs V i pa w h) (hk : k < w * h) (hw : 0 < w) : V 75 (48 * pa + 8 * (k / w) + k % w) = V (48 + i) k := by
  rw [hg _ _ (q_div_lt hk hw) (q_mod_lt hw), Nat.div_add_mod']
theorem q_ss_k {V : q_V} {j t w h k : Nat} (hg : q_ss V j t w h) (hk : k < w * h) (hw : 0 < w) : V 87 (9 * t + k) = V (48 + j) k := by
  have h9 := hg _ _ (q_div_lt hk hw) (q_mod_lt (k := k) hw)
  rw [Nat.div_add_mod'] at h9
  exact h9
theorem q_need_eq {V : q_V} {i pa w h : Nat} (hg : q_gs V i pa w h) (hw : 0 < w) (y : Int32) : q_ct (fun k => V (48 + i) k = y) (w * h) = q_ct (q_mneed V pa w y) (w * h) :=
  q_ct_congr fun k hk => by
    unfold q_mneed
    rw [q_gs_k hg hk hw]
theorem q_alike_eq {V : q_V} {i n w h j o w2 h2 k : Nat} (hg : q_gs V i n w h) (hg2 : q_gs V j o w2 h2) (hw2 : 0 < w2) (hk : k < 8) : q_alike V i w h k j w2 h2 ↔ q_malike V n w h k o w2 h2 := by
  unfold q_alike q_malike
  refine and_congr_right (fun e1 => and_congr_right (fun e2 => ?_))
  rw [← e1, ← e2]
  constructor
  · intro H t ht
    unfold q_meq
    rw [← e1, q_gs_k hg2 ht hw2]
    have hr := q_div_lt ht hw2
    have hc := q_mod_lt (k := t) hw2
    obtain ⟨s1, s2⟩ := q_src_in (k := k) (w := w) (h := h) (c := t % w2) (r := t / w2) (by rw [← e1]; exact hc) (by rw [← e2]; exact hr)
    have h9 := H _ _ hr hc
    rw [Nat.div_add_mod'] at h9
    rw [hg _ _ s2 s1, h9]
  · intro H r c hr hc
    have ht : r * w2 + c < w2 * h2 := by
      have h8 : (r + 1) * w2 ≤ h2 * w2 := Nat.mul_le_mul_right w2 hr
      rw [Nat.succ_mul] at h8
      rw [Nat.mul_comm w2 h2]
      omega
    have h9 := H _ ht
    unfold q_meq at h9
    obtain ⟨s1, s2⟩ := q_src_in (k := k) (w := w) (h := h) (c := c) (r := r) (by rw [← e1]; exact hc) (by rw [← e2]; exact hr)
    have d1 : (r * w2 + c) / w2 = r := by rw [Nat.add_comm, Nat.add_mul_div_right _ _ hw2, Nat.div_eq_of_lt hc, Nat.zero_add]
    have d2 : (r * w2 + c) % w2 = c := by rw [Nat.add_comm, Nat.add_mul_mod_self_right, Nat.mod_eq_of_lt hc]
    rw [← e1, q_gs_k hg2 ht hw2, d1, d2, hg _ _ s2 s1] at h9
    exact h9.symm
theorem q_ct_add (p : Nat → Prop) (a : Nat) : ∀ b, q_ct p (a + b) = q_ct p a + q_ct (fun i => p (a + i)) b
  | 0 => rfl
  | b + 1 => by
    show q_ct p (a + b) + _ = q_ct p a + (q_ct (fun i => p (a + i)) b + _)
    rw [q_ct_add p a b, Nat.add_assoc]
    rfl
theorem q_ct_none {p : Nat → Prop} : ∀ {n : Nat}, (∀ k, k < n → ¬ p k) → q_ct p n = 0
  | 0, _ => rfl
  | n + 1, h => by rw [q_ct_n (h n (Nat.lt_succ_self n)), q_ct_none (fun k hk => h k (Nat.lt_succ_of_lt hk))]
theorem q_sm_cong {f g : Nat → Nat} : ∀ {n : Nat}, (∀ k, k < n → f k = g k) → fb_sm f n = fb_sm g n
  | 0, _ => rfl
  | n + 1, h => by
    show fb_sm f n + f n = fb_sm g n + g n
    rw [q_sm_cong (fun k hk => h k (Nat.lt_succ_of_lt hk)), h n (Nat.lt_succ_self n)]
theorem q_sm_tail {f : Nat → Nat} (a : Nat) : ∀ b, (∀ k, a ≤ k → k < a + b → f k = 0) → fb_sm f (a + b) = fb_sm f a
  | 0, _ => rfl
  | b + 1, h => by
    show fb_sm f (a + b) + f (a + b) = fb_sm f a
    rw [q_sm_tail a b (fun k h1 h2 => h k h1 (by omega)), h (a + b) (by omega) (by omega), Nat.add_zero]
theorem q_ct_grid (p : Nat → Prop) : ∀ n, q_ct p (8 * n) = fb_sm (fun r => q_ct (fun c => p (8 * r + c)) 8) n
  | 0 => rfl
  | n + 1 => by
    show q_ct p (8 * n + 8) = fb_sm _ n + q_ct (fun c => p (8 * n + c)) 8
    rw [q_ct_add, q_ct_grid p n]
theorem q_places_eq {V : q_V} {i pa w h j t sw sh : Nat} (hg : q_gs V i pa w h) (hs : q_ss V j t sw sh) (hsw : 0 < sw) (hsh : 0 < sh) (hw : w ≤ 8) (hh : h ≤ 6) : q_places V i w h j sw sh = q_mplaces V t pa w h sw sh := by
  unfold q_places q_mplaces
  rw [show (48 : Nat) = 8 * 6 from rfl, q_ct_grid]
  have hin : ∀ r c, c + sw ≤ w → r + sh ≤ h → (q_shows V i w j sw sh c r ↔ ∀ k, k < sw * sh → q_mseq V t pa sw c r k) := by
    intro r c hc hr
    constructor
    · intro H k hk
      have h1 := q_div_lt hk hsw
      have h2 := q_mod_lt (k := k) hsw
      unfold q_mseq
      have h9 := H _ _ h1 h2
      rw [Nat.div_add_mod'] at h9
      rw [q_ss_k hs hk hsw, hg _ _ (by omega) (by omega), h9]
    · intro H d e hd he
      have hk : d * sw + e < sw * sh := by
        have h8 : (d + 1) * sw ≤ sh * sw := Nat.mul_le_mul_right sw hd
        rw [Nat.succ_mul] at h8
        rw [Nat.mul_comm sw sh]
        omega
      have h9 := H _ hk
      unfold q_mseq at h9
      have d1 : (d * sw + e) / sw = d := by rw [Nat.add_comm, Nat.add_mul_div_right _ _ hsw, Nat.div_eq_of_lt he, Nat.zero_add]
      have d2 : (d * sw + e) % sw = e := by rw [Nat.add_comm, Nat.add_mul_mod_self_right, Nat.mod_eq_of_lt he]
      rw [q_ss_k hs hk hsw, d1, d2, hg _ _ (by omega) (by omega)] at h9
      exact h9.symm
  have hd8 : ∀ r c, c < 8 → (8 * r + c) / 8 = r ∧ (8 * r + c) % 8 = c := fun r c hc => by omega
  have hrow : ∀ r, r < 6 → q_ct (fun c => q_mstands V t pa w h sw sh ((8 * r + c) % 8) ((8 * r + c) / 8)) 8 = if r < h + 1 - sh then q_ct (fun c => q_shows V i w j sw sh c r) (w + 1 - sw) else 0 := by
    intro r hr
    have e1 : q_ct (fun c => q_mstands V t pa w h sw sh ((8 * r + c) % 8) ((8 * r + c) / 8)) 8 = q_ct (fun c => q_mstands V t pa w h sw sh c r) 8 := q_ct_congr fun c hc => by
      obtain ⟨d1, d2⟩ := hd8 r c hc
      rw [d1, d2]
    rw [e1]
    by_cases h1 : r < h + 1 - sh
    · rw [if_pos h1, show (8 : Nat) = (w + 1 - sw) + (8 - (w + 1 - sw)) by omega, q_ct_add]
      rw [q_ct_none (n := 8 - (w + 1 - sw)) (fun k hk z => by have := z.1; omega), Nat.add_zero]
      exact q_ct_congr fun c hc => by
        unfold q_mstands
        rw [hin r c (by omega) (by omega)]
        exact ⟨fun z => z.2.2, fun z => ⟨by omega, by omega, z⟩⟩
    · rw [if_neg h1]
      exact q_ct_none (fun k hk z => by have := z.2.1; omega)
  rw [q_sm_cong hrow, show (6 : Nat) = (h + 1 - sh) + (6 - (h + 1 - sh)) by omega, q_sm_tail _ _ (fun k h1 h2 => if_neg (by omega))]
  exact q_sm_cong fun r hr => (if_pos hr).symm
