/-- who can give, who gets from whom, in the law's rows -/
def z_rd (V : q_V) (a : Nat) : Prop := ¬ V 73 (2 * a) < 0 ∧ 0 < V 72 (8 * a + q_n (V 73 (2 * a)))
def z_gt (V : q_V) (a b : Nat) : Prop := V 73 (2 * a + 1) = V 73 (2 * b)
theorem z_w0 {x : Int32} (h : x = -1 ∨ ∃ j, j < 8 ∧ x = nI j) (h0 : ¬ x < 0) : ∃ j, j < 8 ∧ x = nI j := h.resolve_left fun e => h0 (by rw [e]; decide)
def zus (d : Nat → Nat) (n j us : Nat) : Prop := us < 32 ∧ ∀ x, x < 5 → (us / 2 ^ x % 2 = 0 ↔ ∀ i, j ≤ i → i < n → d i ≠ x)
theorem zus_0 (d : Nat → Nat) (n : Nat) : zus d n n 0 := ⟨by decide, fun x _ => ⟨fun _ i h1 h2 => absurd h1 (by omega), fun _ => by rw [Nat.zero_div]⟩⟩
theorem z_bit : ∀ us, us < 32 → ∀ x, x < 5 → (us ||| 1 * 2 ^ x) < 32 ∧ ∀ y, y < 5 → ((us ||| 1 * 2 ^ x) / 2 ^ y % 2 = 0 ↔ (us / 2 ^ y % 2 = 0 ∧ y ≠ x)) := by decide +kernel
theorem zus_s {d : Nat → Nat} {n j us : Nat} (hj : 1 ≤ j) (hn : j ≤ n) (h5 : d (j - 1) < 5) (h : zus d n j us) : zus d n (j - 1) (us ||| 1 * 2 ^ d (j - 1)) := by
  obtain ⟨h1, h2⟩ := h
  obtain ⟨b1, b2⟩ := z_bit us h1 _ h5
  refine ⟨b1, fun x hx => ?_⟩
  rw [b2 x hx, h2 x hx]
  constructor
  · rintro ⟨a1, a2⟩ i hi hi2
    rcases Nat.lt_or_ge i j with q | q
    · rw [show i = j - 1 by omega]; exact fun e => a2 e.symm
    · exact a1 i q hi2
  · intro a
    exact ⟨fun i hi hi2 => a i (by omega) hi2, fun e => a (j - 1) (Nat.le_refl _) (by omega) e.symm⟩
theorem zpp_s {rd : Nat → Prop} {d : Nat → Nat} {n j us : Nat} {P Q : Prop} (hj : 1 ≤ j) (hn : j ≤ n) (h5 : d (j - 1) < 5) (h : zus d n j us) (hP : P ↔ zpp rd d n j) (hQ : Q ↔ (us / 2 ^ d (j - 1) % 2 = 0 ∧ rd (d (j - 1)))) : (P ∧ Q) ↔ zpp rd d n (j - 1) := by
  rw [hP, hQ, h.2 _ h5]
  constructor
  · rintro ⟨a1, a2, a3⟩ i hi hi2
    rcases Nat.lt_or_ge i j with q | q
    · obtain rfl : i = j - 1 := by omega
      exact ⟨fun k hk hk2 e => a2 k (by omega) hk2 e.symm, a3⟩
    · exact a1 i q hi2
  · intro a
    have a9 := a (j - 1) (Nat.le_refl _) (by omega)
    exact ⟨fun i hi hi2 => a i (by omega) hi2, fun i hi hi2 e => a9.1 i (by omega) hi2 e.symm, a9.2⟩
theorem zro_0 (d : Nat → Nat) (n : Nat) : zro d n n 0 := ⟨Nat.two_pow_pos _, fun i hi => absurd hi (by omega)⟩
theorem zro_s {d : Nat → Nat} {n j r : Nat} (hj : 1 ≤ j) (hn : j ≤ n) (h5 : d (j - 1) < 5) (h : zro d n j r) : zro d n (j - 1) (r * 8 + d (j - 1) + 1) := by
  obtain ⟨h1, h2⟩ := h
  have e8 : (r * 8 + d (j - 1) + 1) / 8 = r := by omega
  refine ⟨?_, fun i hi => ?_⟩
  · rw [show 3 * (n - (j - 1)) = 3 * (n - j) + 3 by omega, Nat.pow_add]
    generalize 2 ^ (3 * (n - j)) = M at h1
    have : (2 : Nat) ^ 3 = 8 := rfl
    omega
  · cases i with
    | zero =>
      simp only [Nat.mul_zero, Nat.pow_zero, Nat.div_one, Nat.add_zero]
      omega
    | succ i =>
      rw [show 3 * (i + 1) = 3 + 3 * i by omega, Nat.pow_add, ← Nat.div_div_eq_div_mul, show (2 : Nat) ^ 3 = 8 from rfl, e8, h2 i (by omega), show j + i = j - 1 + (i + 1) by omega]
theorem z_rs {n j code r : Nat} (hj : 1 ≤ j) (hn : j ≤ n) (h : r = code / 5 ^ (n - j)) : r / 5 = code / 5 ^ (n - (j - 1)) := by
  rw [h, Nat.div_div_eq_div_mul, ← Nat.pow_succ, show (n - j).succ = n - (j - 1) by omega]
theorem z_rd5 {n j code r : Nat} (hj : 1 ≤ j) (hn : j ≤ n) (h : r = code / 5 ^ (n - j)) : r % 5 = zdg n code (j - 1) := by
  unfold zdg
  rw [h, show n - 1 - (j - 1) = n - j by omega]
theorem z_dec2 {j : Nat} (h : 1 ≤ j) : nI j - nI 1 + Int32.ofInt (-1) = nI (j - 1) - nI 1 := by
  rw [pk_sub h]
  exact q_dec (j - 1)
theorem zcy_s {gt : Nat → Nat → Prop} {d : Nat → Nat} {n k nx : Nat} {P Q : Prop} (hP : P ↔ zcy gt d n k) (hQ : Q ↔ (d 0 ≤ d k ∧ gt (d k) nx)) (hx : nx = d (znx n k)) : (P ∧ Q) ↔ zcy gt d n (k + 1) := by
  rw [hP, hQ, hx]
  constructor
  · rintro ⟨a1, a2⟩ i hi
    rcases Nat.lt_or_ge i k with q | q
    · exact a1 i q
    · rw [show i = k by omega]; exact a2
  · intro a
    exact ⟨fun i hi => a i (by omega), a k (Nat.lt_succ_self k)⟩
theorem z_long {rd : Nat → Prop} {gt : Nat → Nat → Prop} {n : Nat} (h : ∀ n1, n < n1 → n1 ≤ 5 → ∀ c1, c1 < 5 ^ n1 → ¬ zval rd gt n1 c1) (h2 : ∀ c1, c1 < 5 ^ n → ¬ zval rd gt n c1) : ∀ n1, n - 1 < n1 → n1 ≤ 5 → ∀ c1, c1 < 5 ^ n1 → ¬ zval rd gt n1 c1 := by
  intro n1 a1 a2
  rcases Nat.lt_or_ge n n1 with q | q
  · exact h n1 q a2
  · rw [show n1 = n by omega]; exact h2
abbrev rL_chain : Room := { frames := 1, cells := 0, slots := 0, locals := 12 }
set_option maxHeartbeats 4000000 in
set_option maxRecDepth 100000 in
/-- chain -/
theorem kL_chain (l : Launch) (σ : q_E) (V : q_V) (G : q_G) (hw : ∀ a, a < 5 → V 73 (2 * a) = -1 ∨ ∃ j, j < 8 ∧ V 73 (2 * a) = nI j) : q_Mi l yL_chain wsL_chain rL_chain σ [.ref (σ.2.1 73), .ref (σ.2.1 72)] V G (fun r V' G' => (∃ rr, zfound (z_rd V) (z_gt V) rr ∧ nI rr = r) ∧ V = V' ∧ G = G') 0 0 := by
  refine q_Mi_of (cc := cL_chain) (maxL := 13) (lv := [(0, .ref (σ.2.1 73)), (1, .ref (σ.2.1 72))]) (by decide +kernel) rfl (Nat.le_of_ble_eq_true rfl) rfl ?_
  intro p e s m args below meth c Q C hR
  refine q_iconst C (nI 5) dL_chain_0 (by decide) ?_
  refine q_istore_n C [(2, .int (nI 5)), (0, .ref (σ.2.1 73)), (1, .ref (σ.2.1 72))] dL_chain_1 rfl (by decide) rfl ?_
  have L_1 : ∀ (nL_1 : Nat) (n : Nat) (hn1 : 1 ≤ n) (hn5 : n ≤ 5) (hlong : ∀ n1, n < n1 → n1 ≤ 5 → ∀ c1, c1 < 5 ^ n1 → ¬ zval (z_rd V) (z_gt V) n1 c1), n < nL_1 → q_W σ p l e rL_chain s m args below meth c Q 13 0 0 V G [(2, .int (nI n)), (0, .ref (σ.2.1 73)), (1, .ref (σ.2.1 72))] 2 [] := by
    intro nL_1
    induction nL_1 with
    | zero => intro n hn1 hn5 hlong h; exact absurd h (Nat.not_lt_zero _)
    | succ nL_1 ihL_1 =>
      intro n hn1 hn5 hlong hmL_1
      refine q_iload_n C dL_chain_2 rfl 0 rfl ?_
      refine q_iconst C (nI 1) dL_chain_3 (by decide) ?_
      refine q_icmp_leN C 274 dL_chain_4 (by decide) (by omega) (by omega) (fun c_4 => ?_) (fun c_4 => ?_)
      · skip
        refine q_iconst C (nI 0) dL_chain_274 (by decide) ?_
        refine hR _ _ _ _ _ _ _ ?_ rfl (Nat.le_of_ble_eq_true rfl) (Nat.le_of_ble_eq_true rfl) dL_chain_275
        exact ⟨⟨0, Or.inr ⟨fun n1 h1 h2 => hlong n1 (by omega) h2, rfl⟩, rfl⟩, rfl, rfl⟩
      · skip
        refine q_iconst C (nI 1) dL_chain_7 (by decide) ?_
        refine q_istore_n C [(3, .int (nI 1)), (2, .int (nI n)), (0, .ref (σ.2.1 73)), (1, .ref (σ.2.1 72))] dL_chain_8 rfl (by decide) rfl ?_
        refine q_iconst C (nI 0) dL_chain_9 (by decide) ?_
        refine q_istore C [(4, .int (nI 0)), (3, .int (nI 1)), (2, .int (nI n)), (0, .ref (σ.2.1 73)), (1, .ref (σ.2.1 72))] dL_chain_10 (by decide) rfl ?_
        have L_2 : ∀ (nL_2 : Nat) (kk a : Nat) (hkk : kk ≤ n) (ha : a = 5 ^ kk), n - kk < nL_2 → q_W σ p l e rL_chain s m args below meth c Q 13 0 0 V G [(3, .int (nI a)), (4, .int (nI kk)), (0, .ref (σ.2.1 73)), (1, .ref (σ.2.1 72)), (2, .int (nI n))] 12 [] := by
          intro nL_2
          induction nL_2 with
          | zero => intro kk a hkk ha h; exact absurd h (Nat.not_lt_zero _)
          | succ nL_2 ihL_2 =>
            intro kk a hkk ha hmL_2
            refine q_iload C dL_chain_12 1 rfl ?_
            refine q_iload_n C dL_chain_14 rfl 4 rfl ?_
            refine q_icmp_geN C 28 dL_chain_15 (by decide) (by omega) (by omega) (fun c_15 => ?_) (fun c_15 => ?_)
            · skip
              have hkn : kk = n := by omega
              have ha5 : a = 5 ^ n := by rw [ha, hkn]
              have ha9 : a ≤ 3125 := by rw [ha5]; exact Nat.pow_le_pow_right (n := 5) (by decide) hn5
              refine q_iconst C (nI 0) dL_chain_28 (by decide) ?_
              refine q_istore C [(4, .int (nI 0)), (3, .int (nI a)), (0, .ref (σ.2.1 73)), (1, .ref (σ.2.1 72)), (2, .int (nI n))] dL_chain_29 (by decide) rfl ?_
              have L_3 : ∀ (nL_3 : Nat) (code : Nat) (hcode : code ≤ a) (hno : ∀ c1, c1 < code → ¬ zval (z_rd V) (z_gt V) n c1), a - code < nL_3 → q_W σ p l e rL_chain s m args below meth c Q 13 0 0 V G [(4, .int (nI code)), (0, .ref (σ.2.1 73)), (1, .ref (σ.2.1 72)), (2, .int (nI n)), (3, .int (nI a))] 31 [] := by
                intro nL_3
                induction nL_3 with
                | zero => intro code hcode hno h; exact absurd h (Nat.not_lt_zero _)
                | succ nL_3 ihL_3 =>
                  intro code hcode hno hmL_3
                  refine q_iload C dL_chain_31 0 rfl ?_
                  refine q_iload_n C dL_chain_33 rfl 4 rfl ?_
                  refine q_icmp_geN C 268 dL_chain_34 (by decide) (by omega) (by omega) (fun c_34 => ?_) (fun c_34 => ?_)
                  · skip
                    refine q_iinc C (nI (n - 1)) [(2, .int (nI (n - 1))), (4, .int (nI code)), (0, .ref (σ.2.1 73)), (1, .ref (σ.2.1 72)), (3, .int (nI a))] dL_chain_268 3 rfl (q_pm2 (by omega)) (by decide) rfl ?_
                    refine q_goto C 2 dL_chain_271 (by decide) ?_
                    refine q_sub (lv' := [(2, .int (nI (n - 1))), (0, .ref (σ.2.1 73)), (1, .ref (σ.2.1 72))]) [0, 2, 3] rfl ?_
                    exact ihL_1 (n - 1) (by omega) (by omega) (z_long hlong (fun c1 hc1 => hno c1 (by rw [← ha5] at hc1; omega))) (by omega)
                  · skip
                    refine q_iload C dL_chain_37 0 rfl ?_
                    refine q_istore C [(5, .int (nI code)), (4, .int (nI code)), (0, .ref (σ.2.1 73)), (1, .ref (σ.2.1 72)), (2, .int (nI n)), (3, .int (nI a))] dL_chain_39 (by decide) rfl ?_
                    refine q_iconst C (nI 0) dL_chain_41 (by decide) ?_
                    refine q_istore C [(6, .int (nI 0)), (5, .int (nI code)), (4, .int (nI code)), (0, .ref (σ.2.1 73)), (1, .ref (σ.2.1 72)), (2, .int (nI n)), (3, .int (nI a))] dL_chain_42 (by decide) rfl ?_
                    refine q_iconst C (nI 0) dL_chain_44 (by decide) ?_
                    refine q_istore C [(7, .int (nI 0)), (6, .int (nI 0)), (5, .int (nI code)), (4, .int (nI code)), (0, .ref (σ.2.1 73)), (1, .ref (σ.2.1 72)), (2, .int (nI n)), (3, .int (nI a))] dL_chain_45 (by decide) rfl ?_
                    refine q_iconst C (nI 1) dL_chain_47 (by decide) ?_
                    refine q_stk (st' := [.int (q_w01 True)]) (by rw [q_w01_y trivial] <;> rfl) ?_
                    refine q_istore C [(8, .int (q_w01 True)), (7, .int (nI 0)), (6, .int (nI 0)), (5, .int (nI code)), (4, .int (nI code)), (0, .ref (σ.2.1 73)), (1, .ref (σ.2.1 72)), (2, .int (nI n)), (3, .int (nI a))] dL_chain_48 (by decide) rfl ?_
                    refine q_iload_n C dL_chain_50 rfl 7 rfl ?_
                    refine q_iconst C (nI 1) dL_chain_51 (by decide) ?_
                    refine q_isub C dL_chain_52 ?_
                    refine q_istore C [(9, .int (nI n - nI 1)), (8, .int (q_w01 True)), (7, .int (nI 0)), (6, .int (nI 0)), (5, .int (nI code)), (4, .int (nI code)), (0, .ref (σ.2.1 73)), (1, .ref (σ.2.1 72)), (2, .int (nI n)), (3, .int (nI a))] dL_chain_53 (by decide) rfl ?_
                    obtain ⟨d, hd⟩ : ∃ d : Nat → Nat, d = zdg n code := ⟨_, rfl⟩
                    have hd5 : ∀ i, d i < 5 := fun i => by rw [hd]; exact zdg_lt _ _ _
                    have L_4 : ∀ (nL_4 : Nat) (j rs us rr : Nat) (P : Prop) (hj : j ≤ n) (hrs : rs = code / 5 ^ (n - j)) (hrb : rs ≤ 3125) (hus : zus d n j us) (hro : zro d n j rr) (hP : P ↔ zpp (z_rd V) d n j), j < nL_4 → q_W σ p l e rL_chain s m args below meth c Q 13 0 0 V G [(5, .int (nI rs)), (6, .int (nI rr)), (7, .int (nI us)), (8, .int (q_w01 P)), (9, .int ((nI j - nI 1))), (0, .ref (σ.2.1 73)), (1, .ref (σ.2.1 72)), (2, .int (nI n)), (3, .int (nI a)), (4, .int (nI code))] 55 [] := by
                      intro nL_4
                      induction nL_4 with
                      | zero => intro j rs us rr P hj hrs hrb hus hro hP h; exact absurd h (Nat.not_lt_zero _)
                      | succ nL_4 ihL_4 =>
                        intro j rs us rr P hj hrs hrb hus hro hP hmL_4
                        refine q_iload C dL_chain_55 4 rfl ?_
                        refine q_if_lt C 145 dL_chain_57 (by decide) (fun c_57 => ?_) (fun c_57 => ?_)
                        · skip
                          have hj0 : j = 0 := (q_m1_lt (by omega)).mp c_57
                          refine q_iload C dL_chain_145 3 rfl ?_
                          refine q_if_neW C 153 dL_chain_147 (by decide) (fun c_147 => ?_) (fun c_147 => ?_)
                          · skip
                            have hro0 : zro d n 0 rr := by rw [← hj0]; exact hro
                            have hf0 : rr % 8 = d 0 + 1 := by have h9 := hro0.2 0 (by omega); rw [Nat.mul_zero, Nat.pow_zero, Nat.div_one, Nat.zero_add] at h9; exact h9
                            have hrr31 : rr < 2 ^ 31 := Nat.lt_of_lt_of_le hro0.1 (Nat.pow_le_pow_right (by decide) (by omega))
                            have hd50 := hd5 0
                            refine q_iload C dL_chain_153 1 rfl ?_
                            refine q_bipush C (nI 7) dL_chain_155 (by decide) ?_
                            refine q_iand7N C dL_chain_157 ?_
                            refine q_iconst C (nI 1) dL_chain_158 (by decide) ?_
                            refine q_isubN C dL_chain_159 (by rw [hf0]; omega) ?_
                            refine q_stk (st' := [.int (nI (d 0))]) (by rw [hf0, Nat.add_sub_cancel]) ?_
                            refine q_istore C [(9, .int (nI (d 0))), (5, .int (nI rs)), (6, .int (nI rr)), (7, .int (nI us)), (8, .int (q_w01 P)), (0, .ref (σ.2.1 73)), (1, .ref (σ.2.1 72)), (2, .int (nI n)), (3, .int (nI a)), (4, .int (nI code))] dL_chain_160 (by decide) rfl ?_
                            refine q_iconst C (nI 0) dL_chain_162 (by decide) ?_
                            refine q_istore C [(10, .int (nI 0)), (9, .int (nI (d 0))), (5, .int (nI rs)), (6, .int (nI rr)), (7, .int (nI us)), (8, .int (q_w01 P)), (0, .ref (σ.2.1 73)), (1, .ref (σ.2.1 72)), (2, .int (nI n)), (3, .int (nI a)), (4, .int (nI code))] dL_chain_163 (by decide) rfl ?_
                            have L_5 : ∀ (nL_5 : Nat) (k : Nat) (P2 : Prop) (hk : k ≤ n) (hP2 : P2 ↔ zcy (z_gt V) d n k), n - k < nL_5 → q_W σ p l e rL_chain s m args below meth c Q 13 0 0 V G [(8, .int (q_w01 P2)), (10, .int (nI k)), (0, .ref (σ.2.1 73)), (1, .ref (σ.2.1 72)), (2, .int (nI n)), (3, .int (nI a)), (4, .int (nI code)), (6, .int (nI rr)), (9, .int (nI (d 0)))] 165 [] := by
                              intro nL_5
                              induction nL_5 with
                              | zero => intro k P2 hk hP2 h; exact absurd h (Nat.not_lt_zero _)
                              | succ nL_5 ihL_5 =>
                                intro k P2 hk hP2 hmL_5
                                refine q_iload C dL_chain_165 1 rfl ?_
                                refine q_iload_n C dL_chain_167 rfl 4 rfl ?_
                                refine q_icmp_geN C 254 dL_chain_168 (by decide) (by omega) (by omega) (fun c_168 => ?_) (fun c_168 => ?_)
                                · skip
                                  refine q_iload C dL_chain_254 0 rfl ?_
                                  refine q_if_eqW C 262 dL_chain_256 (by decide) (fun c_256 => ?_) (fun c_256 => ?_)
                                  · skip
                                    refine q_iincN C [(4, .int (nI (code + 1))), (8, .int (q_w01 P2)), (10, .int (nI k)), (0, .ref (σ.2.1 73)), (1, .ref (σ.2.1 72)), (2, .int (nI n)), (3, .int (nI a)), (6, .int (nI rr)), (9, .int (nI (d 0)))] dL_chain_262 6 rfl (by decide) rfl ?_
                                    refine q_goto C 31 dL_chain_265 (by decide) ?_
                                    refine q_sub (lv' := [(4, .int (nI (code + 1))), (0, .ref (σ.2.1 73)), (1, .ref (σ.2.1 72)), (2, .int (nI n)), (3, .int (nI a))]) [0, 3, 4, 5, 6] rfl ?_
                                    exact ihL_3 (code + 1) (by omega) (lt_s hno (by first | exact fun z => c_147 (hP.mpr (by rw [hj0, hd]; exact z.1)) | exact fun z => c_256 (hP2.mpr (by rw [show k = n by omega, hd]; exact z.2)))) (by omega)
                                  · skip
                                    refine q_iload C dL_chain_259 7 rfl ?_
                                    refine hR _ _ _ _ _ _ _ ?_ rfl (Nat.le_of_ble_eq_true rfl) (Nat.le_of_ble_eq_true rfl) dL_chain_261
                                    have hkn2 : k = n := by omega
                                    refine ⟨⟨rr, Or.inl ⟨n, code, by omega, hn5, by rw [← ha5]; omega, ⟨?_, ?_⟩, ?_, hlong, hno⟩, rfl⟩, rfl, rfl⟩
                                    · rw [← hd, ← hj0]; exact hP.mp c_147
                                    · rw [← hd, ← hkn2]; have h9 := hP2.mp c_256; rw [hkn2] at h9 ⊢; exact h9
                                    · rw [← hd]; exact hro0
                                · skip
                                  have hdk2 : rr / 2 ^ (3 * k) % 8 = d k + 1 := by have h9 := hro0.2 k (by omega); rw [Nat.zero_add] at h9; exact h9
                                  have hd5k := hd5 k
                                  refine q_iload C dL_chain_171 7 rfl ?_
                                  refine q_iconst C (nI 3) dL_chain_173 (by decide) ?_
                                  refine q_iload C dL_chain_174 1 rfl ?_
                                  refine q_imulN C dL_chain_176  ?_
                                  refine q_ishrN C dL_chain_177 (by omega) (by omega) ?_
                                  refine q_bipush C (nI 7) dL_chain_178 (by decide) ?_
                                  refine q_iand7N C dL_chain_180 ?_
                                  refine q_iconst C (nI 1) dL_chain_181 (by decide) ?_
                                  refine q_isubN C dL_chain_182 (by rw [hdk2]; omega) ?_
                                  refine q_stk (st' := [.int (nI (d k))]) (by rw [hdk2, Nat.add_sub_cancel]) ?_
                                  refine q_istore C [(11, .int (nI (d k))), (8, .int (q_w01 P2)), (10, .int (nI k)), (0, .ref (σ.2.1 73)), (1, .ref (σ.2.1 72)), (2, .int (nI n)), (3, .int (nI a)), (4, .int (nI code)), (6, .int (nI rr)), (9, .int (nI (d 0)))] dL_chain_183 (by decide) rfl ?_
                                  have J_6 : ∀ (nx : Nat) (hnx : nx = d (znx n k)), q_W σ p l e rL_chain s m args below meth c Q 13 0 0 V G [(0, .ref (σ.2.1 73)), (1, .ref (σ.2.1 72)), (2, .int (nI n)), (3, .int (nI a)), (4, .int (nI code)), (6, .int (nI rr)), (8, .int (q_w01 P2)), (9, .int (nI (d 0))), (10, .int (nI k)), (11, .int (nI (d k)))] 212 [.int (nI nx)] := by
                                    intro nx hnx
                                    have hnx5 : nx < 5 := by rw [hnx]; exact hd5 _
                                    refine q_istore C [(12, .int (nI nx)), (0, .ref (σ.2.1 73)), (1, .ref (σ.2.1 72)), (2, .int (nI n)), (3, .int (nI a)), (4, .int (nI code)), (6, .int (nI rr)), (8, .int (q_w01 P2)), (9, .int (nI (d 0))), (10, .int (nI k)), (11, .int (nI (d k)))] dL_chain_212 (by decide) rfl ?_
                                    have J_7 : ∀ (Q9 : Prop) (hQ9 : Q9 ↔ (d 0 ≤ d k ∧ z_gt V (d k) nx)), q_W σ p l e rL_chain s m args below meth c Q 13 0 0 V G [(0, .ref (σ.2.1 73)), (1, .ref (σ.2.1 72)), (2, .int (nI n)), (3, .int (nI a)), (4, .int (nI code)), (6, .int (nI rr)), (8, .int (q_w01 P2)), (9, .int (nI (d 0))), (10, .int (nI k)), (11, .int (nI (d k))), (12, .int (nI nx))] 245 [.int (q_w01 Q9), .int (q_w01 P2)] := by
                                      intro Q9 hQ9
                                      refine q_iandW C dL_chain_245 ?_
                                      refine q_istore C [(8, .int (q_w01 (P2 ∧ Q9))), (0, .ref (σ.2.1 73)), (1, .ref (σ.2.1 72)), (2, .int (nI n)), (3, .int (nI a)), (4, .int (nI code)), (6, .int (nI rr)), (9, .int (nI (d 0))), (10, .int (nI k)), (11, .int (nI (d k))), (12, .int (nI nx))] dL_chain_246 (by decide) rfl ?_
                                      refine q_iincN C [(10, .int (nI (k + 1))), (8, .int (q_w01 (P2 ∧ Q9))), (0, .ref (σ.2.1 73)), (1, .ref (σ.2.1 72)), (2, .int (nI n)), (3, .int (nI a)), (4, .int (nI code)), (6, .int (nI rr)), (9, .int (nI (d 0))), (11, .int (nI (d k))), (12, .int (nI nx))] dL_chain_248 8 rfl (by decide) rfl ?_
                                      refine q_goto C 165 dL_chain_251 (by decide) ?_
                                      refine q_sub (lv' := [(8, .int (q_w01 (P2 ∧ Q9))), (10, .int (nI (k + 1))), (0, .ref (σ.2.1 73)), (1, .ref (σ.2.1 72)), (2, .int (nI n)), (3, .int (nI a)), (4, .int (nI code)), (6, .int (nI rr)), (9, .int (nI (d 0)))]) [1, 0, 2, 3, 4, 5, 6, 7, 8] rfl ?_
                                      exact ihL_5 (k + 1) _ (by omega) (zcy_s hP2 hQ9 hnx) (by omega)
                                    refine q_iload C dL_chain_214 7 rfl ?_
                                    refine q_iload C dL_chain_216 10 rfl ?_
                                    refine q_iload C dL_chain_218 8 rfl ?_
                                    refine q_icmp_ltN C 244 dL_chain_220 (by decide) (by omega) (by omega) (fun c_220 => ?_) (fun c_220 => ?_)
                                    · skip
                                      refine q_iconst C (nI 0) dL_chain_244 (by decide) ?_
                                      refine q_sub (lv' := [(0, .ref (σ.2.1 73)), (1, .ref (σ.2.1 72)), (2, .int (nI n)), (3, .int (nI a)), (4, .int (nI code)), (6, .int (nI rr)), (8, .int (q_w01 P2)), (9, .int (nI (d 0))), (10, .int (nI k)), (11, .int (nI (d k))), (12, .int (nI nx))]) [1, 2, 3, 4, 5, 6, 7, 8, 9, 10, 0] rfl ?_
                                      refine q_stk (st' := [.int (q_w01 False), .int (q_w01 P2)]) (by rw [q_w01_n (fun z : False => z)] <;> rfl) ?_
                                      exact J_7 _ (by first | exact ⟨fun z => z.elim, fun z => absurd z.1 (Nat.not_le.mpr c_220)⟩ | exact ⟨fun z => z.elim, fun z => c_237 z.2⟩)
                                    · skip
                                      refine q_aload_n C dL_chain_223 rfl 1 rfl ?_
                                      refine q_iconst C (nI 2) dL_chain_224 (by decide) ?_
                                      refine q_iload C dL_chain_225 10 rfl ?_
                                      refine q_imulN C dL_chain_227  ?_
                                      refine q_iconst C (nI 1) dL_chain_228 (by decide) ?_
                                      refine q_iaddN C dL_chain_229  ?_
                                      refine q_ialdN C (k := 73) (n := 14) ⟨by decide, by decide, by decide⟩ (by omega) (by decide) dL_chain_230 ?_
                                      refine q_aload_n C dL_chain_231 rfl 1 rfl ?_
                                      refine q_iconst C (nI 2) dL_chain_232 (by decide) ?_
                                      refine q_iload C dL_chain_233 0 rfl ?_
                                      refine q_imulN C dL_chain_235  ?_
                                      refine q_ialdN C (k := 73) (n := 14) ⟨by decide, by decide, by decide⟩ (by omega) (by decide) dL_chain_236 ?_
                                      refine q_icmp_ne C 244 dL_chain_237 (by decide) (fun c_237 => ?_) (fun c_237 => ?_)
                                      · skip
                                        refine q_iconst C (nI 0) dL_chain_244 (by decide) ?_
                                        refine q_sub (lv' := [(0, .ref (σ.2.1 73)), (1, .ref (σ.2.1 72)), (2, .int (nI n)), (3, .int (nI a)), (4, .int (nI code)), (6, .int (nI rr)), (8, .int (q_w01 P2)), (9, .int (nI (d 0))), (10, .int (nI k)), (11, .int (nI (d k))), (12, .int (nI nx))]) [1, 2, 3, 4, 5, 6, 7, 8, 9, 10, 0] rfl ?_
                                        refine q_stk (st' := [.int (q_w01 False), .int (q_w01 P2)]) (by rw [q_w01_n (fun z : False => z)] <;> rfl) ?_
                                        exact J_7 _ (by first | exact ⟨fun z => z.elim, fun z => absurd z.1 (Nat.not_le.mpr c_220)⟩ | exact ⟨fun z => z.elim, fun z => c_237 z.2⟩)
                                      · skip
                                        refine q_iconst C (nI 1) dL_chain_240 (by decide) ?_
                                        refine q_goto C 245 dL_chain_241 (by decide) ?_
                                        refine q_sub (lv' := [(0, .ref (σ.2.1 73)), (1, .ref (σ.2.1 72)), (2, .int (nI n)), (3, .int (nI a)), (4, .int (nI code)), (6, .int (nI rr)), (8, .int (q_w01 P2)), (9, .int (nI (d 0))), (10, .int (nI k)), (11, .int (nI (d k))), (12, .int (nI nx))]) [1, 2, 3, 4, 5, 6, 7, 8, 9, 10, 0] rfl ?_
                                        refine q_stk (st' := [.int (q_w01 True), .int (q_w01 P2)]) (by rw [q_w01_y trivial] <;> rfl) ?_
                                        exact J_7 _ ⟨fun _ => ⟨c_220, c_237⟩, fun _ => trivial⟩
                                  refine q_iload C dL_chain_185 2 rfl ?_
                                  refine q_iconst C (nI 1) dL_chain_187 (by decide) ?_
                                  refine q_iaddN C dL_chain_188  ?_
                                  refine q_iload_n C dL_chain_189 rfl 5 rfl ?_
                                  refine q_icmp_neN C 198 dL_chain_190 (by decide) (by omega) (by omega) (fun c_190 => ?_) (fun c_190 => ?_)
                                  · skip
                                    have hdk3 : rr / 2 ^ (3 * k + 3) % 8 = d (k + 1) + 1 := by have h9 := hro0.2 (k + 1) (by omega); rw [Nat.zero_add] at h9; exact h9
                                    refine q_iload C dL_chain_198 8 rfl ?_
                                    refine q_iconst C (nI 3) dL_chain_200 (by decide) ?_
                                    refine q_iload C dL_chain_201 2 rfl ?_
                                    refine q_imulN C dL_chain_203  ?_
                                    refine q_iconst C (nI 3) dL_chain_204 (by decide) ?_
                                    refine q_iaddN C dL_chain_205  ?_
                                    refine q_ishrN C dL_chain_206 (by omega) (by omega) ?_
                                    refine q_bipush C (nI 7) dL_chain_207 (by decide) ?_
                                    refine q_iand7N C dL_chain_209 ?_
                                    refine q_iconst C (nI 1) dL_chain_210 (by decide) ?_
                                    refine q_isubN C dL_chain_211 (by rw [hdk3]; omega) ?_
                                    refine q_stk (st' := [.int (nI (d (k + 1)))]) (by rw [hdk3, Nat.add_sub_cancel]) ?_
                                    refine q_sub (lv' := [(0, .ref (σ.2.1 73)), (1, .ref (σ.2.1 72)), (2, .int (nI n)), (3, .int (nI a)), (4, .int (nI code)), (6, .int (nI rr)), (8, .int (q_w01 P2)), (9, .int (nI (d 0))), (10, .int (nI k)), (11, .int (nI (d k)))]) [3, 4, 5, 6, 7, 8, 1, 9, 2, 0] rfl ?_
                                    exact J_6 _ (by unfold znx; rw [if_neg c_190])
                                  · skip
                                    refine q_iload C dL_chain_193 9 rfl ?_
                                    refine q_goto C 212 dL_chain_195 (by decide) ?_
                                    refine q_sub (lv' := [(0, .ref (σ.2.1 73)), (1, .ref (σ.2.1 72)), (2, .int (nI n)), (3, .int (nI a)), (4, .int (nI code)), (6, .int (nI rr)), (8, .int (q_w01 P2)), (9, .int (nI (d 0))), (10, .int (nI k)), (11, .int (nI (d k)))]) [3, 4, 5, 6, 7, 8, 1, 9, 2, 0] rfl ?_
                                    exact J_6 _ (by unfold znx; rw [if_pos c_190])
                            refine q_sub (lv' := [(8, .int (q_w01 P)), (10, .int (nI 0)), (0, .ref (σ.2.1 73)), (1, .ref (σ.2.1 72)), (2, .int (nI n)), (3, .int (nI a)), (4, .int (nI code)), (6, .int (nI rr)), (9, .int (nI (d 0)))]) [5, 0, 6, 7, 8, 9, 10, 3, 1] rfl ?_
                            exact L_5 _ 0 P (Nat.zero_le _) ⟨fun _ i hi => absurd hi (Nat.not_lt_zero i), fun _ => c_147⟩ (Nat.lt_succ_self _)
                          · skip
                            refine q_goto C 262 dL_chain_150 (by decide) ?_
                            refine q_iincN C [(4, .int (nI (code + 1))), (5, .int (nI rs)), (6, .int (nI rr)), (7, .int (nI us)), (8, .int (q_w01 P)), (9, .int ((nI j - nI 1))), (0, .ref (σ.2.1 73)), (1, .ref (σ.2.1 72)), (2, .int (nI n)), (3, .int (nI a))] dL_chain_262 9 rfl (by decide) rfl ?_
                            refine q_goto C 31 dL_chain_265 (by decide) ?_
                            refine q_sub (lv' := [(4, .int (nI (code + 1))), (0, .ref (σ.2.1 73)), (1, .ref (σ.2.1 72)), (2, .int (nI n)), (3, .int (nI a))]) [0, 6, 7, 8, 9] rfl ?_
                            exact ihL_3 (code + 1) (by omega) (lt_s hno (by first | exact fun z => c_147 (hP.mpr (by rw [hj0, hd]; exact z.1)) | exact fun z => c_256 (hP2.mpr (by rw [show k = n by omega, hd]; exact z.2)))) (by omega)
                        · skip
                          have hj1 : 1 ≤ j := Nat.pos_of_ne_zero fun z => c_57 ((q_m1_lt (by omega)).mpr z)
                          have hdk : rs % 5 = d (j - 1) := by rw [hd]; exact z_rd5 hj1 hj hrs
                          have hd5j := hd5 (j - 1)
                          have hus32 := hus.1
                          refine q_iload C dL_chain_60 0 rfl ?_
                          refine q_iconst C (nI 5) dL_chain_62 (by decide) ?_
                          refine q_iremN C dL_chain_63 (by omega) (by omega) (by omega) ?_
                          refine q_stk (st' := [.int (nI (d (j - 1)))]) (by rw [hdk]) ?_
                          refine q_istore C [(10, .int (nI (d (j - 1)))), (5, .int (nI rs)), (6, .int (nI rr)), (7, .int (nI us)), (8, .int (q_w01 P)), (9, .int ((nI j - nI 1))), (0, .ref (σ.2.1 73)), (1, .ref (σ.2.1 72)), (2, .int (nI n)), (3, .int (nI a)), (4, .int (nI code))] dL_chain_64 (by decide) rfl ?_
                          refine q_iload C dL_chain_66 1 rfl ?_
                          refine q_iconst C (nI 5) dL_chain_68 (by decide) ?_
                          refine q_idivN C dL_chain_69 (by omega) (by omega) (by omega) ?_
                          refine q_istore C [(5, .int (nI (rs / 5))), (10, .int (nI (d (j - 1)))), (6, .int (nI rr)), (7, .int (nI us)), (8, .int (q_w01 P)), (9, .int ((nI j - nI 1))), (0, .ref (σ.2.1 73)), (1, .ref (σ.2.1 72)), (2, .int (nI n)), (3, .int (nI a)), (4, .int (nI code))] dL_chain_70 (by decide) rfl ?_
                          have J_8 : ∀ (Q9 : Prop) (hQ9 : Q9 ↔ (us / 2 ^ d (j - 1) % 2 = 0 ∧ z_rd V (d (j - 1)))), q_W σ p l e rL_chain s m args below meth c Q 13 0 0 V G [(0, .ref (σ.2.1 73)), (1, .ref (σ.2.1 72)), (2, .int (nI n)), (3, .int (nI a)), (4, .int (nI code)), (5, .int (nI (rs / 5))), (6, .int (nI rr)), (7, .int (nI us)), (8, .int (q_w01 P)), (9, .int ((nI j - nI 1))), (10, .int (nI (d (j - 1))))] 115 [.int (q_w01 Q9), .int (q_w01 P)] := by
                            intro Q9 hQ9
                            refine q_iandW C dL_chain_115 ?_
                            refine q_istore C [(8, .int (q_w01 (P ∧ Q9))), (0, .ref (σ.2.1 73)), (1, .ref (σ.2.1 72)), (2, .int (nI n)), (3, .int (nI a)), (4, .int (nI code)), (5, .int (nI (rs / 5))), (6, .int (nI rr)), (7, .int (nI us)), (9, .int ((nI j - nI 1))), (10, .int (nI (d (j - 1))))] dL_chain_116 (by decide) rfl ?_
                            refine q_iload C dL_chain_118 8 rfl ?_
                            refine q_iconst C (nI 1) dL_chain_120 (by decide) ?_
                            refine q_iload C dL_chain_121 10 rfl ?_
                            refine q_ishlN C dL_chain_123 (by omega) ?_
                            refine q_iorN C dL_chain_124 ?_
                            refine q_istore C [(7, .int (nI (us ||| (1 * 2 ^ (d (j - 1)))))), (8, .int (q_w01 (P ∧ Q9))), (0, .ref (σ.2.1 73)), (1, .ref (σ.2.1 72)), (2, .int (nI n)), (3, .int (nI a)), (4, .int (nI code)), (5, .int (nI (rs / 5))), (6, .int (nI rr)), (9, .int ((nI j - nI 1))), (10, .int (nI (d (j - 1))))] dL_chain_125 (by decide) rfl ?_
                            refine q_iload C dL_chain_127 8 rfl ?_
                            refine q_bipush C (nI 8) dL_chain_129 (by decide) ?_
                            refine q_imulN C dL_chain_131  ?_
                            refine q_iload C dL_chain_132 10 rfl ?_
                            refine q_iaddN C dL_chain_134  ?_
                            refine q_iconst C (nI 1) dL_chain_135 (by decide) ?_
                            refine q_iaddN C dL_chain_136  ?_
                            refine q_istore C [(6, .int (nI (((rr * 8) + (d (j - 1))) + 1))), (7, .int (nI (us ||| (1 * 2 ^ (d (j - 1)))))), (8, .int (q_w01 (P ∧ Q9))), (0, .ref (σ.2.1 73)), (1, .ref (σ.2.1 72)), (2, .int (nI n)), (3, .int (nI a)), (4, .int (nI code)), (5, .int (nI (rs / 5))), (9, .int ((nI j - nI 1))), (10, .int (nI (d (j - 1))))] dL_chain_137 (by decide) rfl ?_
                            refine q_iinc C ((nI (j - 1) - nI 1)) [(9, .int ((nI (j - 1) - nI 1))), (6, .int (nI (((rr * 8) + (d (j - 1))) + 1))), (7, .int (nI (us ||| (1 * 2 ^ (d (j - 1)))))), (8, .int (q_w01 (P ∧ Q9))), (0, .ref (σ.2.1 73)), (1, .ref (σ.2.1 72)), (2, .int (nI n)), (3, .int (nI a)), (4, .int (nI code)), (5, .int (nI (rs / 5))), (10, .int (nI (d (j - 1))))] dL_chain_139 9 rfl (z_dec2 hj1) (by decide) rfl ?_
                            refine q_goto C 55 dL_chain_142 (by decide) ?_
                            refine q_sub (lv' := [(5, .int (nI (rs / 5))), (6, .int (nI (((rr * 8) + (d (j - 1))) + 1))), (7, .int (nI (us ||| (1 * 2 ^ (d (j - 1)))))), (8, .int (q_w01 (P ∧ Q9))), (9, .int ((nI (j - 1) - nI 1))), (0, .ref (σ.2.1 73)), (1, .ref (σ.2.1 72)), (2, .int (nI n)), (3, .int (nI a)), (4, .int (nI code))]) [9, 1, 2, 3, 0, 4, 5, 6, 7, 8] rfl ?_
                            exact ihL_4 (j - 1) _ _ _ _ (by omega) (z_rs hj1 hj hrs) (by omega) (zus_s hj1 hj (hd5 _) hus) (zro_s hj1 hj (hd5 _) hro) (zpp_s hj1 hj (hd5 _) hus hP hQ9) (by omega)
                          refine q_iload C dL_chain_72 4 rfl ?_
                          refine q_iload C dL_chain_74 3 rfl ?_
                          refine q_iload C dL_chain_76 1 rfl ?_
                          refine q_ishrN C dL_chain_78 (by omega) (by omega) ?_
                          refine q_iconst C (nI 1) dL_chain_79 (by decide) ?_
                          refine q_iand1N C dL_chain_80 ?_
                          refine q_if_neN C 114 dL_chain_81 (by decide) (by omega) (fun c_81 => ?_) (fun c_81 => ?_)
                          · skip
                            refine q_iconst C (nI 0) dL_chain_114 (by decide) ?_
                            refine q_sub (lv' := [(0, .ref (σ.2.1 73)), (1, .ref (σ.2.1 72)), (2, .int (nI n)), (3, .int (nI a)), (4, .int (nI code)), (5, .int (nI (rs / 5))), (6, .int (nI rr)), (7, .int (nI us)), (8, .int (q_w01 P)), (9, .int ((nI j - nI 1))), (10, .int (nI (d (j - 1))))]) [6, 7, 8, 9, 10, 0, 2, 3, 4, 5, 1] rfl ?_
                            refine q_stk (st' := [.int (q_w01 False), .int (q_w01 P)]) (by rw [q_w01_n (fun z : False => z)] <;> rfl) ?_
                            exact J_8 _ (by first | exact ⟨fun z => z.elim, fun z => absurd z.1 c_81⟩ | exact ⟨fun z => z.elim, fun z => z.2.1 c_90⟩ | exact ⟨fun z => z.elim, fun z => by have h9 := z.2.2; rw [hce, q_n_nI (by omega)] at h9; exact absurd h9 (Int32.not_lt.mpr c_107)⟩)
                          · skip
                            refine q_aload_n C dL_chain_84 rfl 6 rfl ?_
                            refine q_iconst C (nI 2) dL_chain_85 (by decide) ?_
                            refine q_iload C dL_chain_86 1 rfl ?_
                            refine q_imulN C dL_chain_88  ?_
                            refine q_ialdN C (k := 73) (n := 14) ⟨by decide, by decide, by decide⟩ (by omega) (by decide) dL_chain_89 ?_
                            refine q_if_lt C 114 dL_chain_90 (by decide) (fun c_90 => ?_) (fun c_90 => ?_)
                            · skip
                              refine q_iconst C (nI 0) dL_chain_114 (by decide) ?_
                              refine q_sub (lv' := [(0, .ref (σ.2.1 73)), (1, .ref (σ.2.1 72)), (2, .int (nI n)), (3, .int (nI a)), (4, .int (nI code)), (5, .int (nI (rs / 5))), (6, .int (nI rr)), (7, .int (nI us)), (8, .int (q_w01 P)), (9, .int ((nI j - nI 1))), (10, .int (nI (d (j - 1))))]) [6, 7, 8, 9, 10, 0, 2, 3, 4, 5, 1] rfl ?_
                              refine q_stk (st' := [.int (q_w01 False), .int (q_w01 P)]) (by rw [q_w01_n (fun z : False => z)] <;> rfl) ?_
                              exact J_8 _ (by first | exact ⟨fun z => z.elim, fun z => absurd z.1 c_81⟩ | exact ⟨fun z => z.elim, fun z => z.2.1 c_90⟩ | exact ⟨fun z => z.elim, fun z => by have h9 := z.2.2; rw [hce, q_n_nI (by omega)] at h9; exact absurd h9 (Int32.not_lt.mpr c_107)⟩)
                            · skip
                              obtain ⟨cw, hcw, hce⟩ := z_w0 (hw _ hd5j) c_90
                              refine q_aload_n C dL_chain_93 rfl 7 rfl ?_
                              refine q_bipush C (nI 8) dL_chain_94 (by decide) ?_
                              refine q_iload C dL_chain_96 1 rfl ?_
                              refine q_imulN C dL_chain_98  ?_
                              refine q_aload_n C dL_chain_99 rfl 6 rfl ?_
                              refine q_iconst C (nI 2) dL_chain_100 (by decide) ?_
                              refine q_iload C dL_chain_101 1 rfl ?_
                              refine q_imulN C dL_chain_103  ?_
                              refine q_ialdN C (k := 73) (n := 14) ⟨by decide, by decide, by decide⟩ (by omega) (by decide) dL_chain_104 ?_
                              refine q_stk (st' := [.int (nI cw), .int (nI (8 * (d (j - 1)))), .ref (σ.2.1 72), .int (q_w01 P)]) (congrArg (fun z => Value.int z :: [.int (nI (8 * (d (j - 1)))), .ref (σ.2.1 72), .int (q_w01 P)]) (hce)) ?_
                              refine q_iaddN C dL_chain_105  ?_
                              refine q_ialdN C (k := 72) (n := 64) ⟨by decide, by decide, by decide⟩ (by omega) (by decide) dL_chain_106 ?_
                              refine q_if_le C 114 dL_chain_107 (by decide) (fun c_107 => ?_) (fun c_107 => ?_)
                              · skip
                                refine q_iconst C (nI 0) dL_chain_114 (by decide) ?_
                                refine q_sub (lv' := [(0, .ref (σ.2.1 73)), (1, .ref (σ.2.1 72)), (2, .int (nI n)), (3, .int (nI a)), (4, .int (nI code)), (5, .int (nI (rs / 5))), (6, .int (nI rr)), (7, .int (nI us)), (8, .int (q_w01 P)), (9, .int ((nI j - nI 1))), (10, .int (nI (d (j - 1))))]) [6, 7, 8, 9, 10, 0, 2, 3, 4, 5, 1] rfl ?_
                                refine q_stk (st' := [.int (q_w01 False), .int (q_w01 P)]) (by rw [q_w01_n (fun z : False => z)] <;> rfl) ?_
                                exact J_8 _ (by first | exact ⟨fun z => z.elim, fun z => absurd z.1 c_81⟩ | exact ⟨fun z => z.elim, fun z => z.2.1 c_90⟩ | exact ⟨fun z => z.elim, fun z => by have h9 := z.2.2; rw [hce, q_n_nI (by omega)] at h9; exact absurd h9 (Int32.not_lt.mpr c_107)⟩)
                              · skip
                                refine q_iconst C (nI 1) dL_chain_110 (by decide) ?_
                                refine q_goto C 115 dL_chain_111 (by decide) ?_
                                refine q_sub (lv' := [(0, .ref (σ.2.1 73)), (1, .ref (σ.2.1 72)), (2, .int (nI n)), (3, .int (nI a)), (4, .int (nI code)), (5, .int (nI (rs / 5))), (6, .int (nI rr)), (7, .int (nI us)), (8, .int (q_w01 P)), (9, .int ((nI j - nI 1))), (10, .int (nI (d (j - 1))))]) [6, 7, 8, 9, 10, 0, 2, 3, 4, 5, 1] rfl ?_
                                refine q_stk (st' := [.int (q_w01 True), .int (q_w01 P)]) (by rw [q_w01_y trivial] <;> rfl) ?_
                                exact J_8 _ ⟨fun _ => ⟨c_81, c_90, by rw [hce, q_n_nI (by omega)]; exact Int32.not_le.mp c_107⟩, fun _ => trivial⟩
                    refine q_sub (lv' := [(5, .int (nI code)), (6, .int (nI 0)), (7, .int (nI 0)), (8, .int (q_w01 True)), (9, .int (nI n - nI 1)), (0, .ref (σ.2.1 73)), (1, .ref (σ.2.1 72)), (2, .int (nI n)), (3, .int (nI a)), (4, .int (nI code))]) [4, 3, 2, 1, 0, 6, 7, 8, 9, 5] rfl ?_
                    exact L_4 _ n code 0 0 True (Nat.le_refl _) (by rw [Nat.sub_self, Nat.pow_zero, Nat.div_one]) (by omega) (zus_0 d n) (zro_0 d n) ⟨fun _ i h1 h2 => absurd h1 (by omega), fun _ => trivial⟩ (Nat.lt_succ_self _)
              refine q_sub (lv' := [(4, .int (nI 0)), (0, .ref (σ.2.1 73)), (1, .ref (σ.2.1 72)), (2, .int (nI n)), (3, .int (nI a))]) [0, 2, 3, 4, 1] rfl ?_
              exact L_3 _ 0 (Nat.zero_le _) lt_0 (Nat.lt_succ_self _)
            · skip
              refine q_iload_n C dL_chain_18 rfl 0 rfl ?_
              refine q_iconst C (nI 5) dL_chain_19 (by decide) ?_
              refine q_imulN C dL_chain_20  ?_
              refine q_istore_n C [(3, .int (nI (a * 5))), (4, .int (nI kk)), (0, .ref (σ.2.1 73)), (1, .ref (σ.2.1 72)), (2, .int (nI n))] dL_chain_21 rfl (by decide) rfl ?_
              refine q_iincN C [(4, .int (nI (kk + 1))), (3, .int (nI (a * 5))), (0, .ref (σ.2.1 73)), (1, .ref (σ.2.1 72)), (2, .int (nI n))] dL_chain_22 1 rfl (by decide) rfl ?_
              refine q_goto C 12 dL_chain_25 (by decide) ?_
              refine q_sub (lv' := [(3, .int (nI (a * 5))), (4, .int (nI (kk + 1))), (0, .ref (σ.2.1 73)), (1, .ref (σ.2.1 72)), (2, .int (nI n))]) [1, 0, 2, 3, 4] rfl ?_
              exact ihL_2 (kk + 1) _ (by omega) (by rw [ha, Nat.pow_succ]) (by omega)
        refine q_sub (lv' := [(3, .int (nI 1)), (4, .int (nI 0)), (0, .ref (σ.2.1 73)), (1, .ref (σ.2.1 72)), (2, .int (nI n))]) [1, 0, 3, 4, 2] rfl ?_
        exact L_2 _ 0 1 (Nat.zero_le _) rfl (Nat.lt_succ_self _)
  refine q_sub (lv' := [(2, .int (nI 5)), (0, .ref (σ.2.1 73)), (1, .ref (σ.2.1 72))]) [0, 1, 2] rfl ?_
  exact L_1 _ 5 (by omega) (by omega) (fun n1 h h2 => absurd h (by omega)) (Nat.lt_succ_self _)
