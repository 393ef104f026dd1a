section QIFN
variable {σ : q_E} {p : Program} {l : Launch} {e : Env} {R : Room} {s : State} {m : MethodId} {args : Array Value} {below : List Frame} {meth : Method} {c : Code} {Q : State → Prop} {nL cells slots : Nat} {V : q_V} {G : q_G} {lv : List (Nat × Value)} {pc : Nat} {st : List Value} {cc : ByteArray} {own : String} {Ts : List Cond}
theorem q_if_eqN (C : q_C σ p s m args c cc nL own Ts) {a : Nat} {off : Int} (tgt : Nat) (hd : decode cc pc = .ok (.ifCond .eq off, 3)) (ht : (pc : Int) + off = (tgt : Int)) (ha : a < 2 ^ 31) (kt : a = 0 → q_W σ p l e R s m args below meth c Q nL cells slots V G lv tgt st) (kf : a ≠ 0 → q_W σ p l e R s m args below meth c Q nL cells slots V G lv (pc + 3) st) : q_W σ p l e R s m args below meth c Q nL cells slots V G lv pc (.int (nI a) :: st) := q_if_eq C tgt hd ht (fun h => kt ((nI_eq ha (by decide)).mp h)) (fun h => kf (fun z => h (by rw [z]; rfl)))
theorem q_if_neN (C : q_C σ p s m args c cc nL own Ts) {a : Nat} {off : Int} (tgt : Nat) (hd : decode cc pc = .ok (.ifCond .ne off, 3)) (ht : (pc : Int) + off = (tgt : Int)) (ha : a < 2 ^ 31) (kt : a ≠ 0 → q_W σ p l e R s m args below meth c Q nL cells slots V G lv tgt st) (kf : a = 0 → q_W σ p l e R s m args below meth c Q nL cells slots V G lv (pc + 3) st) : q_W σ p l e R s m args below meth c Q nL cells slots V G lv pc (.int (nI a) :: st) := q_if_ne C tgt hd ht (fun h => kt (fun z => h (by rw [z]; rfl))) (fun h => kf ((nI_eq ha (by decide)).mp h))
theorem q_if_gtN (C : q_C σ p s m args c cc nL own Ts) {a : Nat} {off : Int} (tgt : Nat) (hd : decode cc pc = .ok (.ifCond .gt off, 3)) (ht : (pc : Int) + off = (tgt : Int)) (ha : a < 2 ^ 31) (kt : 0 < a → q_W σ p l e R s m args below meth c Q nL cells slots V G lv tgt st) (kf : a = 0 → q_W σ p l e R s m args below meth c Q nL cells slots V G lv (pc + 3) st) : q_W σ p l e R s m args below meth c Q nL cells slots V G lv pc (.int (nI a) :: st) := q_if_gt C tgt hd ht (fun h => kt ((nI_ltI (by decide) ha).mp h)) (fun h => kf (by have := Nat.not_lt.mp (fun z => h ((nI_ltI (a := 0) (by decide) ha).mpr z)); omega))
theorem q_if_leN (C : q_C σ p s m args c cc nL own Ts) {a : Nat} {off : Int} (tgt : Nat) (hd : decode cc pc = .ok (.ifCond .le off, 3)) (ht : (pc : Int) + off = (tgt : Int)) (ha : a < 2 ^ 31) (kt : a = 0 → q_W σ p l e R s m args below meth c Q nL cells slots V G lv tgt st) (kf : 0 < a → q_W σ p l e R s m args below meth c Q nL cells slots V G lv (pc + 3) st) : q_W σ p l e R s m args below meth c Q nL cells slots V G lv pc (.int (nI a) :: st) := q_if_le C tgt hd ht (fun h => kt (by have := (nI_leI (b := 0) ha (by decide)).mp h; omega)) (fun h => kf (Nat.not_le.mp (fun z => h ((nI_leI (b := 0) ha (by decide)).mpr z))))
end QIFN
def q_n (x : Int32) : Nat := x.toNatClampNeg
theorem q_n_nI {n : Nat} (h : n < 2 ^ 31) : q_n (nI n) = n := nI_clamp h
theorem q_in_ok {x : Int32} {m : Nat} (hm : m < 1000) : (¬ x < nI 0 ∧ ¬ nI m < x) ↔ q_ok (m + 1) x := by
  constructor
  · rintro ⟨h1, h2⟩
    refine q_ok_of h1 ?_ (by omega)
    rcases pk_ix x (n := m + 1) (by omega) with h | h | ⟨j, h, e⟩
    · exact absurd h h1
    · exact absurd (Int32.lt_of_lt_of_le (nI_lt (Nat.lt_succ_self m) (by omega)) h) h2
    · rw [e]; exact nI_lt h (by omega)
  · rintro ⟨j, hj, rfl⟩
    exact ⟨nI_pos (by omega), nI_nlt (by omega) (by omega)⟩
theorem q_in_ok2 {x : Int32} {n : Nat} (hn : n < 1000) : (¬ x < nI 0 ∧ ¬ (nI n - nI 1) < x) ↔ q_ok n x := by
  cases n with
  | zero =>
    constructor
    · rintro ⟨h1, h2⟩
      rcases pk_ix x (n := 0) (by omega) with h | h | ⟨j, h, e⟩
      · exact absurd h h1
      · exact absurd (Int32.lt_of_lt_of_le (show nI 0 - nI 1 < nI 0 by decide) h) h2
      · exact absurd h (Nat.not_lt_zero j)
    · rintro ⟨j, hj, -⟩
      exact absurd hj (Nat.not_lt_zero j)
  | succ m =>
    rw [pk_sub (show 1 ≤ m + 1 by omega)]
    exact q_in_ok (by omega)
/-- a pattern's sides at the reference -/
def q_mok (V : q_V) (p w h : Nat) : Prop := V 73 p = nI w ∧ V 74 p = nI h ∧ 1 ≤ w ∧ w ≤ 8 ∧ 1 ≤ h ∧ h ≤ 6
/-- a sign's sides at the reference -/
def q_sok (V : q_V) (t w h : Nat) : Prop := V 85 t = nI w ∧ V 86 t = nI h ∧ 1 ≤ w ∧ w ≤ 3 ∧ 1 ≤ h ∧ h ≤ 3
def q_mneed (V : q_V) (p w : Nat) (y : Int32) (k : Nat) : Prop := V 75 (48 * p + 8 * (k / w) + k % w) = y
def q_meq (V : q_V) (o w h k p : Nat) (t : Nat) : Prop := V 75 (48 * p + 8 * (t / q_ow k w h) + t % q_ow k w h) = V 75 (48 * o + 8 * (q_src k w h (t % q_ow k w h) (t / q_ow k w h)).2 + (q_src k w h (t % q_ow k w h) (t / q_ow k w h)).1)
/-- the image k of pattern o (w, h) is alike to pattern p (w2, h2) -/
def q_malike (V : q_V) (o w h k p w2 h2 : Nat) : Prop := w2 = q_ow k w h ∧ h2 = q_oh k w h ∧ ∀ t, t < q_ow k w h * q_oh k w h → q_meq V o w h k p t
def q_mseq (V : q_V) (t p sw cn rn : Nat) (k : Nat) : Prop := V 87 (9 * t + k) = V 75 (48 * p + 8 * (rn + k / sw) + (cn + k % sw))
def q_mstands (V : q_V) (t p w h sw sh cn rn : Nat) : Prop := cn + sw ≤ w ∧ rn + sh ≤ h ∧ ∀ k, k < sw * sh → q_mseq V t p sw cn rn k
noncomputable def q_mplaces (V : q_V) (t p w h sw sh : Nat) : Nat := q_ct (fun k => q_mstands V t p w h sw sh (k % 8) (k / 8)) 48
theorem q_div_lt {k w h : Nat} (hk : k < w * h) (hw : 0 < w) : k / w < h := by
  rw [Nat.div_lt_iff_lt_mul hw, Nat.mul_comm]
  exact hk
theorem q_mod_lt {k w : Nat} (hw : 0 < w) : k % w < w := Nat.mod_lt k hw
theorem q_owoh (k : Nat) {w h : Nat} (h1 : 1 ≤ w) (h2 : w ≤ 8) (h3 : 1 ≤ h) (h4 : h ≤ 6) : 1 ≤ q_ow k w h ∧ q_ow k w h ≤ 8 ∧ 1 ≤ q_oh k w h ∧ q_oh k w h ≤ 8 ∧ q_ow k w h * q_oh k w h ≤ 48 := by
  have h6 : w * h ≤ 48 := Nat.mul_le_mul h2 h4
  unfold q_ow q_oh
  by_cases e : k % 2 = 1
  · rw [if_pos e, if_pos e, Nat.mul_comm h w]; omega
  · rw [if_neg e, if_neg e]; omega
