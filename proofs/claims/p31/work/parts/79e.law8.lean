theorem va_AOA.moved {ty : FieldType} {u U : State} (hvm : u.vm.Alike U.vm) (h : va_AOA ty u) : va_AOA ty U := by
  unfold va_AOA Cond.before Cond.holds at h
  simp only [Cond.value] at h
  cases hc : u.vm.findClass (FieldType.array ty).toString with
  | none => simp [hc] at h
  | some comp =>
    simp only [hc, Option.bind_some, beq_iff_eq, Option.bind_eq_some_iff, Option.map_eq_some_iff] at h
    obtain ⟨c, hi, k, hk, hb⟩ := h
    obtain ⟨k', hk', he⟩ := hvm.2.2 _ _ hk
    have hi2 : (U.vm.classes.findIdx? fun (x : Class) => match x.kind with | .array component _ => component == comp | _ => false) = some c := by
      have e1 := va_idx_bare U.vm comp
      have e2 := va_idx_bare u.vm comp
      have e3 : U.vm.bare = u.vm.bare := by first | exact hvm.bare_eq | exact hvm.bare_eq.symm
      rw [e3] at e1
      exact e1.symm.trans (e2.trans hi)
    have f1 : U.vm.findClass (FieldType.array ty).toString = some comp := by rw [hvm.findClass]; exact hc
    have f2 : U.vm.findClass ("[" ++ (FieldType.array ty).toString) = u.vm.findClass ("[" ++ (FieldType.array ty).toString) := by rw [hvm.findClass]
    unfold va_AOA Cond.before Cond.holds
    simp only [Cond.value]
    rw [f1, Option.bind_some]
    refine (congrArg (fun o : Option Nat => (o.bind (fun c => (U.vm.classes[c]?).map fun (k : Class) => match k.kind with | .array _ ty2 => decide (ty2 = FieldType.array ty) && decide (U.vm.findClass ("[" ++ (FieldType.array ty).toString) = some c) | _ => false) == some true)) hi2).trans ?_
    have hk2 : k'.kind = k.kind := by rw [he]
    simp only [Option.bind_some, hk', Option.map_some, hk2, f2]
    exact (congrArg (fun b : Bool => (some b == some true)) hb).trans rfl
/-- what the memory holds at the start -/
def w_V0 : q_V := fun k => if k = 6 then m_fl (fun _ => 0) (-1) 20 else if k = 13 then m_fl (fun _ => 0) (-1) 7 else if k = 14 then m_fl (fun _ => 0) (-1) 7 else if 27 ≤ k ∧ k < 48 then (fun j => if j = 1 then 1 else if j = 2 then 1 else 0) else fun _ => 0
def w_G0 : q_G := fun _ _ => 0
theorem w_V0_0 {k : Nat} (h : k ≠ 6 ∧ k ≠ 13 ∧ k ≠ 14 ∧ ¬ (27 ≤ k ∧ k < 48)) : w_V0 k = fun _ => 0 := by
  unfold w_V0
  rw [if_neg (by omega), if_neg (by omega), if_neg (by omega), if_neg (by omega)]
theorem w_fl_in (x : Int32) (n j : Nat) (h : j < n) (f : Nat → Int32) : m_fl f x n j = x := if_pos h
theorem m_refat {D : va_G} {cl : List vw_C} {q : Nat} {cA : ClassId} {n : Nat} {f g : Nat → Option Nat} {H : Heap} (h : ∀ i, i < n → f i = g i) (hf : va_at D cl (q, .inl (cA, n, .inr (.inr (.inr (.inr f))))) H) : va_at D cl (q, .inl (cA, n, .inr (.inr (.inr (.inr g))))) H := by
  have e : vp_cell cA (n, .inr (.inr (.inr (.inr f)))) = vp_cell cA (n, .inr (.inr (.inr (.inr g)))) := by
    rw [vp_cell_q, vp_cell_q]
    unfold arrV
    congr 1
    apply Array.ext
    · simp
    · intro i h1 h2
      simp only [Array.size_ofFn] at h1
      simp only [Array.getElem_ofFn]
      rw [h i h1]
  show H[q]? = some (vp_cell cA (n, .inr (.inr (.inr (.inr g)))))
  rw [← e]
  exact hf
def w_pos (k : Nat) : Nat := [0, 1, 9, 10, 13, 14, 15, 16, 17, 18, 24, 25, 26, 19, 20, 21, 22, 23, 74, 73, 2, 3, 4, 5, 6, 7, 8, 11, 27, 29, 31, 33, 35, 37, 39, 41, 43, 45, 47, 49, 51, 53, 55, 57, 59, 61, 63, 65, 12, 28, 30, 32, 34, 36, 38, 40, 42, 44, 46, 48, 50, 52, 54, 56, 58, 60, 62, 64, 66, 67, 68, 69, 70, 71, 72].getD k 0
theorem w_pos_inj : ∀ i, i < 75 → ∀ j, j < 75 → w_pos i = w_pos j → i = j := by decide +kernel
/-- all things, as the makers and the law leave them -/
def w_W (q0 : Nat) (a r g1 w1 g2 w2 x : Nat → Nat) (cI cJ cB cQ cM : ClassId) : va_W := m_W2 q0 a r g1 w1 g2 w2 cI cJ cB cQ cM ++ [(x 0, .inl (cI, 18, .inl (fun _ => 0))), (x 1, .inl (cI, 8, .inl (fun _ => 0))), (x 2, .inl (cI, 12, .inl (fun _ => 0))), (x 3, .inl (cI, 64, .inl (fun _ => 0))), (x 4, .inl (cI, 14, .inl (fun _ => 0))), (x 5, .inl (cI, 15, .inl (fun _ => 0))), (x 6, .inl (cJ, 7, .inr (.inl (fun _ => 0)))), (x 7, .inl (cI, 3, .inl (fun _ => 0)))]
def w_ad (q0 : Nat) (a r g1 w1 g2 w2 x : Nat → Nat) : Nat → Nat := fun k => [q0, a 0, a 1, a 2, a 5, a 6, a 7, a 8, a 9, a 10, a 16, a 17, a 18, a 11, a 12, a 13, a 14, a 15, x 7, x 6, r 0, r 1, r 2, r 3, r 4, r 5, r 6, a 3, g1 0, g1 1, g1 2, g1 3, g1 4, g1 5, g1 6, g1 7, g1 8, g1 9, g1 10, g1 11, g2 0, g2 1, g2 2, g2 3, g2 4, g2 5, g2 6, g2 7, a 4, w1 0, w1 1, w1 2, w1 3, w1 4, w1 5, w1 6, w1 7, w1 8, w1 9, w1 10, w1 11, w2 0, w2 1, w2 2, w2 3, w2 4, w2 5, w2 6, w2 7, x 0, x 1, x 2, x 3, x 4, x 5].getD k 0
def w_σ (D : va_G) (q0 : Nat) (a r g1 w1 g2 w2 x : Nat → Nat) (cI cJ cB cQ cM : ClassId) : q_E := (D, w_ad q0 a r g1 w1 g2 w2 x, cI, cJ, cB, cQ, cM)
theorem w_i7 {i : Nat} (h : i < 7) : i = 0 ∨ i = 1 ∨ i = 2 ∨ i = 3 ∨ i = 4 ∨ i = 5 ∨ i = 6 := by omega
theorem w_i8 {i : Nat} (h : i < 8) : i = 0 ∨ i = 1 ∨ i = 2 ∨ i = 3 ∨ i = 4 ∨ i = 5 ∨ i = 6 ∨ i = 7 := by omega
theorem w_i12 {i : Nat} (h : i < 12) : i = 0 ∨ i = 1 ∨ i = 2 ∨ i = 3 ∨ i = 4 ∨ i = 5 ∨ i = 6 ∨ i = 7 ∨ i = 8 ∨ i = 9 ∨ i = 10 ∨ i = 11 := by omega

def m_X (h0 : Nat) (a r g1 g2 : Nat → Nat) (cI cJ cB cQ cM : ClassId) : va_W := [(h0, .inr (2, [.ref (a 0), .ref (a 1), .ref (a 2), .ref (a 3), .ref (a 5), .ref (a 6), .int 0, .ref (a 7), .ref (a 8), .ref (a 9), .ref (a 10), .ref (a 16), .ref (a 17), .int 0, .ref (a 18)])), (a 0, .inl (cM, 7, .inr (.inr (.inr (.inr (m_ref r 7)))))), (r 0, .inl (cI, 8, .inl (fun _ => 0))), (r 1, .inl (cI, 8, .inl (fun _ => 0))), (r 2, .inl (cI, 8, .inl (fun _ => 0))), (r 3, .inl (cI, 8, .inl (fun _ => 0))), (r 4, .inl (cI, 8, .inl (fun _ => 0))), (r 5, .inl (cI, 8, .inl (fun _ => 0))), (r 6, .inl (cI, 8, .inl (fun _ => 0))), (a 1, .inl (cI, 8, .inl (fun _ => 0))), (a 2, .inl (cI, 8, .inl (fun _ => 0))), (a 3, .inr (1, [.ref (a 4), .int 1, .int 1])), (a 4, .inl (cI, 48, .inl (fun _ => 0))), (a 5, .inl (cQ, 12, .inr (.inr (.inr (.inr (m_ref g1 12)))))), (a 6, .inl (cI, 12, .inl (fun _ => 0))), (a 7, .inl (cI, 20, .inl (m_fl (fun _ => 0) (-1) 20))), (a 8, .inl (cI, 20, .inl (fun _ => 0))), (a 9, .inl (cI, 7, .inl (fun _ => 0))), (a 10, .inr (0, [.ref (a 11), .ref (a 12), .ref (a 13), .ref (a 14), .ref (a 15), .int 0])), (a 11, .inl (cI, 7, .inl (m_fl (fun _ => 0) (-1) 7))), (a 12, .inl (cI, 7, .inl (m_fl (fun _ => 0) (-1) 7))), (a 13, .inl (cB, 7, .inl (fun _ => 0))), (a 14, .inl (cI, 7, .inl (fun _ => 0))), (a 15, .inl (cI, 7, .inl (fun _ => 0))), (a 16, .inl (cQ, 8, .inr (.inr (.inr (.inr (m_ref g2 8)))))), (a 17, .inl (cI, 8, .inl (fun _ => 0))), (a 18, .inl (cJ, 7, .inr (.inl (fun _ => 0))))]
theorem m_Y_len {cI : ClassId} {g w : Nat → Nat} : ∀ n : Nat, (m_Y cI g w n).length = 2 * n
  | 0 => rfl
  | n + 1 => by
    unfold m_Y
    rw [List.length_append, m_Y_len n]
    rfl
theorem m_Y_g {cI : ClassId} {g w : Nat → Nat} {i : Nat} : ∀ n : Nat, i < n → (m_Y cI g w n)[2 * i]? = some (g i, .inr (1, [.ref (w i), .int 1, .int 1]))
  | 0, h => absurd h (Nat.not_lt_zero _)
  | n + 1, h => by
    unfold m_Y
    by_cases e : i = n
    · subst e
      rw [List.getElem?_append_right (by rw [m_Y_len]; omega), m_Y_len, Nat.sub_self]
      rfl
    · rw [List.getElem?_append_left (by rw [m_Y_len]; omega)]
      exact m_Y_g n (by omega)
theorem m_Y_w {cI : ClassId} {g w : Nat → Nat} {i : Nat} : ∀ n : Nat, i < n → (m_Y cI g w n)[2 * i + 1]? = some (w i, .inl (cI, 48, .inl (fun _ => 0)))
  | 0, h => absurd h (Nat.not_lt_zero _)
  | n + 1, h => by
    unfold m_Y
    by_cases e : i = n
    · subst e
      rw [List.getElem?_append_right (by rw [m_Y_len]; omega), m_Y_len, Nat.add_sub_cancel_left]
      rfl
    · rw [List.getElem?_append_left (by rw [m_Y_len]; omega)]
      exact m_Y_w n (by omega)
theorem w_lk (A B C D : va_W) (hA : A.length = 27) (hB : B.length = 24) (hC : C.length = 16) : (∀ i, i < 27 → ((A ++ (B ++ C)) ++ D)[i]? = A[i]?) ∧ (∀ i, i < 24 → ((A ++ (B ++ C)) ++ D)[27 + i]? = B[i]?) ∧ (∀ i, i < 16 → ((A ++ (B ++ C)) ++ D)[51 + i]? = C[i]?) ∧ (∀ i : Nat, ((A ++ (B ++ C)) ++ D)[67 + i]? = D[i]?) := by
  have l1 : (B ++ C).length = 40 := by rw [List.length_append, hB, hC]
  have l2 : (A ++ (B ++ C)).length = 67 := by rw [List.length_append, hA, l1]
  refine ⟨fun i hi => ?_, fun i hi => ?_, fun i hi => ?_, fun i => ?_⟩
  · rw [List.getElem?_append_left (by omega), List.getElem?_append_left (by omega)]
  · rw [List.getElem?_append_left (by omega), List.getElem?_append_right (by omega), List.getElem?_append_left (by omega), hA, Nat.add_sub_cancel_left]
  · rw [List.getElem?_append_left (by omega), List.getElem?_append_right (by omega), List.getElem?_append_right (by omega), hA, hB, show 51 + i - 27 - 24 = i by omega]
  · rw [List.getElem?_append_right (by omega), l2, Nat.add_sub_cancel_left]
theorem w_lks (q0 : Nat) (a r g1 w1 g2 w2 x : Nat → Nat) (cI cJ cB cQ cM : ClassId) : (∀ i, i < 27 → (w_W q0 a r g1 w1 g2 w2 x cI cJ cB cQ cM)[i]? = (m_X q0 a r g1 g2 cI cJ cB cQ cM)[i]?) ∧ (∀ i, i < 24 → (w_W q0 a r g1 w1 g2 w2 x cI cJ cB cQ cM)[27 + i]? = (m_Y cI g1 w1 12)[i]?) ∧ (∀ i, i < 16 → (w_W q0 a r g1 w1 g2 w2 x cI cJ cB cQ cM)[51 + i]? = (m_Y cI g2 w2 8)[i]?) ∧ (∀ i : Nat, (w_W q0 a r g1 w1 g2 w2 x cI cJ cB cQ cM)[67 + i]? = ([(x 0, .inl (cI, 18, .inl (fun _ => 0))), (x 1, .inl (cI, 8, .inl (fun _ => 0))), (x 2, .inl (cI, 12, .inl (fun _ => 0))), (x 3, .inl (cI, 64, .inl (fun _ => 0))), (x 4, .inl (cI, 14, .inl (fun _ => 0))), (x 5, .inl (cI, 15, .inl (fun _ => 0))), (x 6, .inl (cJ, 7, .inr (.inl (fun _ => 0)))), (x 7, .inl (cI, 3, .inl (fun _ => 0)))] : va_W)[i]?) := w_lk (m_X q0 a r g1 g2 cI cJ cB cQ cM) (m_Y cI g1 w1 12) (m_Y cI g2 w2 8) [(x 0, .inl (cI, 18, .inl (fun _ => 0))), (x 1, .inl (cI, 8, .inl (fun _ => 0))), (x 2, .inl (cI, 12, .inl (fun _ => 0))), (x 3, .inl (cI, 64, .inl (fun _ => 0))), (x 4, .inl (cI, 14, .inl (fun _ => 0))), (x 5, .inl (cI, 15, .inl (fun _ => 0))), (x 6, .inl (cJ, 7, .inr (.inl (fun _ => 0)))), (x 7, .inl (cI, 3, .inl (fun _ => 0)))] rfl (m_Y_len 12) (m_Y_len 8)
set_option maxRecDepth 20000 in
theorem w_at0 (D : va_G) (q0 : Nat) (a r g1 w1 g2 w2 x : Nat → Nat) (cI cJ cB cQ cM : ClassId) : ∃ e, (w_W q0 a r g1 w1 g2 w2 x cI cJ cB cQ cM)[0]? = some ((w_σ D q0 a r g1 w1 g2 w2 x cI cJ cB cQ cM).2.1 0, e) ∧ ∀ H, va_at D vwCl ((w_σ D q0 a r g1 w1 g2 w2 x cI cJ cB cQ cM).2.1 0, e) H → va_at D vwCl ((w_σ D q0 a r g1 w1 g2 w2 x cI cJ cB cQ cM).2.1 0, q_en (w_σ D q0 a r g1 w1 g2 w2 x cI cJ cB cQ cM) 0 (w_V0 0) (w_G0 0)) H := ⟨_, (((w_lks q0 a r g1 w1 g2 w2 x cI cJ cB cQ cM).1 0 (by omega)).trans rfl), fun H h => h⟩
set_option maxRecDepth 20000 in
theorem w_at1 (D : va_G) (q0 : Nat) (a r g1 w1 g2 w2 x : Nat → Nat) (cI cJ cB cQ cM : ClassId) : ∃ e, (w_W q0 a r g1 w1 g2 w2 x cI cJ cB cQ cM)[1]? = some ((w_σ D q0 a r g1 w1 g2 w2 x cI cJ cB cQ cM).2.1 1, e) ∧ ∀ H, va_at D vwCl ((w_σ D q0 a r g1 w1 g2 w2 x cI cJ cB cQ cM).2.1 1, e) H → va_at D vwCl ((w_σ D q0 a r g1 w1 g2 w2 x cI cJ cB cQ cM).2.1 1, q_en (w_σ D q0 a r g1 w1 g2 w2 x cI cJ cB cQ cM) 1 (w_V0 1) (w_G0 1)) H := ⟨_, (((w_lks q0 a r g1 w1 g2 w2 x cI cJ cB cQ cM).1 1 (by omega)).trans rfl), fun H h => m_refat (fun i hi => by rcases w_i7 hi with rfl | rfl | rfl | rfl | rfl | rfl | rfl <;> rfl) h⟩
set_option maxRecDepth 20000 in
theorem w_at2 (D : va_G) (q0 : Nat) (a r g1 w1 g2 w2 x : Nat → Nat) (cI cJ cB cQ cM : ClassId) : ∃ e, (w_W q0 a r g1 w1 g2 w2 x cI cJ cB cQ cM)[9]? = some ((w_σ D q0 a r g1 w1 g2 w2 x cI cJ cB cQ cM).2.1 2, e) ∧ ∀ H, va_at D vwCl ((w_σ D q0 a r g1 w1 g2 w2 x cI cJ cB cQ cM).2.1 2, e) H → va_at D vwCl ((w_σ D q0 a r g1 w1 g2 w2 x cI cJ cB cQ cM).2.1 2, q_en (w_σ D q0 a r g1 w1 g2 w2 x cI cJ cB cQ cM) 2 (w_V0 2) (w_G0 2)) H := ⟨_, (((w_lks q0 a r g1 w1 g2 w2 x cI cJ cB cQ cM).1 9 (by omega)).trans rfl), fun H h => h⟩
set_option maxRecDepth 20000 in
theorem w_at3 (D : va_G) (q0 : Nat) (a r g1 w1 g2 w2 x : Nat → Nat) (cI cJ cB cQ cM : ClassId) : ∃ e, (w_W q0 a r g1 w1 g2 w2 x cI cJ cB cQ cM)[10]? = some ((w_σ D q0 a r g1 w1 g2 w2 x cI cJ cB cQ cM).2.1 3, e) ∧ ∀ H, va_at D vwCl ((w_σ D q0 a r g1 w1 g2 w2 x cI cJ cB cQ cM).2.1 3, e) H → va_at D vwCl ((w_σ D q0 a r g1 w1 g2 w2 x cI cJ cB cQ cM).2.1 3, q_en (w_σ D q0 a r g1 w1 g2 w2 x cI cJ cB cQ cM) 3 (w_V0 3) (w_G0 3)) H := ⟨_, (((w_lks q0 a r g1 w1 g2 w2 x cI cJ cB cQ cM).1 10 (by omega)).trans rfl), fun H h => h⟩
set_option maxRecDepth 20000 in
theorem w_at4 (D : va_G) (q0 : Nat) (a r g1 w1 g2 w2 x : Nat → Nat) (cI cJ cB cQ cM : ClassId) : ∃ e, (w_W q0 a r g1 w1 g2 w2 x cI cJ cB cQ cM)[13]? = some ((w_σ D q0 a r g1 w1 g2 w2 x cI cJ cB cQ cM).2.1 4, e) ∧ ∀ H, va_at D vwCl ((w_σ D q0 a r g1 w1 g2 w2 x cI cJ cB cQ cM).2.1 4, e) H → va_at D vwCl ((w_σ D q0 a r g1 w1 g2 w2 x cI cJ cB cQ cM).2.1 4, q_en (w_σ D q0 a r g1 w1 g2 w2 x cI cJ cB cQ cM) 4 (w_V0 4) (w_G0 4)) H := ⟨_, (((w_lks q0 a r g1 w1 g2 w2 x cI cJ cB cQ cM).1 13 (by omega)).trans rfl), fun H h => m_refat (fun i hi => by rcases w_i12 hi with rfl | rfl | rfl | rfl | rfl | rfl | rfl | rfl | rfl | rfl | rfl | rfl <;> rfl) h⟩
set_option maxRecDepth 20000 in
theorem w_at5 (D : va_G) (q0 : Nat) (a r g1 w1 g2 w2 x : Nat → Nat) (cI cJ cB cQ cM : ClassId) : ∃ e, (w_W q0 a r g1 w1 g2 w2 x cI cJ cB cQ cM)[14]? = some ((w_σ D q0 a r g1 w1 g2 w2 x cI cJ cB cQ cM).2.1 5, e) ∧ ∀ H, va_at D vwCl ((w_σ D q0 a r g1 w1 g2 w2 x cI cJ cB cQ cM).2.1 5, e) H → va_at D vwCl ((w_σ D q0 a r g1 w1 g2 w2 x cI cJ cB cQ cM).2.1 5, q_en (w_σ D q0 a r g1 w1 g2 w2 x cI cJ cB cQ cM) 5 (w_V0 5) (w_G0 5)) H := ⟨_, (((w_lks q0 a r g1 w1 g2 w2 x cI cJ cB cQ cM).1 14 (by omega)).trans rfl), fun H h => h⟩
set_option maxRecDepth 20000 in
theorem w_at6 (D : va_G) (q0 : Nat) (a r g1 w1 g2 w2 x : Nat → Nat) (cI cJ cB cQ cM : ClassId) : ∃ e, (w_W q0 a r g1 w1 g2 w2 x cI cJ cB cQ cM)[15]? = some ((w_σ D q0 a r g1 w1 g2 w2 x cI cJ cB cQ cM).2.1 6, e) ∧ ∀ H, va_at D vwCl ((w_σ D q0 a r g1 w1 g2 w2 x cI cJ cB cQ cM).2.1 6, e) H → va_at D vwCl ((w_σ D q0 a r g1 w1 g2 w2 x cI cJ cB cQ cM).2.1 6, q_en (w_σ D q0 a r g1 w1 g2 w2 x cI cJ cB cQ cM) 6 (w_V0 6) (w_G0 6)) H := ⟨_, (((w_lks q0 a r g1 w1 g2 w2 x cI cJ cB cQ cM).1 15 (by omega)).trans rfl), fun H h => h⟩
set_option maxRecDepth 20000 in
theorem w_at7 (D : va_G) (q0 : Nat) (a r g1 w1 g2 w2 x : Nat → Nat) (cI cJ cB cQ cM : ClassId) : ∃ e, (w_W q0 a r g1 w1 g2 w2 x cI cJ cB cQ cM)[16]? = some ((w_σ D q0 a r g1 w1 g2 w2 x cI cJ cB cQ cM).2.1 7, e) ∧ ∀ H, va_at D vwCl ((w_σ D q0 a r g1 w1 g2 w2 x cI cJ cB cQ cM).2.1 7, e) H → va_at D vwCl ((w_σ D q0 a r g1 w1 g2 w2 x cI cJ cB cQ cM).2.1 7, q_en (w_σ D q0 a r g1 w1 g2 w2 x cI cJ cB cQ cM) 7 (w_V0 7) (w_G0 7)) H := ⟨_, (((w_lks q0 a r g1 w1 g2 w2 x cI cJ cB cQ cM).1 16 (by omega)).trans rfl), fun H h => h⟩
set_option maxRecDepth 20000 in
theorem w_at8 (D : va_G) (q0 : Nat) (a r g1 w1 g2 w2 x : Nat → Nat) (cI cJ cB cQ cM : ClassId) : ∃ e, (w_W q0 a r g1 w1 g2 w2 x cI cJ cB cQ cM)[17]? = some ((w_σ D q0 a r g1 w1 g2 w2 x cI cJ cB cQ cM).2.1 8, e) ∧ ∀ H, va_at D vwCl ((w_σ D q0 a r g1 w1 g2 w2 x cI cJ cB cQ cM).2.1 8, e) H → va_at D vwCl ((w_σ D q0 a r g1 w1 g2 w2 x cI cJ cB cQ cM).2.1 8, q_en (w_σ D q0 a r g1 w1 g2 w2 x cI cJ cB cQ cM) 8 (w_V0 8) (w_G0 8)) H := ⟨_, (((w_lks q0 a r g1 w1 g2 w2 x cI cJ cB cQ cM).1 17 (by omega)).trans rfl), fun H h => h⟩
set_option maxRecDepth 20000 in
theorem w_at9 (D : va_G) (q0 : Nat) (a r g1 w1 g2 w2 x : Nat → Nat) (cI cJ cB cQ cM : ClassId) : ∃ e, (w_W q0 a r g1 w1 g2 w2 x cI cJ cB cQ cM)[18]? = some ((w_σ D q0 a r g1 w1 g2 w2 x cI cJ cB cQ cM).2.1 9, e) ∧ ∀ H, va_at D vwCl ((w_σ D q0 a r g1 w1 g2 w2 x cI cJ cB cQ cM).2.1 9, e) H → va_at D vwCl ((w_σ D q0 a r g1 w1 g2 w2 x cI cJ cB cQ cM).2.1 9, q_en (w_σ D q0 a r g1 w1 g2 w2 x cI cJ cB cQ cM) 9 (w_V0 9) (w_G0 9)) H := ⟨_, (((w_lks q0 a r g1 w1 g2 w2 x cI cJ cB cQ cM).1 18 (by omega)).trans rfl), fun H h => h⟩
set_option maxRecDepth 20000 in
theorem w_at10 (D : va_G) (q0 : Nat) (a r g1 w1 g2 w2 x : Nat → Nat) (cI cJ cB cQ cM : ClassId) : ∃ e, (w_W q0 a r g1 w1 g2 w2 x cI cJ cB cQ cM)[24]? = some ((w_σ D q0 a r g1 w1 g2 w2 x cI cJ cB cQ cM).2.1 10, e) ∧ ∀ H, va_at D vwCl ((w_σ D q0 a r g1 w1 g2 w2 x cI cJ cB cQ cM).2.1 10, e) H → va_at D vwCl ((w_σ D q0 a r g1 w1 g2 w2 x cI cJ cB cQ cM).2.1 10, q_en (w_σ D q0 a r g1 w1 g2 w2 x cI cJ cB cQ cM) 10 (w_V0 10) (w_G0 10)) H := ⟨_, (((w_lks q0 a r g1 w1 g2 w2 x cI cJ cB cQ cM).1 24 (by omega)).trans rfl), fun H h => m_refat (fun i hi => by rcases w_i8 hi with rfl | rfl | rfl | rfl | rfl | rfl | rfl | rfl <;> rfl) h⟩
set_option maxRecDepth 20000 in
theorem w_at11 (D : va_G) (q0 : Nat) (a r g1 w1 g2 w2 x : Nat → Nat) (cI cJ cB cQ cM : ClassId) : ∃ e, (w_W q0 a r g1 w1 g2 w2 x cI cJ cB cQ cM)[25]? = some ((w_σ D q0 a r g1 w1 g2 w2 x cI cJ cB cQ cM).2.1 11, e) ∧ ∀ H, va_at D vwCl ((w_σ D q0 a r g1 w1 g2 w2 x cI cJ cB cQ cM).2.1 11, e) H → va_at D vwCl ((w_σ D q0 a r g1 w1 g2 w2 x cI cJ cB cQ cM).2.1 11, q_en (w_σ D q0 a r g1 w1 g2 w2 x cI cJ cB cQ cM) 11 (w_V0 11) (w_G0 11)) H := ⟨_, (((w_lks q0 a r g1 w1 g2 w2 x cI cJ cB cQ cM).1 25 (by omega)).trans rfl), fun H h => h⟩
set_option maxRecDepth 20000 in
theorem w_at12 (D : va_G) (q0 : Nat) (a r g1 w1 g2 w2 x : Nat → Nat) (cI cJ cB cQ cM : ClassId) : ∃ e, (w_W q0 a r g1 w1 g2 w2 x cI cJ cB cQ cM)[26]? = some ((w_σ D q0 a r g1 w1 g2 w2 x cI cJ cB cQ cM).2.1 12, e) ∧ ∀ H, va_at D vwCl ((w_σ D q0 a r g1 w1 g2 w2 x cI cJ cB cQ cM).2.1 12, e) H → va_at D vwCl ((w_σ D q0 a r g1 w1 g2 w2 x cI cJ cB cQ cM).2.1 12, q_en (w_σ D q0 a r g1 w1 g2 w2 x cI cJ cB cQ cM) 12 (w_V0 12) (w_G0 12)) H := ⟨_, (((w_lks q0 a r g1 w1 g2 w2 x cI cJ cB cQ cM).1 26 (by omega)).trans rfl), fun H h => h⟩
set_option maxRecDepth 20000 in
theorem w_at13 (D : va_G) (q0 : Nat) (a r g1 w1 g2 w2 x : Nat → Nat) (cI cJ cB cQ cM : ClassId) : ∃ e, (w_W q0 a r g1 w1 g2 w2 x cI cJ cB cQ cM)[19]? = some ((w_σ D q0 a r g1 w1 g2 w2 x cI cJ cB cQ cM).2.1 13, e) ∧ ∀ H, va_at D vwCl ((w_σ D q0 a r g1 w1 g2 w2 x cI cJ cB cQ cM).2.1 13, e) H → va_at D vwCl ((w_σ D q0 a r g1 w1 g2 w2 x cI cJ cB cQ cM).2.1 13, q_en (w_σ D q0 a r g1 w1 g2 w2 x cI cJ cB cQ cM) 13 (w_V0 13) (w_G0 13)) H := ⟨_, (((w_lks q0 a r g1 w1 g2 w2 x cI cJ cB cQ cM).1 19 (by omega)).trans rfl), fun H h => h⟩
set_option maxRecDepth 20000 in
theorem w_at14 (D : va_G) (q0 : Nat) (a r g1 w1 g2 w2 x : Nat → Nat) (cI cJ cB cQ cM : ClassId) : ∃ e, (w_W q0 a r g1 w1 g2 w2 x cI cJ cB cQ cM)[20]? = some ((w_σ D q0 a r g1 w1 g2 w2 x cI cJ cB cQ cM).2.1 14, e) ∧ ∀ H, va_at D vwCl ((w_σ D q0 a r g1 w1 g2 w2 x cI cJ cB cQ cM).2.1 14, e) H → va_at D vwCl ((w_σ D q0 a r g1 w1 g2 w2 x cI cJ cB cQ cM).2.1 14, q_en (w_σ D q0 a r g1 w1 g2 w2 x cI cJ cB cQ cM) 14 (w_V0 14) (w_G0 14)) H := ⟨_, (((w_lks q0 a r g1 w1 g2 w2 x cI cJ cB cQ cM).1 20 (by omega)).trans rfl), fun H h => h⟩
set_option maxRecDepth 20000 in
theorem w_at15 (D : va_G) (q0 : Nat) (a r g1 w1 g2 w2 x : Nat → Nat) (cI cJ cB cQ cM : ClassId) : ∃ e, (w_W q0 a r g1 w1 g2 w2 x cI cJ cB cQ cM)[21]? = some ((w_σ D q0 a r g1 w1 g2 w2 x cI cJ cB cQ cM).2.1 15, e) ∧ ∀ H, va_at D vwCl ((w_σ D q0 a r g1 w1 g2 w2 x cI cJ cB cQ cM).2.1 15, e) H → va_at D vwCl ((w_σ D q0 a r g1 w1 g2 w2 x cI cJ cB cQ cM).2.1 15, q_en (w_σ D q0 a r g1 w1 g2 w2 x cI cJ cB cQ cM) 15 (w_V0 15) (w_G0 15)) H := ⟨_, (((w_lks q0 a r g1 w1 g2 w2 x cI cJ cB cQ cM).1 21 (by omega)).trans rfl), fun H h => h⟩
set_option maxRecDepth 20000 in
theorem w_at16 (D : va_G) (q0 : Nat) (a r g1 w1 g2 w2 x : Nat → Nat) (cI cJ cB cQ cM : ClassId) : ∃ e, (w_W q0 a r g1 w1 g2 w2 x cI cJ cB cQ cM)[22]? = some ((w_σ D q0 a r g1 w1 g2 w2 x cI cJ cB cQ cM).2.1 16, e) ∧ ∀ H, va_at D vwCl ((w_σ D q0 a r g1 w1 g2 w2 x cI cJ cB cQ cM).2.1 16, e) H → va_at D vwCl ((w_σ D q0 a r g1 w1 g2 w2 x cI cJ cB cQ cM).2.1 16, q_en (w_σ D q0 a r g1 w1 g2 w2 x cI cJ cB cQ cM) 16 (w_V0 16) (w_G0 16)) H := ⟨_, (((w_lks q0 a r g1 w1 g2 w2 x cI cJ cB cQ cM).1 22 (by omega)).trans rfl), fun H h => h⟩
set_option maxRecDepth 20000 in
theorem w_at17 (D : va_G) (q0 : Nat) (a r g1 w1 g2 w2 x : Nat → Nat) (cI cJ cB cQ cM : ClassId) : ∃ e, (w_W q0 a r g1 w1 g2 w2 x cI cJ cB cQ cM)[23]? = some ((w_σ D q0 a r g1 w1 g2 w2 x cI cJ cB cQ cM).2.1 17, e) ∧ ∀ H, va_at D vwCl ((w_σ D q0 a r g1 w1 g2 w2 x cI cJ cB cQ cM).2.1 17, e) H → va_at D vwCl ((w_σ D q0 a r g1 w1 g2 w2 x cI cJ cB cQ cM).2.1 17, q_en (w_σ D q0 a r g1 w1 g2 w2 x cI cJ cB cQ cM) 17 (w_V0 17) (w_G0 17)) H := ⟨_, (((w_lks q0 a r g1 w1 g2 w2 x cI cJ cB cQ cM).1 23 (by omega)).trans rfl), fun H h => h⟩
set_option maxRecDepth 20000 in
theorem w_at18 (D : va_G) (q0 : Nat) (a r g1 w1 g2 w2 x : Nat → Nat) (cI cJ cB cQ cM : ClassId) : ∃ e, (w_W q0 a r g1 w1 g2 w2 x cI cJ cB cQ cM)[74]? = some ((w_σ D q0 a r g1 w1 g2 w2 x cI cJ cB cQ cM).2.1 18, e) ∧ ∀ H, va_at D vwCl ((w_σ D q0 a r g1 w1 g2 w2 x cI cJ cB cQ cM).2.1 18, e) H → va_at D vwCl ((w_σ D q0 a r g1 w1 g2 w2 x cI cJ cB cQ cM).2.1 18, q_en (w_σ D q0 a r g1 w1 g2 w2 x cI cJ cB cQ cM) 18 (w_V0 18) (w_G0 18)) H := ⟨_, (((w_lks q0 a r g1 w1 g2 w2 x cI cJ cB cQ cM).2.2.2 7).trans rfl), fun H h => h⟩
set_option maxRecDepth 20000 in
theorem w_at19 (D : va_G) (q0 : Nat) (a r g1 w1 g2 w2 x : Nat → Nat) (cI cJ cB cQ cM : ClassId) : ∃ e, (w_W q0 a r g1 w1 g2 w2 x cI cJ cB cQ cM)[73]? = some ((w_σ D q0 a r g1 w1 g2 w2 x cI cJ cB cQ cM).2.1 19, e) ∧ ∀ H, va_at D vwCl ((w_σ D q0 a r g1 w1 g2 w2 x cI cJ cB cQ cM).2.1 19, e) H → va_at D vwCl ((w_σ D q0 a r g1 w1 g2 w2 x cI cJ cB cQ cM).2.1 19, q_en (w_σ D q0 a r g1 w1 g2 w2 x cI cJ cB cQ cM) 19 (w_V0 19) (w_G0 19)) H := ⟨_, (((w_lks q0 a r g1 w1 g2 w2 x cI cJ cB cQ cM).2.2.2 6).trans rfl), fun H h => h⟩
set_option maxRecDepth 20000 in
theorem w_at20 (D : va_G) (q0 : Nat) (a r g1 w1 g2 w2 x : Nat → Nat) (cI cJ cB cQ cM : ClassId) : ∃ e, (w_W q0 a r g1 w1 g2 w2 x cI cJ cB cQ cM)[2]? = some ((w_σ D q0 a r g1 w1 g2 w2 x cI cJ cB cQ cM).2.1 20, e) ∧ ∀ H, va_at D vwCl ((w_σ D q0 a r g1 w1 g2 w2 x cI cJ cB cQ cM).2.1 20, e) H → va_at D vwCl ((w_σ D q0 a r g1 w1 g2 w2 x cI cJ cB cQ cM).2.1 20, q_en (w_σ D q0 a r g1 w1 g2 w2 x cI cJ cB cQ cM) 20 (w_V0 20) (w_G0 20)) H := ⟨_, (((w_lks q0 a r g1 w1 g2 w2 x cI cJ cB cQ cM).1 2 (by omega)).trans rfl), fun H h => h⟩
set_option maxRecDepth 20000 in
theorem w_at21 (D : va_G) (q0 : Nat) (a r g1 w1 g2 w2 x : Nat → Nat) (cI cJ cB cQ cM : ClassId) : ∃ e, (w_W q0 a r g1 w1 g2 w2 x cI cJ cB cQ cM)[3]? = some ((w_σ D q0 a r g1 w1 g2 w2 x cI cJ cB cQ cM).2.1 21, e) ∧ ∀ H, va_at D vwCl ((w_σ D q0 a r g1 w1 g2 w2 x cI cJ cB cQ cM).2.1 21, e) H → va_at D vwCl ((w_σ D q0 a r g1 w1 g2 w2 x cI cJ cB cQ cM).2.1 21, q_en (w_σ D q0 a r g1 w1 g2 w2 x cI cJ cB cQ cM) 21 (w_V0 21) (w_G0 21)) H := ⟨_, (((w_lks q0 a r g1 w1 g2 w2 x cI cJ cB cQ cM).1 3 (by omega)).trans rfl), fun H h => h⟩
set_option maxRecDepth 20000 in
theorem w_at22 (D : va_G) (q0 : Nat) (a r g1 w1 g2 w2 x : Nat → Nat) (cI cJ cB cQ cM : ClassId) : ∃ e, (w_W q0 a r g1 w1 g2 w2 x cI cJ cB cQ cM)[4]? = some ((w_σ D q0 a r g1 w1 g2 w2 x cI cJ cB cQ cM).2.1 22, e) ∧ ∀ H, va_at D vwCl ((w_σ D q0 a r g1 w1 g2 w2 x cI cJ cB cQ cM).2.1 22, e) H → va_at D vwCl ((w_σ D q0 a r g1 w1 g2 w2 x cI cJ cB cQ cM).2.1 22, q_en (w_σ D q0 a r g1 w1 g2 w2 x cI cJ cB cQ cM) 22 (w_V0 22) (w_G0 22)) H := ⟨_, (((w_lks q0 a r g1 w1 g2 w2 x cI cJ cB cQ cM).1 4 (by omega)).trans rfl), fun H h => h⟩
set_option maxRecDepth 20000 in
theorem w_at23 (D : va_G) (q0 : Nat) (a r g1 w1 g2 w2 x : Nat → Nat) (cI cJ cB cQ cM : ClassId) : ∃ e, (w_W q0 a r g1 w1 g2 w2 x cI cJ cB cQ cM)[5]? = some ((w_σ D q0 a r g1 w1 g2 w2 x cI cJ cB cQ cM).2.1 23, e) ∧ ∀ H, va_at D vwCl ((w_σ D q0 a r g1 w1 g2 w2 x cI cJ cB cQ cM).2.1 23, e) H → va_at D vwCl ((w_σ D q0 a r g1 w1 g2 w2 x cI cJ cB cQ cM).2.1 23, q_en (w_σ D q0 a r g1 w1 g2 w2 x cI cJ cB cQ cM) 23 (w_V0 23) (w_G0 23)) H := ⟨_, (((w_lks q0 a r g1 w1 g2 w2 x cI cJ cB cQ cM).1 5 (by omega)).trans rfl), fun H h => h⟩
set_option maxRecDepth 20000 in
theorem w_at24 (D : va_G) (q0 : Nat) (a r g1 w1 g2 w2 x : Nat → Nat) (cI cJ cB cQ cM : ClassId) : ∃ e, (w_W q0 a r g1 w1 g2 w2 x cI cJ cB cQ cM)[6]? = some ((w_σ D q0 a r g1 w1 g2 w2 x cI cJ cB cQ cM).2.1 24, e) ∧ ∀ H, va_at D vwCl ((w_σ D q0 a r g1 w1 g2 w2 x cI cJ cB cQ cM).2.1 24, e) H → va_at D vwCl ((w_σ D q0 a r g1 w1 g2 w2 x cI cJ cB cQ cM).2.1 24, q_en (w_σ D q0 a r g1 w1 g2 w2 x cI cJ cB cQ cM) 24 (w_V0 24) (w_G0 24)) H := ⟨_, (((w_lks q0 a r g1 w1 g2 w2 x cI cJ cB cQ cM).1 6 (by omega)).trans rfl), fun H h => h⟩
set_option maxRecDepth 20000 in
theorem w_at25 (D : va_G) (q0 : Nat) (a r g1 w1 g2 w2 x : Nat → Nat) (cI cJ cB cQ cM : ClassId) : ∃ e, (w_W q0 a r g1 w1 g2 w2 x cI cJ cB cQ cM)[7]? = some ((w_σ D q0 a r g1 w1 g2 w2 x cI cJ cB cQ cM).2.1 25, e) ∧ ∀ H, va_at D vwCl ((w_σ D q0 a r g1 w1 g2 w2 x cI cJ cB cQ cM).2.1 25, e) H → va_at D vwCl ((w_σ D q0 a r g1 w1 g2 w2 x cI cJ cB cQ cM).2.1 25, q_en (w_σ D q0 a r g1 w1 g2 w2 x cI cJ cB cQ cM) 25 (w_V0 25) (w_G0 25)) H := ⟨_, (((w_lks q0 a r g1 w1 g2 w2 x cI cJ cB cQ cM).1 7 (by omega)).trans rfl), fun H h => h⟩
set_option maxRecDepth 20000 in
theorem w_at26 (D : va_G) (q0 : Nat) (a r g1 w1 g2 w2 x : Nat → Nat) (cI cJ cB cQ cM : ClassId) : ∃ e, (w_W q0 a r g1 w1 g2 w2 x cI cJ cB cQ cM)[8]? = some ((w_σ D q0 a r g1 w1 g2 w2 x cI cJ cB cQ cM).2.1 26, e) ∧ ∀ H, va_at D vwCl ((w_σ D q0 a r g1 w1 g2 w2 x cI cJ cB cQ cM).2.1 26, e) H → va_at D vwCl ((w_σ D q0 a r g1 w1 g2 w2 x cI cJ cB cQ cM).2.1 26, q_en (w_σ D q0 a r g1 w1 g2 w2 x cI cJ cB cQ cM) 26 (w_V0 26) (w_G0 26)) H := ⟨_, (((w_lks q0 a r g1 w1 g2 w2 x cI cJ cB cQ cM).1 8 (by omega)).trans rfl), fun H h => h⟩
set_option maxRecDepth 20000 in
theorem w_at27 (D : va_G) (q0 : Nat) (a r g1 w1 g2 w2 x : Nat → Nat) (cI cJ cB cQ cM : ClassId) : ∃ e, (w_W q0 a r g1 w1 g2 w2 x cI cJ cB cQ cM)[11]? = some ((w_σ D q0 a r g1 w1 g2 w2 x cI cJ cB cQ cM).2.1 27, e) ∧ ∀ H, va_at D vwCl ((w_σ D q0 a r g1 w1 g2 w2 x cI cJ cB cQ cM).2.1 27, e) H → va_at D vwCl ((w_σ D q0 a r g1 w1 g2 w2 x cI cJ cB cQ cM).2.1 27, q_en (w_σ D q0 a r g1 w1 g2 w2 x cI cJ cB cQ cM) 27 (w_V0 27) (w_G0 27)) H := ⟨_, (((w_lks q0 a r g1 w1 g2 w2 x cI cJ cB cQ cM).1 11 (by omega)).trans rfl), fun H h => h⟩
set_option maxRecDepth 20000 in
theorem w_at28 (D : va_G) (q0 : Nat) (a r g1 w1 g2 w2 x : Nat → Nat) (cI cJ cB cQ cM : ClassId) : ∃ e, (w_W q0 a r g1 w1 g2 w2 x cI cJ cB cQ cM)[27]? = some ((w_σ D q0 a r g1 w1 g2 w2 x cI cJ cB cQ cM).2.1 28, e) ∧ ∀ H, va_at D vwCl ((w_σ D q0 a r g1 w1 g2 w2 x cI cJ cB cQ cM).2.1 28, e) H → va_at D vwCl ((w_σ D q0 a r g1 w1 g2 w2 x cI cJ cB cQ cM).2.1 28, q_en (w_σ D q0 a r g1 w1 g2 w2 x cI cJ cB cQ cM) 28 (w_V0 28) (w_G0 28)) H := ⟨_, (((w_lks q0 a r g1 w1 g2 w2 x cI cJ cB cQ cM).2.1 0 (by omega)).trans (m_Y_g (i := 0) 12 (by omega))), fun H h => h⟩
set_option maxRecDepth 20000 in
theorem w_at29 (D : va_G) (q0 : Nat) (a r g1 w1 g2 w2 x : Nat → Nat) (cI cJ cB cQ cM : ClassId) : ∃ e, (w_W q0 a r g1 w1 g2 w2 x cI cJ cB cQ cM)[29]? = some ((w_σ D q0 a r g1 w1 g2 w2 x cI cJ cB cQ cM).2.1 29, e) ∧ ∀ H, va_at D vwCl ((w_σ D q0 a r g1 w1 g2 w2 x cI cJ cB cQ cM).2.1 29, e) H → va_at D vwCl ((w_σ D q0 a r g1 w1 g2 w2 x cI cJ cB cQ cM).2.1 29, q_en (w_σ D q0 a r g1 w1 g2 w2 x cI cJ cB cQ cM) 29 (w_V0 29) (w_G0 29)) H := ⟨_, (((w_lks q0 a r g1 w1 g2 w2 x cI cJ cB cQ cM).2.1 2 (by omega)).trans (m_Y_g (i := 1) 12 (by omega))), fun H h => h⟩
set_option maxRecDepth 20000 in
theorem w_at30 (D : va_G) (q0 : Nat) (a r g1 w1 g2 w2 x : Nat → Nat) (cI cJ cB cQ cM : ClassId) : ∃ e, (w_W q0 a r g1 w1 g2 w2 x cI cJ cB cQ cM)[31]? = some ((w_σ D q0 a r g1 w1 g2 w2 x cI cJ cB cQ cM).2.1 30, e) ∧ ∀ H, va_at D vwCl ((w_σ D q0 a r g1 w1 g2 w2 x cI cJ cB cQ cM).2.1 30, e) H → va_at D vwCl ((w_σ D q0 a r g1 w1 g2 w2 x cI cJ cB cQ cM).2.1 30, q_en (w_σ D q0 a r g1 w1 g2 w2 x cI cJ cB cQ cM) 30 (w_V0 30) (w_G0 30)) H := ⟨_, (((w_lks q0 a r g1 w1 g2 w2 x cI cJ cB cQ cM).2.1 4 (by omega)).trans (m_Y_g (i := 2) 12 (by omega))), fun H h => h⟩
set_option maxRecDepth 20000 in
theorem w_at31 (D : va_G) (q0 : Nat) (a r g1 w1 g2 w2 x : Nat → Nat) (cI cJ cB cQ cM : ClassId) : ∃ e, (w_W q0 a r g1 w1 g2 w2 x cI cJ cB cQ cM)[33]? = some ((w_σ D q0 a r g1 w1 g2 w2 x cI cJ cB cQ cM).2.1 31, e) ∧ ∀ H, va_at D vwCl ((w_σ D q0 a r g1 w1 g2 w2 x cI cJ cB cQ cM).2.1 31, e) H → va_at D vwCl ((w_σ D q0 a r g1 w1 g2 w2 x cI cJ cB cQ cM).2.1 31, q_en (w_σ D q0 a r g1 w1 g2 w2 x cI cJ cB cQ cM) 31 (w_V0 31) (w_G0 31)) H := ⟨_, (((w_lks q0 a r g1 w1 g2 w2 x cI cJ cB cQ cM).2.1 6 (by omega)).trans (m_Y_g (i := 3) 12 (by omega))), fun H h => h⟩
set_option maxRecDepth 20000 in
theorem w_at32 (D : va_G) (q0 : Nat) (a r g1 w1 g2 w2 x : Nat → Nat) (cI cJ cB cQ cM : ClassId) : ∃ e, (w_W q0 a r g1 w1 g2 w2 x cI cJ cB cQ cM)[35]? = some ((w_σ D q0 a r g1 w1 g2 w2 x cI cJ cB cQ cM).2.1 32, e) ∧ ∀ H, va_at D vwCl ((w_σ D q0 a r g1 w1 g2 w2 x cI cJ cB cQ cM).2.1 32, e) H → va_at D vwCl ((w_σ D q0 a r g1 w1 g2 w2 x cI cJ cB cQ cM).2.1 32, q_en (w_σ D q0 a r g1 w1 g2 w2 x cI cJ cB cQ cM) 32 (w_V0 32) (w_G0 32)) H := ⟨_, (((w_lks q0 a r g1 w1 g2 w2 x cI cJ cB cQ cM).2.1 8 (by omega)).trans (m_Y_g (i := 4) 12 (by omega))), fun H h => h⟩
set_option maxRecDepth 20000 in
theorem w_at33 (D : va_G) (q0 : Nat) (a r g1 w1 g2 w2 x : Nat → Nat) (cI cJ cB cQ cM : ClassId) : ∃ e, (w_W q0 a r g1 w1 g2 w2 x cI cJ cB cQ cM)[37]? = some ((w_σ D q0 a r g1 w1 g2 w2 x cI cJ cB cQ cM).2.1 33, e) ∧ ∀ H, va_at D vwCl ((w_σ D q0 a r g1 w1 g2 w2 x cI cJ cB cQ cM).2.1 33, e) H → va_at D vwCl ((w_σ D q0 a r g1 w1 g2 w2 x cI cJ cB cQ cM).2.1 33, q_en (w_σ D q0 a r g1 w1 g2 w2 x cI cJ cB cQ cM) 33 (w_V0 33) (w_G0 33)) H := ⟨_, (((w_lks q0 a r g1 w1 g2 w2 x cI cJ cB cQ cM).2.1 10 (by omega)).trans (m_Y_g (i := 5) 12 (by omega))), fun H h => h⟩
set_option maxRecDepth 20000 in
theorem w_at34 (D : va_G) (q0 : Nat) (a r g1 w1 g2 w2 x : Nat → Nat) (cI cJ cB cQ cM : ClassId) : ∃ e, (w_W q0 a r g1 w1 g2 w2 x cI cJ cB cQ cM)[39]? = some ((w_σ D q0 a r g1 w1 g2 w2 x cI cJ cB cQ cM).2.1 34, e) ∧ ∀ H, va_at D vwCl ((w_σ D q0 a r g1 w1 g2 w2 x cI cJ cB cQ cM).2.1 34, e) H → va_at D vwCl ((w_σ D q0 a r g1 w1 g2 w2 x cI cJ cB cQ cM).2.1 34, q_en (w_σ D q0 a r g1 w1 g2 w2 x cI cJ cB cQ cM) 34 (w_V0 34) (w_G0 34)) H := ⟨_, (((w_lks q0 a r g1 w1 g2 w2 x cI cJ cB cQ cM).2.1 12 (by omega)).trans (m_Y_g (i := 6) 12 (by omega))), fun H h => h⟩
set_option maxRecDepth 20000 in
theorem w_at35 (D : va_G) (q0 : Nat) (a r g1 w1 g2 w2 x : Nat → Nat) (cI cJ cB cQ cM : ClassId) : ∃ e, (w_W q0 a r g1 w1 g2 w2 x cI cJ cB cQ cM)[41]? = some ((w_σ D q0 a r g1 w1 g2 w2 x cI cJ cB cQ cM).2.1 35, e) ∧ ∀ H, va_at D vwCl ((w_σ D q0 a r g1 w1 g2 w2 x cI cJ cB cQ cM).2.1 35, e) H → va_at D vwCl ((w_σ D q0 a r g1 w1 g2 w2 x cI cJ cB cQ cM).2.1 35, q_en (w_σ D q0 a r g1 w1 g2 w2 x cI cJ cB cQ cM) 35 (w_V0 35) (w_G0 35)) H := ⟨_, (((w_lks q0 a r g1 w1 g2 w2 x cI cJ cB cQ cM).2.1 14 (by omega)).trans (m_Y_g (i := 7) 12 (by omega))), fun H h => h⟩
set_option maxRecDepth 20000 in
theorem w_at36 (D : va_G) (q0 : Nat) (a r g1 w1 g2 w2 x : Nat → Nat) (cI cJ cB cQ cM : ClassId) : ∃ e, (w_W q0 a r g1 w1 g2 w2 x cI cJ cB cQ cM)[43]? = some ((w_σ D q0 a r g1 w1 g2 w2 x cI cJ cB cQ cM).2.1 36, e) ∧ ∀ H, va_at D vwCl ((w_σ D q0 a r g1 w1 g2 w2 x cI cJ cB cQ cM).2.1 36, e) H → va_at D vwCl ((w_σ D q0 a r g1 w1 g2 w2 x cI cJ cB cQ cM).2.1 36, q_en (w_σ D q0 a r g1 w1 g2 w2 x cI cJ cB cQ cM) 36 (w_V0 36) (w_G0 36)) H := ⟨_, (((w_lks q0 a r g1 w1 g2 w2 x cI cJ cB cQ cM).2.1 16 (by omega)).trans (m_Y_g (i := 8) 12 (by omega))), fun H h => h⟩
set_option maxRecDepth 20000 in
theorem w_at37 (D : va_G) (q0 : Nat) (a r g1 w1 g2 w2 x : Nat → Nat) (cI cJ cB cQ cM : ClassId) : ∃ e, (w_W q0 a r g1 w1 g2 w2 x cI cJ cB cQ cM)[45]? = some ((w_σ D q0 a r g1 w1 g2 w2 x cI cJ cB cQ cM).2.1 37, e) ∧ ∀ H, va_at D vwCl ((w_σ D q0 a r g1 w1 g2 w2 x cI cJ cB cQ cM).2.1 37, e) H → va_at D vwCl ((w_σ D q0 a r g1 w1 g2 w2 x cI cJ cB cQ cM).2.1 37, q_en (w_σ D q0 a r g1 w1 g2 w2 x cI cJ cB cQ cM) 37 (w_V0 37) (w_G0 37)) H := ⟨_, (((w_lks q0 a r g1 w1 g2 w2 x cI cJ cB cQ cM).2.1 18 (by omega)).trans (m_Y_g (i := 9) 12 (by omega))), fun H h => h⟩
set_option maxRecDepth 20000 in
theorem w_at38 (D : va_G) (q0 : Nat) (a r g1 w1 g2 w2 x : Nat → Nat) (cI cJ cB cQ cM : ClassId) : ∃ e, (w_W q0 a r g1 w1 g2 w2 x cI cJ cB cQ cM)[47]? = some ((w_σ D q0 a r g1 w1 g2 w2 x cI cJ cB cQ cM).2.1 38, e) ∧ ∀ H, va_at D vwCl ((w_σ D q0 a r g1 w1 g2 w2 x cI cJ cB cQ cM).2.1 38, e) H → va_at D vwCl ((w_σ D q0 a r g1 w1 g2 w2 x cI cJ cB cQ cM).2.1 38, q_en (w_σ D q0 a r g1 w1 g2 w2 x cI cJ cB cQ cM) 38 (w_V0 38) (w_G0 38)) H := ⟨_, (((w_lks q0 a r g1 w1 g2 w2 x cI cJ cB cQ cM).2.1 20 (by omega)).trans (m_Y_g (i := 10) 12 (by omega))), fun H h => h⟩
set_option maxRecDepth 20000 in
theorem w_at39 (D : va_G) (q0 : Nat) (a r g1 w1 g2 w2 x : Nat → Nat) (cI cJ cB cQ cM : ClassId) : ∃ e, (w_W q0 a r g1 w1 g2 w2 x cI cJ cB cQ cM)[49]? = some ((w_σ D q0 a r g1 w1 g2 w2 x cI cJ cB cQ cM).2.1 39, e) ∧ ∀ H, va_at D vwCl ((w_σ D q0 a r g1 w1 g2 w2 x cI cJ cB cQ cM).2.1 39, e) H → va_at D vwCl ((w_σ D q0 a r g1 w1 g2 w2 x cI cJ cB cQ cM).2.1 39, q_en (w_σ D q0 a r g1 w1 g2 w2 x cI cJ cB cQ cM) 39 (w_V0 39) (w_G0 39)) H := ⟨_, (((w_lks q0 a r g1 w1 g2 w2 x cI cJ cB cQ cM).2.1 22 (by omega)).trans (m_Y_g (i := 11) 12 (by omega))), fun H h => h⟩
set_option maxRecDepth 20000 in
theorem w_at40 (D : va_G) (q0 : Nat) (a r g1 w1 g2 w2 x : Nat → Nat) (cI cJ cB cQ cM : ClassId) : ∃ e, (w_W q0 a r g1 w1 g2 w2 x cI cJ cB cQ cM)[51]? = some ((w_σ D q0 a r g1 w1 g2 w2 x cI cJ cB cQ cM).2.1 40, e) ∧ ∀ H, va_at D vwCl ((w_σ D q0 a r g1 w1 g2 w2 x cI cJ cB cQ cM).2.1 40, e) H → va_at D vwCl ((w_σ D q0 a r g1 w1 g2 w2 x cI cJ cB cQ cM).2.1 40, q_en (w_σ D q0 a r g1 w1 g2 w2 x cI cJ cB cQ cM) 40 (w_V0 40) (w_G0 40)) H := ⟨_, (((w_lks q0 a r g1 w1 g2 w2 x cI cJ cB cQ cM).2.2.1 0 (by omega)).trans (m_Y_g (i := 0) 8 (by omega))), fun H h => h⟩
set_option maxRecDepth 20000 in
theorem w_at41 (D : va_G) (q0 : Nat) (a r g1 w1 g2 w2 x : Nat → Nat) (cI cJ cB cQ cM : ClassId) : ∃ e, (w_W q0 a r g1 w1 g2 w2 x cI cJ cB cQ cM)[53]? = some ((w_σ D q0 a r g1 w1 g2 w2 x cI cJ cB cQ cM).2.1 41, e) ∧ ∀ H, va_at D vwCl ((w_σ D q0 a r g1 w1 g2 w2 x cI cJ cB cQ cM).2.1 41, e) H → va_at D vwCl ((w_σ D q0 a r g1 w1 g2 w2 x cI cJ cB cQ cM).2.1 41, q_en (w_σ D q0 a r g1 w1 g2 w2 x cI cJ cB cQ cM) 41 (w_V0 41) (w_G0 41)) H := ⟨_, (((w_lks q0 a r g1 w1 g2 w2 x cI cJ cB cQ cM).2.2.1 2 (by omega)).trans (m_Y_g (i := 1) 8 (by omega))), fun H h => h⟩
set_option maxRecDepth 20000 in
theorem w_at42 (D : va_G) (q0 : Nat) (a r g1 w1 g2 w2 x : Nat → Nat) (cI cJ cB cQ cM : ClassId) : ∃ e, (w_W q0 a r g1 w1 g2 w2 x cI cJ cB cQ cM)[55]? = some ((w_σ D q0 a r g1 w1 g2 w2 x cI cJ cB cQ cM).2.1 42, e) ∧ ∀ H, va_at D vwCl ((w_σ D q0 a r g1 w1 g2 w2 x cI cJ cB cQ cM).2.1 42, e) H → va_at D vwCl ((w_σ D q0 a r g1 w1 g2 w2 x cI cJ cB cQ cM).2.1 42, q_en (w_σ D q0 a r g1 w1 g2 w2 x cI cJ cB cQ cM) 42 (w_V0 42) (w_G0 42)) H := ⟨_, (((w_lks q0 a r g1 w1 g2 w2 x cI cJ cB cQ cM).2.2.1 4 (by omega)).trans (m_Y_g (i := 2) 8 (by omega))), fun H h => h⟩
set_option maxRecDepth 20000 in
theorem w_at43 (D : va_G) (q0 : Nat) (a r g1 w1 g2 w2 x : Nat → Nat) (cI cJ cB cQ cM : ClassId) : ∃ e, (w_W q0 a r g1 w1 g2 w2 x cI cJ cB cQ cM)[57]? = some ((w_σ D q0 a r g1 w1 g2 w2 x cI cJ cB cQ cM).2.1 43, e) ∧ ∀ H, va_at D vwCl ((w_σ D q0 a r g1 w1 g2 w2 x cI cJ cB cQ cM).2.1 43, e) H → va_at D vwCl ((w_σ D q0 a r g1 w1 g2 w2 x cI cJ cB cQ cM).2.1 43, q_en (w_σ D q0 a r g1 w1 g2 w2 x cI cJ cB cQ cM) 43 (w_V0 43) (w_G0 43)) H := ⟨_, (((w_lks q0 a r g1 w1 g2 w2 x cI cJ cB cQ cM).2.2.1 6 (by omega)).trans (m_Y_g (i := 3) 8 (by omega))), fun H h => h⟩
set_option maxRecDepth 20000 in
theorem w_at44 (D : va_G) (q0 : Nat) (a r g1 w1 g2 w2 x : Nat → Nat) (cI cJ cB cQ cM : ClassId) : ∃ e, (w_W q0 a r g1 w1 g2 w2 x cI cJ cB cQ cM)[59]? = some ((w_σ D q0 a r g1 w1 g2 w2 x cI cJ cB cQ cM).2.1 44, e) ∧ ∀ H, va_at D vwCl ((w_σ D q0 a r g1 w1 g2 w2 x cI cJ cB cQ cM).2.1 44, e) H → va_at D vwCl ((w_σ D q0 a r g1 w1 g2 w2 x cI cJ cB cQ cM).2.1 44, q_en (w_σ D q0 a r g1 w1 g2 w2 x cI cJ cB cQ cM) 44 (w_V0 44) (w_G0 44)) H := ⟨_, (((w_lks q0 a r g1 w1 g2 w2 x cI cJ cB cQ cM).2.2.1 8 (by omega)).trans (m_Y_g (i := 4) 8 (by omega))), fun H h => h⟩
set_option maxRecDepth 20000 in
theorem w_at45 (D : va_G) (q0 : Nat) (a r g1 w1 g2 w2 x : Nat → Nat) (cI cJ cB cQ cM : ClassId) : ∃ e, (w_W q0 a r g1 w1 g2 w2 x cI cJ cB cQ cM)[61]? = some ((w_σ D q0 a r g1 w1 g2 w2 x cI cJ cB cQ cM).2.1 45, e) ∧ ∀ H, va_at D vwCl ((w_σ D q0 a r g1 w1 g2 w2 x cI cJ cB cQ cM).2.1 45, e) H → va_at D vwCl ((w_σ D q0 a r g1 w1 g2 w2 x cI cJ cB cQ cM).2.1 45, q_en (w_σ D q0 a r g1 w1 g2 w2 x cI cJ cB cQ cM) 45 (w_V0 45) (w_G0 45)) H := ⟨_, (((w_lks q0 a r g1 w1 g2 w2 x cI cJ cB cQ cM).2.2.1 10 (by omega)).trans (m_Y_g (i := 5) 8 (by omega))), fun H h => h⟩
set_option maxRecDepth 20000 in
theorem w_at46 (D : va_G) (q0 : Nat) (a r g1 w1 g2 w2 x : Nat → Nat) (cI cJ cB cQ cM : ClassId) : ∃ e, (w_W q0 a r g1 w1 g2 w2 x cI cJ cB cQ cM)[63]? = some ((w_σ D q0 a r g1 w1 g2 w2 x cI cJ cB cQ cM).2.1 46, e) ∧ ∀ H, va_at D vwCl ((w_σ D q0 a r g1 w1 g2 w2 x cI cJ cB cQ cM).2.1 46, e) H → va_at D vwCl ((w_σ D q0 a r g1 w1 g2 w2 x cI cJ cB cQ cM).2.1 46, q_en (w_σ D q0 a r g1 w1 g2 w2 x cI cJ cB cQ cM) 46 (w_V0 46) (w_G0 46)) H := ⟨_, (((w_lks q0 a r g1 w1 g2 w2 x cI cJ cB cQ cM).2.2.1 12 (by omega)).trans (m_Y_g (i := 6) 8 (by omega))), fun H h => h⟩
set_option maxRecDepth 20000 in
theorem w_at47 (D : va_G) (q0 : Nat) (a r g1 w1 g2 w2 x : Nat → Nat) (cI cJ cB cQ cM : ClassId) : ∃ e, (w_W q0 a r g1 w1 g2 w2 x cI cJ cB cQ cM)[65]? = some ((w_σ D q0 a r g1 w1 g2 w2 x cI cJ cB cQ cM).2.1 47, e) ∧ ∀ H, va_at D vwCl ((w_σ D q0 a r g1 w1 g2 w2 x cI cJ cB cQ cM).2.1 47, e) H → va_at D vwCl ((w_σ D q0 a r g1 w1 g2 w2 x cI cJ cB cQ cM).2.1 47, q_en (w_σ D q0 a r g1 w1 g2 w2 x cI cJ cB cQ cM) 47 (w_V0 47) (w_G0 47)) H := ⟨_, (((w_lks q0 a r g1 w1 g2 w2 x cI cJ cB cQ cM).2.2.1 14 (by omega)).trans (m_Y_g (i := 7) 8 (by omega))), fun H h => h⟩
set_option maxRecDepth 20000 in
theorem w_at48 (D : va_G) (q0 : Nat) (a r g1 w1 g2 w2 x : Nat → Nat) (cI cJ cB cQ cM : ClassId) : ∃ e, (w_W q0 a r g1 w1 g2 w2 x cI cJ cB cQ cM)[12]? = some ((w_σ D q0 a r g1 w1 g2 w2 x cI cJ cB cQ cM).2.1 48, e) ∧ ∀ H, va_at D vwCl ((w_σ D q0 a r g1 w1 g2 w2 x cI cJ cB cQ cM).2.1 48, e) H → va_at D vwCl ((w_σ D q0 a r g1 w1 g2 w2 x cI cJ cB cQ cM).2.1 48, q_en (w_σ D q0 a r g1 w1 g2 w2 x cI cJ cB cQ cM) 48 (w_V0 48) (w_G0 48)) H := ⟨_, (((w_lks q0 a r g1 w1 g2 w2 x cI cJ cB cQ cM).1 12 (by omega)).trans rfl), fun H h => h⟩
set_option maxRecDepth 20000 in
theorem w_at49 (D : va_G) (q0 : Nat) (a r g1 w1 g2 w2 x : Nat → Nat) (cI cJ cB cQ cM : ClassId) : ∃ e, (w_W q0 a r g1 w1 g2 w2 x cI cJ cB cQ cM)[28]? = some ((w_σ D q0 a r g1 w1 g2 w2 x cI cJ cB cQ cM).2.1 49, e) ∧ ∀ H, va_at D vwCl ((w_σ D q0 a r g1 w1 g2 w2 x cI cJ cB cQ cM).2.1 49, e) H → va_at D vwCl ((w_σ D q0 a r g1 w1 g2 w2 x cI cJ cB cQ cM).2.1 49, q_en (w_σ D q0 a r g1 w1 g2 w2 x cI cJ cB cQ cM) 49 (w_V0 49) (w_G0 49)) H := ⟨_, (((w_lks q0 a r g1 w1 g2 w2 x cI cJ cB cQ cM).2.1 1 (by omega)).trans (m_Y_w (i := 0) 12 (by omega))), fun H h => h⟩
set_option maxRecDepth 20000 in
theorem w_at50 (D : va_G) (q0 : Nat) (a r g1 w1 g2 w2 x : Nat → Nat) (cI cJ cB cQ cM : ClassId) : ∃ e, (w_W q0 a r g1 w1 g2 w2 x cI cJ cB cQ cM)[30]? = some ((w_σ D q0 a r g1 w1 g2 w2 x cI cJ cB cQ cM).2.1 50, e) ∧ ∀ H, va_at D vwCl ((w_σ D q0 a r g1 w1 g2 w2 x cI cJ cB cQ cM).2.1 50, e) H → va_at D vwCl ((w_σ D q0 a r g1 w1 g2 w2 x cI cJ cB cQ cM).2.1 50, q_en (w_σ D q0 a r g1 w1 g2 w2 x cI cJ cB cQ cM) 50 (w_V0 50) (w_G0 50)) H := ⟨_, (((w_lks q0 a r g1 w1 g2 w2 x cI cJ cB cQ cM).2.1 3 (by omega)).trans (m_Y_w (i := 1) 12 (by omega))), fun H h => h⟩
set_option maxRecDepth 20000 in
theorem w_at51 (D : va_G) (q0 : Nat) (a r g1 w1 g2 w2 x : Nat → Nat) (cI cJ cB cQ cM : ClassId) : ∃ e, (w_W q0 a r g1 w1 g2 w2 x cI cJ cB cQ cM)[32]? = some ((w_σ D q0 a r g1 w1 g2 w2 x cI cJ cB cQ cM).2.1 51, e) ∧ ∀ H, va_at D vwCl ((w_σ D q0 a r g1 w1 g2 w2 x cI cJ cB cQ cM).2.1 51, e) H → va_at D vwCl ((w_σ D q0 a r g1 w1 g2 w2 x cI cJ cB cQ cM).2.1 51, q_en (w_σ D q0 a r g1 w1 g2 w2 x cI cJ cB cQ cM) 51 (w_V0 51) (w_G0 51)) H := ⟨_, (((w_lks q0 a r g1 w1 g2 w2 x cI cJ cB cQ cM).2.1 5 (by omega)).trans (m_Y_w (i := 2) 12 (by omega))), fun H h => h⟩
set_option maxRecDepth 20000 in
theorem w_at52 (D : va_G) (q0 : Nat) (a r g1 w1 g2 w2 x : Nat → Nat) (cI cJ cB cQ cM : ClassId) : ∃ e, (w_W q0 a r g1 w1 g2 w2 x cI cJ cB cQ cM)[34]? = some ((w_σ D q0 a r g1 w1 g2 w2 x cI cJ cB cQ cM).2.1 52, e) ∧ ∀ H, va_at D vwCl ((w_σ D q0 a r g1 w1 g2 w2 x cI cJ cB cQ cM).2.1 52, e) H → va_at D vwCl ((w_σ D q0 a r g1 w1 g2 w2 x cI cJ cB cQ cM).2.1 52, q_en (w_σ D q0 a r g1 w1 g2 w2 x cI cJ cB cQ cM) 52 (w_V0 52) (w_G0 52)) H := ⟨_, (((w_lks q0 a r g1 w1 g2 w2 x cI cJ cB cQ cM).2.1 7 (by omega)).trans (m_Y_w (i := 3) 12 (by omega))), fun H h => h⟩
set_option maxRecDepth 20000 in
theorem w_at53 (D : va_G) (q0 : Nat) (a r g1 w1 g2 w2 x : Nat → Nat) (cI cJ cB cQ cM : ClassId) : ∃ e, (w_W q0 a r g1 w1 g2 w2 x cI cJ cB cQ cM)[36]? = some ((w_σ D q0 a r g1 w1 g2 w2 x cI cJ cB cQ cM).2.1 53, e) ∧ ∀ H, va_at D vwCl ((w_σ D q0 a r g1 w1 g2 w2 x cI cJ cB cQ cM).2.1 53, e) H → va_at D vwCl ((w_σ D q0 a r g1 w1 g2 w2 x cI cJ cB cQ cM).2.1 53, q_en (w_σ D q0 a r g1 w1 g2 w2 x cI cJ cB cQ cM) 53 (w_V0 53) (w_G0 53)) H := ⟨_, (((w_lks q0 a r g1 w1 g2 w2 x cI cJ cB cQ cM).2.1 9 (by omega)).trans (m_Y_w (i := 4) 12 (by omega))), fun H h => h⟩
set_option maxRecDepth 20000 in
theorem w_at54 (D : va_G) (q0 : Nat) (a r g1 w1 g2 w2 x : Nat → Nat) (cI cJ cB cQ cM : ClassId) : ∃ e, (w_W q0 a r g1 w1 g2 w2 x cI cJ cB cQ cM)[38]? = some ((w_σ D q0 a r g1 w1 g2 w2 x cI cJ cB cQ cM).2.1 54, e) ∧ ∀ H, va_at D vwCl ((w_σ D q0 a r g1 w1 g2 w2 x cI cJ cB cQ cM).2.1 54, e) H → va_at D vwCl ((w_σ D q0 a r g1 w1 g2 w2 x cI cJ cB cQ cM).2.1 54, q_en (w_σ D q0 a r g1 w1 g2 w2 x cI cJ cB cQ cM) 54 (w_V0 54) (w_G0 54)) H := ⟨_, (((w_lks q0 a r g1 w1 g2 w2 x cI cJ cB cQ cM).2.1 11 (by omega)).trans (m_Y_w (i := 5) 12 (by omega))), fun H h => h⟩
set_option maxRecDepth 20000 in
theorem w_at55 (D : va_G) (q0 : Nat) (a r g1 w1 g2 w2 x : Nat → Nat) (cI cJ cB cQ cM : ClassId) : ∃ e, (w_W q0 a r g1 w1 g2 w2 x cI cJ cB cQ cM)[40]? = some ((w_σ D q0 a r g1 w1 g2 w2 x cI cJ cB cQ cM).2.1 55, e) ∧ ∀ H, va_at D vwCl ((w_σ D q0 a r g1 w1 g2 w2 x cI cJ cB cQ cM).2.1 55, e) H → va_at D vwCl ((w_σ D q0 a r g1 w1 g2 w2 x cI cJ cB cQ cM).2.1 55, q_en (w_σ D q0 a r g1 w1 g2 w2 x cI cJ cB cQ cM) 55 (w_V0 55) (w_G0 55)) H := ⟨_, (((w_lks q0 a r g1 w1 g2 w2 x cI cJ cB cQ cM).2.1 13 (by omega)).trans (m_Y_w (i := 6) 12 (by omega))), fun H h => h⟩
set_option maxRecDepth 20000 in
theorem w_at56 (D : va_G) (q0 : Nat) (a r g1 w1 g2 w2 x : Nat → Nat) (cI cJ cB cQ cM : ClassId) : ∃ e, (w_W q0 a r g1 w1 g2 w2 x cI cJ cB cQ cM)[42]? = some ((w_σ D q0 a r g1 w1 g2 w2 x cI cJ cB cQ cM).2.1 56, e) ∧ ∀ H, va_at D vwCl ((w_σ D q0 a r g1 w1 g2 w2 x cI cJ cB cQ cM).2.1 56, e) H → va_at D vwCl ((w_σ D q0 a r g1 w1 g2 w2 x cI cJ cB cQ cM).2.1 56, q_en (w_σ D q0 a r g1 w1 g2 w2 x cI cJ cB cQ cM) 56 (w_V0 56) (w_G0 56)) H := ⟨_, (((w_lks q0 a r g1 w1 g2 w2 x cI cJ cB cQ cM).2.1 15 (by omega)).trans (m_Y_w (i := 7) 12 (by omega))), fun H h => h⟩
set_option maxRecDepth 20000 in
theorem w_at57 (D : va_G) (q0 : Nat) (a r g1 w1 g2 w2 x : Nat → Nat) (cI cJ cB cQ cM : ClassId) : ∃ e, (w_W q0 a r g1 w1 g2 w2 x cI cJ cB cQ cM)[44]? = some ((w_σ D q0 a r g1 w1 g2 w2 x cI cJ cB cQ cM).2.1 57, e) ∧ ∀ H, va_at D vwCl ((w_σ D q0 a r g1 w1 g2 w2 x cI cJ cB cQ cM).2.1 57, e) H → va_at D vwCl ((w_σ D q0 a r g1 w1 g2 w2 x cI cJ cB cQ cM).2.1 57, q_en (w_σ D q0 a r g1 w1 g2 w2 x cI cJ cB cQ cM) 57 (w_V0 57) (w_G0 57)) H := ⟨_, (((w_lks q0 a r g1 w1 g2 w2 x cI cJ cB cQ cM).2.1 17 (by omega)).trans (m_Y_w (i := 8) 12 (by omega))), fun H h => h⟩
set_option maxRecDepth 20000 in
theorem w_at58 (D : va_G) (q0 : Nat) (a r g1 w1 g2 w2 x : Nat → Nat) (cI cJ cB cQ cM : ClassId) : ∃ e, (w_W q0 a r g1 w1 g2 w2 x cI cJ cB cQ cM)[46]? = some ((w_σ D q0 a r g1 w1 g2 w2 x cI cJ cB cQ cM).2.1 58, e) ∧ ∀ H, va_at D vwCl ((w_σ D q0 a r g1 w1 g2 w2 x cI cJ cB cQ cM).2.1 58, e) H → va_at D vwCl ((w_σ D q0 a r g1 w1 g2 w2 x cI cJ cB cQ cM).2.1 58, q_en (w_σ D q0 a r g1 w1 g2 w2 x cI cJ cB cQ cM) 58 (w_V0 58) (w_G0 58)) H := ⟨_, (((w_lks q0 a r g1 w1 g2 w2 x cI cJ cB cQ cM).2.1 19 (by omega)).trans (m_Y_w (i := 9) 12 (by omega))), fun H h => h⟩
set_option maxRecDepth 20000 in
theorem w_at59 (D : va_G) (q0 : Nat) (a r g1 w1 g2 w2 x : Nat → Nat) (cI cJ cB cQ cM : ClassId) : ∃ e, (w_W q0 a r g1 w1 g2 w2 x cI cJ cB cQ cM)[48]? = some ((w_σ D q0 a r g1 w1 g2 w2 x cI cJ cB cQ cM).2.1 59, e) ∧ ∀ H, va_at D vwCl ((w_σ D q0 a r g1 w1 g2 w2 x cI cJ cB cQ cM).2.1 59, e) H → va_at D vwCl ((w_σ D q0 a r g1 w1 g2 w2 x cI cJ cB cQ cM).2.1 59, q_en (w_σ D q0 a r g1 w1 g2 w2 x cI cJ cB cQ cM) 59 (w_V0 59) (w_G0 59)) H := ⟨_, (((w_lks q0 a r g1 w1 g2 w2 x cI cJ cB cQ cM).2.1 21 (by omega)).trans (m_Y_w (i := 10) 12 (by omega))), fun H h => h⟩
set_option maxRecDepth 20000 in
theorem w_at60 (D : va_G) (q0 : Nat) (a r g1 w1 g2 w2 x : Nat → Nat) (cI cJ cB cQ cM : ClassId) : ∃ e, (w_W q0 a r g1 w1 g2 w2 x cI cJ cB cQ cM)[50]? = some ((w_σ D q0 a r g1 w1 g2 w2 x cI cJ cB cQ cM).2.1 60, e) ∧ ∀ H, va_at D vwCl ((w_σ D q0 a r g1 w1 g2 w2 x cI cJ cB cQ cM).2.1 60, e) H → va_at D vwCl ((w_σ D q0 a r g1 w1 g2 w2 x cI cJ cB cQ cM).2.1 60, q_en (w_σ D q0 a r g1 w1 g2 w2 x cI cJ cB cQ cM) 60 (w_V0 60) (w_G0 60)) H := ⟨_, (((w_lks q0 a r g1 w1 g2 w2 x cI cJ cB cQ cM).2.1 23 (by omega)).trans (m_Y_w (i := 11) 12 (by omega))), fun H h => h⟩
set_option maxRecDepth 20000 in
theorem w_at61 (D : va_G) (q0 : Nat) (a r g1 w1 g2 w2 x : Nat → Nat) (cI cJ cB cQ cM : ClassId) : ∃ e, (w_W q0 a r g1 w1 g2 w2 x cI cJ cB cQ cM)[52]? = some ((w_σ D q0 a r g1 w1 g2 w2 x cI cJ cB cQ cM).2.1 61, e) ∧ ∀ H, va_at D vwCl ((w_σ D q0 a r g1 w1 g2 w2 x cI cJ cB cQ cM).2.1 61, e) H → va_at D vwCl ((w_σ D q0 a r g1 w1 g2 w2 x cI cJ cB cQ cM).2.1 61, q_en (w_σ D q0 a r g1 w1 g2 w2 x cI cJ cB cQ cM) 61 (w_V0 61) (w_G0 61)) H := ⟨_, (((w_lks q0 a r g1 w1 g2 w2 x cI cJ cB cQ cM).2.2.1 1 (by omega)).trans (m_Y_w (i := 0) 8 (by omega))), fun H h => h⟩
set_option maxRecDepth 20000 in
theorem w_at62 (D : va_G) (q0 : Nat) (a r g1 w1 g2 w2 x : Nat → Nat) (cI cJ cB cQ cM : ClassId) : ∃ e, (w_W q0 a r g1 w1 g2 w2 x cI cJ cB cQ cM)[54]? = some ((w_σ D q0 a r g1 w1 g2 w2 x cI cJ cB cQ cM).2.1 62, e) ∧ ∀ H, va_at D vwCl ((w_σ D q0 a r g1 w1 g2 w2 x cI cJ cB cQ cM).2.1 62, e) H → va_at D vwCl ((w_σ D q0 a r g1 w1 g2 w2 x cI cJ cB cQ cM).2.1 62, q_en (w_σ D q0 a r g1 w1 g2 w2 x cI cJ cB cQ cM) 62 (w_V0 62) (w_G0 62)) H := ⟨_, (((w_lks q0 a r g1 w1 g2 w2 x cI cJ cB cQ cM).2.2.1 3 (by omega)).trans (m_Y_w (i := 1) 8 (by omega))), fun H h => h⟩
set_option maxRecDepth 20000 in
theorem w_at63 (D : va_G) (q0 : Nat) (a r g1 w1 g2 w2 x : Nat → Nat) (cI cJ cB cQ cM : ClassId) : ∃ e, (w_W q0 a r g1 w1 g2 w2 x cI cJ cB cQ cM)[56]? = some ((w_σ D q0 a r g1 w1 g2 w2 x cI cJ cB cQ cM).2.1 63, e) ∧ ∀ H, va_at D vwCl ((w_σ D q0 a r g1 w1 g2 w2 x cI cJ cB cQ cM).2.1 63, e) H → va_at D vwCl ((w_σ D q0 a r g1 w1 g2 w2 x cI cJ cB cQ cM).2.1 63, q_en (w_σ D q0 a r g1 w1 g2 w2 x cI cJ cB cQ cM) 63 (w_V0 63) (w_G0 63)) H := ⟨_, (((w_lks q0 a r g1 w1 g2 w2 x cI cJ cB cQ cM).2.2.1 5 (by omega)).trans (m_Y_w (i := 2) 8 (by omega))), fun H h => h⟩
set_option maxRecDepth 20000 in
theorem w_at64 (D : va_G) (q0 : Nat) (a r g1 w1 g2 w2 x : Nat → Nat) (cI cJ cB cQ cM : ClassId) : ∃ e, (w_W q0 a r g1 w1 g2 w2 x cI cJ cB cQ cM)[58]? = some ((w_σ D q0 a r g1 w1 g2 w2 x cI cJ cB cQ cM).2.1 64, e) ∧ ∀ H, va_at D vwCl ((w_σ D q0 a r g1 w1 g2 w2 x cI cJ cB cQ cM).2.1 64, e) H → va_at D vwCl ((w_σ D q0 a r g1 w1 g2 w2 x cI cJ cB cQ cM).2.1 64, q_en (w_σ D q0 a r g1 w1 g2 w2 x cI cJ cB cQ cM) 64 (w_V0 64) (w_G0 64)) H := ⟨_, (((w_lks q0 a r g1 w1 g2 w2 x cI cJ cB cQ cM).2.2.1 7 (by omega)).trans (m_Y_w (i := 3) 8 (by omega))), fun H h => h⟩
set_option maxRecDepth 20000 in
theorem w_at65 (D : va_G) (q0 : Nat) (a r g1 w1 g2 w2 x : Nat → Nat) (cI cJ cB cQ cM : ClassId) : ∃ e, (w_W q0 a r g1 w1 g2 w2 x cI cJ cB cQ cM)[60]? = some ((w_σ D q0 a r g1 w1 g2 w2 x cI cJ cB cQ cM).2.1 65, e) ∧ ∀ H, va_at D vwCl ((w_σ D q0 a r g1 w1 g2 w2 x cI cJ cB cQ cM).2.1 65, e) H → va_at D vwCl ((w_σ D q0 a r g1 w1 g2 w2 x cI cJ cB cQ cM).2.1 65, q_en (w_σ D q0 a r g1 w1 g2 w2 x cI cJ cB cQ cM) 65 (w_V0 65) (w_G0 65)) H := ⟨_, (((w_lks q0 a r g1 w1 g2 w2 x cI cJ cB cQ cM).2.2.1 9 (by omega)).trans (m_Y_w (i := 4) 8 (by omega))), fun H h => h⟩
set_option maxRecDepth 20000 in
theorem w_at66 (D : va_G) (q0 : Nat) (a r g1 w1 g2 w2 x : Nat → Nat) (cI cJ cB cQ cM : ClassId) : ∃ e, (w_W q0 a r g1 w1 g2 w2 x cI cJ cB cQ cM)[62]? = some ((w_σ D q0 a r g1 w1 g2 w2 x cI cJ cB cQ cM).2.1 66, e) ∧ ∀ H, va_at D vwCl ((w_σ D q0 a r g1 w1 g2 w2 x cI cJ cB cQ cM).2.1 66, e) H → va_at D vwCl ((w_σ D q0 a r g1 w1 g2 w2 x cI cJ cB cQ cM).2.1 66, q_en (w_σ D q0 a r g1 w1 g2 w2 x cI cJ cB cQ cM) 66 (w_V0 66) (w_G0 66)) H := ⟨_, (((w_lks q0 a r g1 w1 g2 w2 x cI cJ cB cQ cM).2.2.1 11 (by omega)).trans (m_Y_w (i := 5) 8 (by omega))), fun H h => h⟩
set_option maxRecDepth 20000 in
theorem w_at67 (D : va_G) (q0 : Nat) (a r g1 w1 g2 w2 x : Nat → Nat) (cI cJ cB cQ cM : ClassId) : ∃ e, (w_W q0 a r g1 w1 g2 w2 x cI cJ cB cQ cM)[64]? = some ((w_σ D q0 a r g1 w1 g2 w2 x cI cJ cB cQ cM).2.1 67, e) ∧ ∀ H, va_at D vwCl ((w_σ D q0 a r g1 w1 g2 w2 x cI cJ cB cQ cM).2.1 67, e) H → va_at D vwCl ((w_σ D q0 a r g1 w1 g2 w2 x cI cJ cB cQ cM).2.1 67, q_en (w_σ D q0 a r g1 w1 g2 w2 x cI cJ cB cQ cM) 67 (w_V0 67) (w_G0 67)) H := ⟨_, (((w_lks q0 a r g1 w1 g2 w2 x cI cJ cB cQ cM).2.2.1 13 (by omega)).trans (m_Y_w (i := 6) 8 (by omega))), fun H h => h⟩
set_option maxRecDepth 20000 in
theorem w_at68 (D : va_G) (q0 : Nat) (a r g1 w1 g2 w2 x : Nat → Nat) (cI cJ cB cQ cM : ClassId) : ∃ e, (w_W q0 a r g1 w1 g2 w2 x cI cJ cB cQ cM)[66]? = some ((w_σ D q0 a r g1 w1 g2 w2 x cI cJ cB cQ cM).2.1 68, e) ∧ ∀ H, va_at D vwCl ((w_σ D q0 a r g1 w1 g2 w2 x cI cJ cB cQ cM).2.1 68, e) H → va_at D vwCl ((w_σ D q0 a r g1 w1 g2 w2 x cI cJ cB cQ cM).2.1 68, q_en (w_σ D q0 a r g1 w1 g2 w2 x cI cJ cB cQ cM) 68 (w_V0 68) (w_G0 68)) H := ⟨_, (((w_lks q0 a r g1 w1 g2 w2 x cI cJ cB cQ cM).2.2.1 15 (by omega)).trans (m_Y_w (i := 7) 8 (by omega))), fun H h => h⟩
set_option maxRecDepth 20000 in
theorem w_at69 (D : va_G) (q0 : Nat) (a r g1 w1 g2 w2 x : Nat → Nat) (cI cJ cB cQ cM : ClassId) : ∃ e, (w_W q0 a r g1 w1 g2 w2 x cI cJ cB cQ cM)[67]? = some ((w_σ D q0 a r g1 w1 g2 w2 x cI cJ cB cQ cM).2.1 69, e) ∧ ∀ H, va_at D vwCl ((w_σ D q0 a r g1 w1 g2 w2 x cI cJ cB cQ cM).2.1 69, e) H → va_at D vwCl ((w_σ D q0 a r g1 w1 g2 w2 x cI cJ cB cQ cM).2.1 69, q_en (w_σ D q0 a r g1 w1 g2 w2 x cI cJ cB cQ cM) 69 (w_V0 69) (w_G0 69)) H := ⟨_, (((w_lks q0 a r g1 w1 g2 w2 x cI cJ cB cQ cM).2.2.2 0).trans rfl), fun H h => h⟩
set_option maxRecDepth 20000 in
theorem w_at70 (D : va_G) (q0 : Nat) (a r g1 w1 g2 w2 x : Nat → Nat) (cI cJ cB cQ cM : ClassId) : ∃ e, (w_W q0 a r g1 w1 g2 w2 x cI cJ cB cQ cM)[68]? = some ((w_σ D q0 a r g1 w1 g2 w2 x cI cJ cB cQ cM).2.1 70, e) ∧ ∀ H, va_at D vwCl ((w_σ D q0 a r g1 w1 g2 w2 x cI cJ cB cQ cM).2.1 70, e) H → va_at D vwCl ((w_σ D q0 a r g1 w1 g2 w2 x cI cJ cB cQ cM).2.1 70, q_en (w_σ D q0 a r g1 w1 g2 w2 x cI cJ cB cQ cM) 70 (w_V0 70) (w_G0 70)) H := ⟨_, (((w_lks q0 a r g1 w1 g2 w2 x cI cJ cB cQ cM).2.2.2 1).trans rfl), fun H h => h⟩
set_option maxRecDepth 20000 in
theorem w_at71 (D : va_G) (q0 : Nat) (a r g1 w1 g2 w2 x : Nat → Nat) (cI cJ cB cQ cM : ClassId) : ∃ e, (w_W q0 a r g1 w1 g2 w2 x cI cJ cB cQ cM)[69]? = some ((w_σ D q0 a r g1 w1 g2 w2 x cI cJ cB cQ cM).2.1 71, e) ∧ ∀ H, va_at D vwCl ((w_σ D q0 a r g1 w1 g2 w2 x cI cJ cB cQ cM).2.1 71, e) H → va_at D vwCl ((w_σ D q0 a r g1 w1 g2 w2 x cI cJ cB cQ cM).2.1 71, q_en (w_σ D q0 a r g1 w1 g2 w2 x cI cJ cB cQ cM) 71 (w_V0 71) (w_G0 71)) H := ⟨_, (((w_lks q0 a r g1 w1 g2 w2 x cI cJ cB cQ cM).2.2.2 2).trans rfl), fun H h => h⟩
set_option maxRecDepth 20000 in
theorem w_at72 (D : va_G) (q0 : Nat) (a r g1 w1 g2 w2 x : Nat → Nat) (cI cJ cB cQ cM : ClassId) : ∃ e, (w_W q0 a r g1 w1 g2 w2 x cI cJ cB cQ cM)[70]? = some ((w_σ D q0 a r g1 w1 g2 w2 x cI cJ cB cQ cM).2.1 72, e) ∧ ∀ H, va_at D vwCl ((w_σ D q0 a r g1 w1 g2 w2 x cI cJ cB cQ cM).2.1 72, e) H → va_at D vwCl ((w_σ D q0 a r g1 w1 g2 w2 x cI cJ cB cQ cM).2.1 72, q_en (w_σ D q0 a r g1 w1 g2 w2 x cI cJ cB cQ cM) 72 (w_V0 72) (w_G0 72)) H := ⟨_, (((w_lks q0 a r g1 w1 g2 w2 x cI cJ cB cQ cM).2.2.2 3).trans rfl), fun H h => h⟩
set_option maxRecDepth 20000 in
theorem w_at73 (D : va_G) (q0 : Nat) (a r g1 w1 g2 w2 x : Nat → Nat) (cI cJ cB cQ cM : ClassId) : ∃ e, (w_W q0 a r g1 w1 g2 w2 x cI cJ cB cQ cM)[71]? = some ((w_σ D q0 a r g1 w1 g2 w2 x cI cJ cB cQ cM).2.1 73, e) ∧ ∀ H, va_at D vwCl ((w_σ D q0 a r g1 w1 g2 w2 x cI cJ cB cQ cM).2.1 73, e) H → va_at D vwCl ((w_σ D q0 a r g1 w1 g2 w2 x cI cJ cB cQ cM).2.1 73, q_en (w_σ D q0 a r g1 w1 g2 w2 x cI cJ cB cQ cM) 73 (w_V0 73) (w_G0 73)) H := ⟨_, (((w_lks q0 a r g1 w1 g2 w2 x cI cJ cB cQ cM).2.2.2 4).trans rfl), fun H h => h⟩
set_option maxRecDepth 20000 in
theorem w_at74 (D : va_G) (q0 : Nat) (a r g1 w1 g2 w2 x : Nat → Nat) (cI cJ cB cQ cM : ClassId) : ∃ e, (w_W q0 a r g1 w1 g2 w2 x cI cJ cB cQ cM)[72]? = some ((w_σ D q0 a r g1 w1 g2 w2 x cI cJ cB cQ cM).2.1 74, e) ∧ ∀ H, va_at D vwCl ((w_σ D q0 a r g1 w1 g2 w2 x cI cJ cB cQ cM).2.1 74, e) H → va_at D vwCl ((w_σ D q0 a r g1 w1 g2 w2 x cI cJ cB cQ cM).2.1 74, q_en (w_σ D q0 a r g1 w1 g2 w2 x cI cJ cB cQ cM) 74 (w_V0 74) (w_G0 74)) H := ⟨_, (((w_lks q0 a r g1 w1 g2 w2 x cI cJ cB cQ cM).2.2.2 5).trans rfl), fun H h => h⟩
theorem w_i75_0 {k : Nat} (h1 : 0 ≤ k) (h : k < 25) : k = 0 ∨ k = 1 ∨ k = 2 ∨ k = 3 ∨ k = 4 ∨ k = 5 ∨ k = 6 ∨ k = 7 ∨ k = 8 ∨ k = 9 ∨ k = 10 ∨ k = 11 ∨ k = 12 ∨ k = 13 ∨ k = 14 ∨ k = 15 ∨ k = 16 ∨ k = 17 ∨ k = 18 ∨ k = 19 ∨ k = 20 ∨ k = 21 ∨ k = 22 ∨ k = 23 ∨ k = 24 := by omega
theorem w_i75_1 {k : Nat} (h1 : 25 ≤ k) (h : k < 50) : k = 25 ∨ k = 26 ∨ k = 27 ∨ k = 28 ∨ k = 29 ∨ k = 30 ∨ k = 31 ∨ k = 32 ∨ k = 33 ∨ k = 34 ∨ k = 35 ∨ k = 36 ∨ k = 37 ∨ k = 38 ∨ k = 39 ∨ k = 40 ∨ k = 41 ∨ k = 42 ∨ k = 43 ∨ k = 44 ∨ k = 45 ∨ k = 46 ∨ k = 47 ∨ k = 48 ∨ k = 49 := by omega
theorem w_i75_2 {k : Nat} (h1 : 50 ≤ k) (h : k < 75) : k = 50 ∨ k = 51 ∨ k = 52 ∨ k = 53 ∨ k = 54 ∨ k = 55 ∨ k = 56 ∨ k = 57 ∨ k = 58 ∨ k = 59 ∨ k = 60 ∨ k = 61 ∨ k = 62 ∨ k = 63 ∨ k = 64 ∨ k = 65 ∨ k = 66 ∨ k = 67 ∨ k = 68 ∨ k = 69 ∨ k = 70 ∨ k = 71 ∨ k = 72 ∨ k = 73 ∨ k = 74 := by omega
theorem w_atk (D : va_G) (q0 : Nat) (a r g1 w1 g2 w2 x : Nat → Nat) (cI cJ cB cQ cM : ClassId) : ∀ k, k < 75 → ∃ e, (w_W q0 a r g1 w1 g2 w2 x cI cJ cB cQ cM)[w_pos k]? = some ((w_σ D q0 a r g1 w1 g2 w2 x cI cJ cB cQ cM).2.1 k, e) ∧ ∀ H, va_at D vwCl ((w_σ D q0 a r g1 w1 g2 w2 x cI cJ cB cQ cM).2.1 k, e) H → va_at D vwCl ((w_σ D q0 a r g1 w1 g2 w2 x cI cJ cB cQ cM).2.1 k, q_en (w_σ D q0 a r g1 w1 g2 w2 x cI cJ cB cQ cM) k (w_V0 k) (w_G0 k)) H := by
  intro k hk
  rcases Nat.lt_or_ge k 25 with h1 | h1
  · rcases w_i75_0 (Nat.zero_le k) h1 with rfl | rfl | rfl | rfl | rfl | rfl | rfl | rfl | rfl | rfl | rfl | rfl | rfl | rfl | rfl | rfl | rfl | rfl | rfl | rfl | rfl | rfl | rfl | rfl | rfl
    · exact w_at0 D q0 a r g1 w1 g2 w2 x cI cJ cB cQ cM
    · exact w_at1 D q0 a r g1 w1 g2 w2 x cI cJ cB cQ cM
    · exact w_at2 D q0 a r g1 w1 g2 w2 x cI cJ cB cQ cM
    · exact w_at3 D q0 a r g1 w1 g2 w2 x cI cJ cB cQ cM
    · exact w_at4 D q0 a r g1 w1 g2 w2 x cI cJ cB cQ cM
    · exact w_at5 D q0 a r g1 w1 g2 w2 x cI cJ cB cQ cM
    · exact w_at6 D q0 a r g1 w1 g2 w2 x cI cJ cB cQ cM
    · exact w_at7 D q0 a r g1 w1 g2 w2 x cI cJ cB cQ cM
    · exact w_at8 D q0 a r g1 w1 g2 w2 x cI cJ cB cQ cM
    · exact w_at9 D q0 a r g1 w1 g2 w2 x cI cJ cB cQ cM
    · exact w_at10 D q0 a r g1 w1 g2 w2 x cI cJ cB cQ cM
    · exact w_at11 D q0 a r g1 w1 g2 w2 x cI cJ cB cQ cM
    · exact w_at12 D q0 a r g1 w1 g2 w2 x cI cJ cB cQ cM
    · exact w_at13 D q0 a r g1 w1 g2 w2 x cI cJ cB cQ cM
    · exact w_at14 D q0 a r g1 w1 g2 w2 x cI cJ cB cQ cM
    · exact w_at15 D q0 a r g1 w1 g2 w2 x cI cJ cB cQ cM
    · exact w_at16 D q0 a r g1 w1 g2 w2 x cI cJ cB cQ cM
    · exact w_at17 D q0 a r g1 w1 g2 w2 x cI cJ cB cQ cM
    · exact w_at18 D q0 a r g1 w1 g2 w2 x cI cJ cB cQ cM
    · exact w_at19 D q0 a r g1 w1 g2 w2 x cI cJ cB cQ cM
    · exact w_at20 D q0 a r g1 w1 g2 w2 x cI cJ cB cQ cM
    · exact w_at21 D q0 a r g1 w1 g2 w2 x cI cJ cB cQ cM
    · exact w_at22 D q0 a r g1 w1 g2 w2 x cI cJ cB cQ cM
    · exact w_at23 D q0 a r g1 w1 g2 w2 x cI cJ cB cQ cM
    · exact w_at24 D q0 a r g1 w1 g2 w2 x cI cJ cB cQ cM
  · rcases Nat.lt_or_ge k 50 with h2 | h2
    · rcases w_i75_1 h1 h2 with rfl | rfl | rfl | rfl | rfl | rfl | rfl | rfl | rfl | rfl | rfl | rfl | rfl | rfl | rfl | rfl | rfl | rfl | rfl | rfl | rfl | rfl | rfl | rfl | rfl
      · exact w_at25 D q0 a r g1 w1 g2 w2 x cI cJ cB cQ cM
      · exact w_at26 D q0 a r g1 w1 g2 w2 x cI cJ cB cQ cM
      · exact w_at27 D q0 a r g1 w1 g2 w2 x cI cJ cB cQ cM
      · exact w_at28 D q0 a r g1 w1 g2 w2 x cI cJ cB cQ cM
      · exact w_at29 D q0 a r g1 w1 g2 w2 x cI cJ cB cQ cM
      · exact w_at30 D q0 a r g1 w1 g2 w2 x cI cJ cB cQ cM
      · exact w_at31 D q0 a r g1 w1 g2 w2 x cI cJ cB cQ cM
      · exact w_at32 D q0 a r g1 w1 g2 w2 x cI cJ cB cQ cM
      · exact w_at33 D q0 a r g1 w1 g2 w2 x cI cJ cB cQ cM
      · exact w_at34 D q0 a r g1 w1 g2 w2 x cI cJ cB cQ cM
      · exact w_at35 D q0 a r g1 w1 g2 w2 x cI cJ cB cQ cM
      · exact w_at36 D q0 a r g1 w1 g2 w2 x cI cJ cB cQ cM
      · exact w_at37 D q0 a r g1 w1 g2 w2 x cI cJ cB cQ cM
      · exact w_at38 D q0 a r g1 w1 g2 w2 x cI cJ cB cQ cM
      · exact w_at39 D q0 a r g1 w1 g2 w2 x cI cJ cB cQ cM
      · exact w_at40 D q0 a r g1 w1 g2 w2 x cI cJ cB cQ cM
      · exact w_at41 D q0 a r g1 w1 g2 w2 x cI cJ cB cQ cM
      · exact w_at42 D q0 a r g1 w1 g2 w2 x cI cJ cB cQ cM
      · exact w_at43 D q0 a r g1 w1 g2 w2 x cI cJ cB cQ cM
      · exact w_at44 D q0 a r g1 w1 g2 w2 x cI cJ cB cQ cM
      · exact w_at45 D q0 a r g1 w1 g2 w2 x cI cJ cB cQ cM
      · exact w_at46 D q0 a r g1 w1 g2 w2 x cI cJ cB cQ cM
      · exact w_at47 D q0 a r g1 w1 g2 w2 x cI cJ cB cQ cM
      · exact w_at48 D q0 a r g1 w1 g2 w2 x cI cJ cB cQ cM
      · exact w_at49 D q0 a r g1 w1 g2 w2 x cI cJ cB cQ cM
    · rcases w_i75_2 h2 hk with rfl | rfl | rfl | rfl | rfl | rfl | rfl | rfl | rfl | rfl | rfl | rfl | rfl | rfl | rfl | rfl | rfl | rfl | rfl | rfl | rfl | rfl | rfl | rfl | rfl
      · exact w_at50 D q0 a r g1 w1 g2 w2 x cI cJ cB cQ cM
      · exact w_at51 D q0 a r g1 w1 g2 w2 x cI cJ cB cQ cM
      · exact w_at52 D q0 a r g1 w1 g2 w2 x cI cJ cB cQ cM
      · exact w_at53 D q0 a r g1 w1 g2 w2 x cI cJ cB cQ cM
      · exact w_at54 D q0 a r g1 w1 g2 w2 x cI cJ cB cQ cM
      · exact w_at55 D q0 a r g1 w1 g2 w2 x cI cJ cB cQ cM
      · exact w_at56 D q0 a r g1 w1 g2 w2 x cI cJ cB cQ cM
      · exact w_at57 D q0 a r g1 w1 g2 w2 x cI cJ cB cQ cM
      · exact w_at58 D q0 a r g1 w1 g2 w2 x cI cJ cB cQ cM
      · exact w_at59 D q0 a r g1 w1 g2 w2 x cI cJ cB cQ cM
      · exact w_at60 D q0 a r g1 w1 g2 w2 x cI cJ cB cQ cM
      · exact w_at61 D q0 a r g1 w1 g2 w2 x cI cJ cB cQ cM
      · exact w_at62 D q0 a r g1 w1 g2 w2 x cI cJ cB cQ cM
      · exact w_at63 D q0 a r g1 w1 g2 w2 x cI cJ cB cQ cM
      · exact w_at64 D q0 a r g1 w1 g2 w2 x cI cJ cB cQ cM
      · exact w_at65 D q0 a r g1 w1 g2 w2 x cI cJ cB cQ cM
      · exact w_at66 D q0 a r g1 w1 g2 w2 x cI cJ cB cQ cM
      · exact w_at67 D q0 a r g1 w1 g2 w2 x cI cJ cB cQ cM
      · exact w_at68 D q0 a r g1 w1 g2 w2 x cI cJ cB cQ cM
      · exact w_at69 D q0 a r g1 w1 g2 w2 x cI cJ cB cQ cM
      · exact w_at70 D q0 a r g1 w1 g2 w2 x cI cJ cB cQ cM
      · exact w_at71 D q0 a r g1 w1 g2 w2 x cI cJ cB cQ cM
      · exact w_at72 D q0 a r g1 w1 g2 w2 x cI cJ cB cQ cM
      · exact w_at73 D q0 a r g1 w1 g2 w2 x cI cJ cB cQ cM
      · exact w_at74 D q0 a r g1 w1 g2 w2 x cI cJ cB cQ cM
