def m_fl (f : Nat → Int32) (x : Int32) (n : Nat) : Nat → Int32 := fun j => if j < n then x else f j
theorem m_fl_0 (f : Nat → Int32) (x : Int32) : m_fl f x 0 = f := by
  funext j
  exact if_neg (Nat.not_lt_zero j)
theorem m_fl_succ (f : Nat → Int32) (x : Int32) (n : Nat) : upd (m_fl f x n) n x = m_fl f x (n + 1) := by
  funext j
  by_cases h : j = n
  · subst h
    rw [pk_us]
    exact (if_pos (Nat.lt_succ_self j)).symm
  · rw [pk_un h]
    unfold m_fl
    by_cases h2 : j < n
    · rw [if_pos h2, if_pos (by omega)]
    · rw [if_neg h2, if_neg (by omega)]
set_option maxHeartbeats 400000 in
set_option maxRecDepth 100000 in
theorem mJ7_fill (l : Launch) (D : va_G) (q : Nat) (cA : ClassId) (n : Nat) (hn : n < 2 ^ 31) (f : Nat → Int32) (x : Int32) (sz : Nat) : Met l yJ7_fill_53178 wsJ7_fill_53178 ({ frames := 1, cells := 0, slots := 0, locals := 30 }) (va_Pc [.ref q, .int x] (fun U => U.heap.size = sz ∧ va_P D vwCl [(q, .inl (cA, n, .inl f))] U.heap ∧ va_K D vwCl [(cA, .int)] U ∧ va_D (fun _ => True) [(q, .inl (cA, n, .inl f))]))
    (va_Qv (fun _ : Unit => True) (fun _ t => va_P D vwCl [(q, .inl (cA, n, .inl (m_fl f x n)))] t.heap ∧ va_K D vwCl [(cA, .int)] t ∧ va_D (va_A [(q, .inl (cA, n, .inl f))] sz) [(q, .inl (cA, n, .inl (m_fl f x n)))]) (va_A [(q, .inl (cA, n, .inl f))] sz)) 0 0 (va_A [(q, .inl (cA, n, .inl f))] sz) := by
  refine Met.ofW (cc := cJ7_fill_53178) (maxL := 4) (ret := none) (by decide +kernel) rfl ?_
  intro p e s m args below meth c s₁ B hml hv
  obtain ⟨rfl, hsz, hP, hK, hD0⟩ := hv
  have hx := B.exec
  have hb := B.bytes
  have hr := B.returns
  have hlocks := B.notSynchronized
  subst hsz
  have hD := hD0.self (sz := s.heap.size)
  generalize hAe : va_A [(q, .inl (cA, n, .inl f))] s.heap.size = A at hD ⊢
  have hS : va_S A s.heap s.heap [] := va_S.rf
  have hl := lv_entry ([.ref q, .int x]) (n := 4) (Nat.le_of_ble_eq_true rfl)
  rw [lg_entry_eq]
  generalize (lg_sl ([.ref q, .int x]) ++ List.replicate (4 - (lg_sl ([.ref q, .int x])).length) Slot.unset).toArray = ls at hl ⊢
  have hl : lv_has ls 4 [(0, .ref q), (1, .int x)] := hl
  refine lv_iconst (v := nI 0) hx hb dJ7_fill_53178_0 (by decide) ?_
  refine lv_istore_n (lv' := [(2, .int (nI 0)), (0, .ref q), (1, .int x)]) hx hb dJ7_fill_53178_1 rfl hl (by decide) rfl (fun ls hl => ?_)
  refine lv_aload_n hx hb dJ7_fill_53178_2 rfl (lv_at hl 1 rfl) ?_
  refine va_alen (x := (n, .inl f)) (v := nI n) hx hb hK hP 0 0 rfl rfl rfl dJ7_fill_53178_3 ?_
  refine lv_istore_n (lv' := [(3, .int (nI n)), (2, .int (nI 0)), (0, .ref q), (1, .int x)]) hx hb dJ7_fill_53178_4 rfl hl (by decide) rfl (fun ls hl => ?_)
  have L : ∀ (N j : Nat) (H : Heap) (locs : List Loc) (ls : Array Slot), j ≤ n → va_P D vwCl [(q, .inl (cA, n, .inl (m_fl f x j)))] H → va_D A [(q, .inl (cA, n, .inl (m_fl f x j)))] → va_S A s.heap H locs → lv_has ls 4 [(2, .int (nI j)), (0, .ref q), (1, .int x), (3, .int (nI n))] → n - j < N → W p l e (headSpec wsJ7_fill_53178 { frames := 1, cells := 0, slots := 0, locals := 30 }).room s m #[Value.ref q, Value.int x] below meth c H locs 0 0 (MQ below (va_Qv (fun _ : Unit => True) (fun _ t => va_P D vwCl [(q, .inl (cA, n, .inl (m_fl f x n)))] t.heap ∧ va_K D vwCl [(cA, .int)] t ∧ va_D A [(q, .inl (cA, n, .inl (m_fl f x n)))]) A) #[Value.ref q, Value.int x] s 0 0 A) (F0 m 5 ls []) := by
    intro N
    induction N with
    | zero => intro j H locs ls _ _ _ _ _ h; exact absurd h (Nat.not_lt_zero _)
    | succ N ih =>
      intro j H locs ls hj hP hD hS hl hm
      refine lv_iload_n hx hb dJ7_fill_53178_5 rfl (lv_at hl 0 rfl) ?_
      refine lv_iload_n hx hb dJ7_fill_53178_6 rfl (lv_at hl 3 rfl) ?_
      refine lv_icmp_ge (tgt := 20) hx hb dJ7_fill_53178_7 (by decide) (fun c7 => ?_) (fun c7 => ?_)
      · have e : j = n := by have := (nI_leI (by omega) (by omega)).mp c7; omega
        subst e
        exact W.vret hx hb hr (fun t ht hW => ⟨⟨(), rfl, trivial, by rw [ht]; exact hP, va_K.moved hW.alike hK, hD⟩, hS.F ht⟩) hS.2.2 dJ7_fill_53178_20
      · have hjn : j < n := by
          rcases Nat.lt_or_ge j n with z | z
          · exact z
          · exact absurd ((nI_leI (by omega) (by omega)).mpr z) c7
        refine lv_aload_n hx hb dJ7_fill_53178_10 rfl (lv_at hl 1 rfl) ?_
        refine lv_iload_n hx hb dJ7_fill_53178_11 rfl (lv_at hl 0 rfl) ?_
        refine lv_iload_n hx hb dJ7_fill_53178_12 rfl (lv_at hl 2 rfl) ?_
        refine va_iast hx hb hK hP hD hS 0 0 rfl rfl (vp_in_nI hjn hn) dJ7_fill_53178_13 (fun H1 locs1 hP hD hS => ?_)
        rw [nI_clamp (by omega), m_fl_succ] at hP hD
        refine lv_iinc (v := nI (j + 1)) (lv' := [(2, .int (nI (j + 1))), (0, .ref q), (1, .int x), (3, .int (nI n))]) hx hb dJ7_fill_53178_14 hl (k := 0) rfl (by exact nI_add j 1) (by decide) rfl (fun ls hl => ?_)
        refine lv_goto (tgt := 5) hx hb dJ7_fill_53178_17 (by decide) ?_
        exact ih (j + 1) H1 locs1 ls (by omega) hP hD hS hl (by omega)
  rw [← m_fl_0 f x] at hP hD
  exact L _ 0 s.heap [] ls (Nat.zero_le n) hP hD hS (lv_sub hl [1, 2, 3, 0] rfl) (Nat.lt_succ_self _)
