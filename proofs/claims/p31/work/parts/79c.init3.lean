theorem m_haB (n : Nat) (cA : ClassId) : vp_cell cA (n, .inl (fun _ => (0 : Int32))) = arrV cA n (fun _ => defaultValue .boolean) := rfl
theorem m_haJ (n : Nat) (cA : ClassId) : vp_cell cA (n, .inr (.inl (fun _ => (0 : Int64)))) = arrV cA n (fun _ => defaultValue .long) := rfl
theorem va_RA.one {U : State} {c1 c2 : ClassId} {ty : FieldType} (h1 : va_RA U c1 ty) (h2 : va_RA U c2 ty) : c1 = c2 := by
  cases ty with
  | object C =>
    obtain ⟨_, _, -, -, -, a⟩ := h1
    obtain ⟨_, _, -, -, -, b⟩ := h2
    exact Option.some.inj (a.symm.trans b)
  | _ => exact Option.some.inj (Eq.trans (Eq.symm h1) h2)
theorem m_same {D : va_G} {cl : List vw_C} {tys : List (ClassId × FieldType)} {U : State} (h : va_K D cl tys U) {c1 c2 : ClassId} {ty : FieldType} (i j : Nat) (h1 : tys[i]? = some (c1, ty)) (h2 : tys[j]? = some (c2, ty)) : c1 = c2 := (h.2 i _ h1).2.one (h.2 j _ h2).2
/-- the barter's things as its maker leaves them -/
def m_W0 (h0 : Nat) (a : Nat → Nat) (cI cB : ClassId) : va_W := [(h0, .inr (0, [.ref (a 0), .ref (a 1), .ref (a 2), .ref (a 3), .ref (a 4), .int 0])), (a 0, .inl (cI, 7, .inl (m_fl (fun _ => 0) (-1) 7))), (a 1, .inl (cI, 7, .inl (m_fl (fun _ => 0) (-1) 7))), (a 2, .inl (cB, 7, .inl (fun _ => 0))), (a 3, .inl (cI, 7, .inl (fun _ => 0))), (a 4, .inl (cI, 7, .inl (fun _ => 0)))]
set_option maxHeartbeats 1000000 in
set_option maxRecDepth 100000 in
theorem mX0_init (l : Launch) (D : va_G) (h0 : Nat) (sz : Nat) : Met l yX0_init wsX0_init ({ frames := 2, cells := 5, slots := 35, locals := 100 }) (va_Pc [.ref h0] (fun U => U.heap.size = sz ∧ va_P D vwCl [(h0, .inr (0, [.null, .null, .null, .null, .null, .int 0]))] U.heap ∧ va_K D vwCl [] U ∧ va_D (fun _ => True) [(h0, .inr (0, [.null, .null, .null, .null, .null, .int 0]))]))
    (va_Qv (fun _ : (Nat → Nat) × ClassId × ClassId => True) (fun u t => va_P D vwCl (m_W0 h0 u.1 u.2.1 u.2.2) t.heap ∧ va_K D vwCl [(u.2.1, .int), (u.2.2, .boolean)] t ∧ va_D (va_A [(h0, .inr (0, [.null, .null, .null, .null, .null, .int 0]))] sz) (m_W0 h0 u.1 u.2.1 u.2.2)) (va_A [(h0, .inr (0, [.null, .null, .null, .null, .null, .int 0]))] sz)) 5 35 (va_A [(h0, .inr (0, [.null, .null, .null, .null, .null, .int 0]))] sz) := by
  refine Met.ofW (cc := cX0_init) (maxL := 1) (ret := none) (by decide +kernel) rfl ?_
  intro p e s m args below meth c s₁ B hml hv
  obtain ⟨rfl, hsz, hP, hK, hD0⟩ := hv
  have hx := B.exec
  have hb := B.bytes
  have hr := B.returns
  have hts := atoms_spec (ws := wsX0_init) B.pre
  have hown : s.vm.findClass RX0 = some m.cls := findClass_of_methodNamed B.named
  have hlocks := B.notSynchronized
  have hin : meth.name = "<init>" := (name_of_methodNamed B.named B.method).1
  subst hsz
  have hD := hD0.self (sz := s.heap.size)
  generalize hAe : va_A [(h0, .inr (0, [.null, .null, .null, .null, .null, .int 0]))] s.heap.size = A at hD ⊢
  have hA : ∀ q : Nat, s.heap.size ≤ q → A q := fun q h => by rw [← hAe]; exact Or.inr h
  have hS : va_S A s.heap s.heap [] := va_S.rf
  have hP : va_P D vwCl [(h0, .inr (0, [.null, .null, .null, .null, .null, .int 0]))] s.heap := hP
  have hl := lv_entry ([.ref h0]) (n := 1) (Nat.le_of_ble_eq_true rfl)
  rw [lg_entry_eq]
  generalize (lg_sl ([.ref h0]) ++ List.replicate (1 - (lg_sl ([.ref h0])).length) Slot.unset).toArray = ls at hl ⊢
  have hl : lv_has ls 1 [(0, .ref h0)] := hl
  refine lv_aload_n hx hb dX0_init_0 rfl (lv_at hl 0 rfl) ?_
  refine W.objInit hx hb hown (hts (.methodLink RX0 3 objectInit) (by decide +kernel)) (hts (.instanceMethod objectInit) (by decide +kernel)) (hts (.code objectInit ⟨#[0xb1]⟩ 1 none) (by decide +kernel)) rfl (by rw [hml]; exact hl.1) rfl dX0_init_1 (Nat.le_of_ble_eq_true rfl) (Nat.le_of_ble_eq_true rfl) ?_
  refine W.eq (g2 := F0 m 4 ls []) rfl ?_
  refine lv_aload_n hx hb dX0_init_4 rfl (lv_at hl 0 rfl) ?_
  refine lv_bipush (v := 7) hx hb dX0_init_5 (by decide) ?_
  refine va_newa (atype := .int) (ty := .int) (N' := 7) (a0 := (7, .inl (fun _ => 0))) hx hb (hts (.arrayClass .int) (by decide +kernel)) rfl hK hP hD hS hA (m_haI 7) (by decide +kernel) (by decide +kernel) (by decide +kernel) (Nat.le_of_ble_eq_true rfl) (Nat.le_of_ble_eq_true rfl) dX0_init_7 (fun q7 cI H hK hP hD hS => ?_)
  have hP : va_P D vwCl [(h0, .inr (0, [.null, .null, .null, .null, .null, .int 0])), (q7, .inl (cI, 7, .inl (fun _ => 0)))] H := hP
  have hD : va_D A [(h0, .inr (0, [.null, .null, .null, .null, .null, .int 0])), (q7, .inl (cI, 7, .inl (fun _ => 0)))] := hD
  have hK : va_K D vwCl [(cI, .int)] s := hK
  refine va_putF (ci := 0) (v := .ref q7) (ty := .array .int) (C := RX0) (T := TX0) (N := 6) hx hb hts (by decide +kernel) tyX0 tyX0_ok nmX0 hown hK hP hD hS 0 rfl rfl 0 (by decide) (hts (.fieldLink RX0 9 "BeadParley$Barter" "gives" "[I") (by decide +kernel)) (fun _ h9 => h9) rfl hin rfl (by decide +kernel) rfl rfl (Nat.le_of_ble_eq_true rfl) dX0_init_9 (fun H locs hP hD hS => ?_)
  have hP : va_P D vwCl [(h0, .inr (0, [.ref q7, .null, .null, .null, .null, .int 0])), (q7, .inl (cI, 7, .inl (fun _ => 0)))] H := hP
  have hD : va_D A [(h0, .inr (0, [.ref q7, .null, .null, .null, .null, .int 0])), (q7, .inl (cI, 7, .inl (fun _ => 0)))] := hD
  refine lv_aload_n hx hb dX0_init_12 rfl (lv_at hl 0 rfl) ?_
  refine lv_bipush (v := 7) hx hb dX0_init_13 (by decide) ?_
  refine va_newa (atype := .int) (ty := .int) (N' := 7) (a0 := (7, .inl (fun _ => 0))) hx hb (hts (.arrayClass .int) (by decide +kernel)) rfl hK hP hD hS hA (m_haI 7) (by decide +kernel) (by decide +kernel) (by decide +kernel) (Nat.le_of_ble_eq_true rfl) (Nat.le_of_ble_eq_true rfl) dX0_init_15 (fun q15 cA H hK hP hD hS => ?_)
  have e9 : cI = cA := m_same hK 0 1 rfl rfl
  subst e9
  have hK : va_K D vwCl [(cI, .int)] s := hK.sub [0] rfl
  have hP : va_P D vwCl [(h0, .inr (0, [.ref q7, .null, .null, .null, .null, .int 0])), (q7, .inl (cI, 7, .inl (fun _ => 0))), (q15, .inl (cI, 7, .inl (fun _ => 0)))] H := hP
  have hD : va_D A [(h0, .inr (0, [.ref q7, .null, .null, .null, .null, .int 0])), (q7, .inl (cI, 7, .inl (fun _ => 0))), (q15, .inl (cI, 7, .inl (fun _ => 0)))] := hD
  have hK : va_K D vwCl [(cI, .int)] s := hK
  refine va_putF (ci := 0) (v := .ref q15) (ty := .array .int) (C := RX0) (T := TX0) (N := 6) hx hb hts (by decide +kernel) tyX0 tyX0_ok nmX0 hown hK hP hD hS 0 rfl rfl 1 (by decide) (hts (.fieldLink RX0 15 "BeadParley$Barter" "wants" "[I") (by decide +kernel)) (fun _ h9 => h9) rfl hin rfl (by decide +kernel) rfl rfl (Nat.le_of_ble_eq_true rfl) dX0_init_17 (fun H locs hP hD hS => ?_)
  have hP : va_P D vwCl [(h0, .inr (0, [.ref q7, .ref q15, .null, .null, .null, .int 0])), (q7, .inl (cI, 7, .inl (fun _ => 0))), (q15, .inl (cI, 7, .inl (fun _ => 0)))] H := hP
  have hD : va_D A [(h0, .inr (0, [.ref q7, .ref q15, .null, .null, .null, .int 0])), (q7, .inl (cI, 7, .inl (fun _ => 0))), (q15, .inl (cI, 7, .inl (fun _ => 0)))] := hD
  refine lv_aload_n hx hb dX0_init_20 rfl (lv_at hl 0 rfl) ?_
  refine lv_bipush (v := 7) hx hb dX0_init_21 (by decide) ?_
  refine va_newa (atype := .boolean) (ty := .boolean) (N' := 7) (a0 := (7, .inl (fun _ => 0))) hx hb (hts (.arrayClass .boolean) (by decide +kernel)) rfl hK hP hD hS hA (m_haB 7) (by decide +kernel) (by decide +kernel) (by decide +kernel) (Nat.le_of_ble_eq_true rfl) (Nat.le_of_ble_eq_true rfl) dX0_init_23 (fun q23 cB H hK hP hD hS => ?_)
  have hP : va_P D vwCl [(h0, .inr (0, [.ref q7, .ref q15, .null, .null, .null, .int 0])), (q7, .inl (cI, 7, .inl (fun _ => 0))), (q15, .inl (cI, 7, .inl (fun _ => 0))), (q23, .inl (cB, 7, .inl (fun _ => 0)))] H := hP
  have hD : va_D A [(h0, .inr (0, [.ref q7, .ref q15, .null, .null, .null, .int 0])), (q7, .inl (cI, 7, .inl (fun _ => 0))), (q15, .inl (cI, 7, .inl (fun _ => 0))), (q23, .inl (cB, 7, .inl (fun _ => 0)))] := hD
  have hK : va_K D vwCl [(cI, .int), (cB, .boolean)] s := hK
  refine va_putF (ci := 0) (v := .ref q23) (ty := .array .boolean) (C := RX0) (T := TX0) (N := 6) hx hb hts (by decide +kernel) tyX0 tyX0_ok nmX0 hown hK hP hD hS 0 rfl rfl 2 (by decide) (hts (.fieldLink RX0 18 "BeadParley$Barter" "ready" "[Z") (by decide +kernel)) (fun _ h9 => h9) rfl hin rfl (by decide +kernel) rfl rfl (Nat.le_of_ble_eq_true rfl) dX0_init_25 (fun H locs hP hD hS => ?_)
  have hP : va_P D vwCl [(h0, .inr (0, [.ref q7, .ref q15, .ref q23, .null, .null, .int 0])), (q7, .inl (cI, 7, .inl (fun _ => 0))), (q15, .inl (cI, 7, .inl (fun _ => 0))), (q23, .inl (cB, 7, .inl (fun _ => 0)))] H := hP
  have hD : va_D A [(h0, .inr (0, [.ref q7, .ref q15, .ref q23, .null, .null, .int 0])), (q7, .inl (cI, 7, .inl (fun _ => 0))), (q15, .inl (cI, 7, .inl (fun _ => 0))), (q23, .inl (cB, 7, .inl (fun _ => 0)))] := hD
  refine lv_aload_n hx hb dX0_init_28 rfl (lv_at hl 0 rfl) ?_
  refine lv_bipush (v := 7) hx hb dX0_init_29 (by decide) ?_
  refine va_newa (atype := .int) (ty := .int) (N' := 7) (a0 := (7, .inl (fun _ => 0))) hx hb (hts (.arrayClass .int) (by decide +kernel)) rfl hK hP hD hS hA (m_haI 7) (by decide +kernel) (by decide +kernel) (by decide +kernel) (Nat.le_of_ble_eq_true rfl) (Nat.le_of_ble_eq_true rfl) dX0_init_31 (fun q31 cA H hK hP hD hS => ?_)
  have e9 : cI = cA := m_same hK 0 2 rfl rfl
  subst e9
  have hK : va_K D vwCl [(cI, .int), (cB, .boolean)] s := hK.sub [0, 1] rfl
  have hP : va_P D vwCl [(h0, .inr (0, [.ref q7, .ref q15, .ref q23, .null, .null, .int 0])), (q7, .inl (cI, 7, .inl (fun _ => 0))), (q15, .inl (cI, 7, .inl (fun _ => 0))), (q23, .inl (cB, 7, .inl (fun _ => 0))), (q31, .inl (cI, 7, .inl (fun _ => 0)))] H := hP
  have hD : va_D A [(h0, .inr (0, [.ref q7, .ref q15, .ref q23, .null, .null, .int 0])), (q7, .inl (cI, 7, .inl (fun _ => 0))), (q15, .inl (cI, 7, .inl (fun _ => 0))), (q23, .inl (cB, 7, .inl (fun _ => 0))), (q31, .inl (cI, 7, .inl (fun _ => 0)))] := hD
  have hK : va_K D vwCl [(cI, .int), (cB, .boolean)] s := hK
  refine va_putF (ci := 0) (v := .ref q31) (ty := .array .int) (C := RX0) (T := TX0) (N := 6) hx hb hts (by decide +kernel) tyX0 tyX0_ok nmX0 hown hK hP hD hS 0 rfl rfl 3 (by decide) (hts (.fieldLink RX0 22 "BeadParley$Barter" "row" "[I") (by decide +kernel)) (fun _ h9 => h9) rfl hin rfl (by decide +kernel) rfl rfl (Nat.le_of_ble_eq_true rfl) dX0_init_33 (fun H locs hP hD hS => ?_)
  have hP : va_P D vwCl [(h0, .inr (0, [.ref q7, .ref q15, .ref q23, .ref q31, .null, .int 0])), (q7, .inl (cI, 7, .inl (fun _ => 0))), (q15, .inl (cI, 7, .inl (fun _ => 0))), (q23, .inl (cB, 7, .inl (fun _ => 0))), (q31, .inl (cI, 7, .inl (fun _ => 0)))] H := hP
  have hD : va_D A [(h0, .inr (0, [.ref q7, .ref q15, .ref q23, .ref q31, .null, .int 0])), (q7, .inl (cI, 7, .inl (fun _ => 0))), (q15, .inl (cI, 7, .inl (fun _ => 0))), (q23, .inl (cB, 7, .inl (fun _ => 0))), (q31, .inl (cI, 7, .inl (fun _ => 0)))] := hD
  refine lv_aload_n hx hb dX0_init_36 rfl (lv_at hl 0 rfl) ?_
  refine lv_bipush (v := 7) hx hb dX0_init_37 (by decide) ?_
  refine va_newa (atype := .int) (ty := .int) (N' := 7) (a0 := (7, .inl (fun _ => 0))) hx hb (hts (.arrayClass .int) (by decide +kernel)) rfl hK hP hD hS hA (m_haI 7) (by decide +kernel) (by decide +kernel) (by decide +kernel) (Nat.le_of_ble_eq_true rfl) (Nat.le_of_ble_eq_true rfl) dX0_init_39 (fun q39 cA H hK hP hD hS => ?_)
  have e9 : cI = cA := m_same hK 0 2 rfl rfl
  subst e9
  have hK : va_K D vwCl [(cI, .int), (cB, .boolean)] s := hK.sub [0, 1] rfl
  have hP : va_P D vwCl [(h0, .inr (0, [.ref q7, .ref q15, .ref q23, .ref q31, .null, .int 0])), (q7, .inl (cI, 7, .inl (fun _ => 0))), (q15, .inl (cI, 7, .inl (fun _ => 0))), (q23, .inl (cB, 7, .inl (fun _ => 0))), (q31, .inl (cI, 7, .inl (fun _ => 0))), (q39, .inl (cI, 7, .inl (fun _ => 0)))] H := hP
  have hD : va_D A [(h0, .inr (0, [.ref q7, .ref q15, .ref q23, .ref q31, .null, .int 0])), (q7, .inl (cI, 7, .inl (fun _ => 0))), (q15, .inl (cI, 7, .inl (fun _ => 0))), (q23, .inl (cB, 7, .inl (fun _ => 0))), (q31, .inl (cI, 7, .inl (fun _ => 0))), (q39, .inl (cI, 7, .inl (fun _ => 0)))] := hD
  have hK : va_K D vwCl [(cI, .int), (cB, .boolean)] s := hK
  refine va_putF (ci := 0) (v := .ref q39) (ty := .array .int) (C := RX0) (T := TX0) (N := 6) hx hb hts (by decide +kernel) tyX0 tyX0_ok nmX0 hown hK hP hD hS 0 rfl rfl 4 (by decide) (hts (.fieldLink RX0 25 "BeadParley$Barter" "best" "[I") (by decide +kernel)) (fun _ h9 => h9) rfl hin rfl (by decide +kernel) rfl rfl (Nat.le_of_ble_eq_true rfl) dX0_init_41 (fun H locs hP hD hS => ?_)
  have hP : va_P D vwCl [(h0, .inr (0, [.ref q7, .ref q15, .ref q23, .ref q31, .ref q39, .int 0])), (q7, .inl (cI, 7, .inl (fun _ => 0))), (q15, .inl (cI, 7, .inl (fun _ => 0))), (q23, .inl (cB, 7, .inl (fun _ => 0))), (q31, .inl (cI, 7, .inl (fun _ => 0))), (q39, .inl (cI, 7, .inl (fun _ => 0)))] H := hP
  have hD : va_D A [(h0, .inr (0, [.ref q7, .ref q15, .ref q23, .ref q31, .ref q39, .int 0])), (q7, .inl (cI, 7, .inl (fun _ => 0))), (q15, .inl (cI, 7, .inl (fun _ => 0))), (q23, .inl (cB, 7, .inl (fun _ => 0))), (q31, .inl (cI, 7, .inl (fun _ => 0))), (q39, .inl (cI, 7, .inl (fun _ => 0)))] := hD
  refine lv_aload_n hx hb dX0_init_44 rfl (lv_at hl 0 rfl) ?_
  refine va_get (ci := 0) (v := .ref q7) (C := RX0) (T := TX0) (N := 6) hx hb hts (by decide +kernel) hown hK hP 0 rfl rfl 0 (by decide) (hts (.fieldLink RX0 9 "BeadParley$Barter" "gives" "[I") (by decide +kernel)) (fun _ h9 => h9) rfl dX0_init_45 ?_
  refine lv_iconst (v := -1) hx hb dX0_init_48 (by decide) ?_
  have hKc := hK.sub (tys' := [(cI, .int)]) [0] rfl
  have hPc := hP.sub (ws' := [(q7, .inl (cI, 7, .inl (fun _ => 0)))]) [1] rfl
  have hDc := hD.sub (ws' := [(q7, .inl (cI, 7, .inl (fun _ => 0)))]) [1] (by decide) rfl
  have hFc := va_free (wc := [(q7, .inl (cI, 7, .inl (fun _ => 0)))]) hD hS hA [1] rfl
  refine va_callv (va_runS (As := [.ref q7, .int (-1)]) (rest := []) ⟨hx, hb, hml, hown, hts⟩ (mJ7_fill l D q7 cI 7 (by decide) (fun _ => 0) (-1) H.size) (va_cwS 2 hts gX0_init_J7_fill_53178 rfl rfl rfl ⟨by decide +kernel, by decide +kernel, by decide +kernel⟩ ⟨Nat.le_of_ble_eq_true rfl, Nat.le_of_ble_eq_true rfl⟩) ⟨fun a U g mk q => by obtain ⟨q0, q1, qP, qK, qD⟩ := q; exact ⟨q0, q1, qP, va_K.moved (u := U) (U := U.calling g mk a) (Vm.Alike.refl U.vm) qK, qD⟩, fun U hU hW => ⟨rfl, by rw [hU], by rw [hU]; exact hPc, va_K.moved hW.alike hKc, hDc.weaken (fun _ _ _ _ => trivial)⟩⟩ rfl rfl hl.1 rfl (lv_room (Nat.le_of_ble_eq_true rfl)) dX0_init_49 ⟨(Nat.le_of_ble_eq_true rfl), (Nat.le_of_ble_eq_true rfl)⟩) hS (fun q _ h => hFc q h) hFc (fun u t H1 locs ht hvm hw hB hz1 hk1 hS => ?_)
  obtain ⟨hP1, hK1, hD1⟩ := hB
  rw [ht] at hP1
  obtain ⟨hP, hD⟩ := va_join (wr := [(h0, .inr (0, [.ref q7, .ref q15, .ref q23, .ref q31, .ref q39, .int 0])), (q15, .inl (cI, 7, .inl (fun _ => 0))), (q23, .inl (cB, 7, .inl (fun _ => 0))), (q31, .inl (cI, 7, .inl (fun _ => 0))), (q39, .inl (cI, 7, .inl (fun _ => 0)))]) (w1 := [(q7, .inl (cI, 7, .inl (m_fl (fun _ => 0) (-1) 7)))]) hP hD [1] [0, 2, 3, 4, 5] rfl rfl (by decide) (by decide) hk1 hFc hP1 hD1
  generalize H1 = H at hP hS ⊢
  have hP : va_P D vwCl [(h0, .inr (0, [.ref q7, .ref q15, .ref q23, .ref q31, .ref q39, .int 0])), (q15, .inl (cI, 7, .inl (fun _ => 0))), (q23, .inl (cB, 7, .inl (fun _ => 0))), (q31, .inl (cI, 7, .inl (fun _ => 0))), (q39, .inl (cI, 7, .inl (fun _ => 0))), (q7, .inl (cI, 7, .inl (m_fl (fun _ => 0) (-1) 7)))] H := hP
  have hD : va_D A [(h0, .inr (0, [.ref q7, .ref q15, .ref q23, .ref q31, .ref q39, .int 0])), (q15, .inl (cI, 7, .inl (fun _ => 0))), (q23, .inl (cB, 7, .inl (fun _ => 0))), (q31, .inl (cI, 7, .inl (fun _ => 0))), (q39, .inl (cI, 7, .inl (fun _ => 0))), (q7, .inl (cI, 7, .inl (m_fl (fun _ => 0) (-1) 7)))] := hD
  refine lv_aload_n hx hb dX0_init_52 rfl (lv_at hl 0 rfl) ?_
  refine va_get (ci := 0) (v := .ref q15) (C := RX0) (T := TX0) (N := 6) hx hb hts (by decide +kernel) hown hK hP 0 rfl rfl 1 (by decide) (hts (.fieldLink RX0 15 "BeadParley$Barter" "wants" "[I") (by decide +kernel)) (fun _ h9 => h9) rfl dX0_init_53 ?_
  refine lv_iconst (v := -1) hx hb dX0_init_56 (by decide) ?_
  have hKc := hK.sub (tys' := [(cI, .int)]) [0] rfl
  have hPc := hP.sub (ws' := [(q15, .inl (cI, 7, .inl (fun _ => 0)))]) [1] rfl
  have hDc := hD.sub (ws' := [(q15, .inl (cI, 7, .inl (fun _ => 0)))]) [1] (by decide) rfl
  have hFc := va_free (wc := [(q15, .inl (cI, 7, .inl (fun _ => 0)))]) hD hS hA [1] rfl
  refine va_callv (va_runS (As := [.ref q15, .int (-1)]) (rest := []) ⟨hx, hb, hml, hown, hts⟩ (mJ7_fill l D q15 cI 7 (by decide) (fun _ => 0) (-1) H.size) (va_cwS 2 hts gX0_init_J7_fill_53178 rfl rfl rfl ⟨by decide +kernel, by decide +kernel, by decide +kernel⟩ ⟨Nat.le_of_ble_eq_true rfl, Nat.le_of_ble_eq_true rfl⟩) ⟨fun a U g mk q => by obtain ⟨q0, q1, qP, qK, qD⟩ := q; exact ⟨q0, q1, qP, va_K.moved (u := U) (U := U.calling g mk a) (Vm.Alike.refl U.vm) qK, qD⟩, fun U hU hW => ⟨rfl, by rw [hU], by rw [hU]; exact hPc, va_K.moved hW.alike hKc, hDc.weaken (fun _ _ _ _ => trivial)⟩⟩ rfl rfl hl.1 rfl (lv_room (Nat.le_of_ble_eq_true rfl)) dX0_init_57 ⟨(Nat.le_of_ble_eq_true rfl), (Nat.le_of_ble_eq_true rfl)⟩) hS (fun q _ h => hFc q h) hFc (fun u t H1 locs ht hvm hw hB hz1 hk1 hS => ?_)
  obtain ⟨hP1, hK1, hD1⟩ := hB
  rw [ht] at hP1
  obtain ⟨hP, hD⟩ := va_join (wr := [(h0, .inr (0, [.ref q7, .ref q15, .ref q23, .ref q31, .ref q39, .int 0])), (q23, .inl (cB, 7, .inl (fun _ => 0))), (q31, .inl (cI, 7, .inl (fun _ => 0))), (q39, .inl (cI, 7, .inl (fun _ => 0))), (q7, .inl (cI, 7, .inl (m_fl (fun _ => 0) (-1) 7)))]) (w1 := [(q15, .inl (cI, 7, .inl (m_fl (fun _ => 0) (-1) 7)))]) hP hD [1] [0, 2, 3, 4, 5] rfl rfl (by decide) (by decide) hk1 hFc hP1 hD1
  generalize H1 = H at hP hS ⊢
  have hP : va_P D vwCl [(h0, .inr (0, [.ref q7, .ref q15, .ref q23, .ref q31, .ref q39, .int 0])), (q23, .inl (cB, 7, .inl (fun _ => 0))), (q31, .inl (cI, 7, .inl (fun _ => 0))), (q39, .inl (cI, 7, .inl (fun _ => 0))), (q7, .inl (cI, 7, .inl (m_fl (fun _ => 0) (-1) 7))), (q15, .inl (cI, 7, .inl (m_fl (fun _ => 0) (-1) 7)))] H := hP
  have hD : va_D A [(h0, .inr (0, [.ref q7, .ref q15, .ref q23, .ref q31, .ref q39, .int 0])), (q23, .inl (cB, 7, .inl (fun _ => 0))), (q31, .inl (cI, 7, .inl (fun _ => 0))), (q39, .inl (cI, 7, .inl (fun _ => 0))), (q7, .inl (cI, 7, .inl (m_fl (fun _ => 0) (-1) 7))), (q15, .inl (cI, 7, .inl (m_fl (fun _ => 0) (-1) 7)))] := hD
  have hP9 := hP.sub (ws' := m_W0 h0 (fun i => [q7, q15, q23, q31, q39].getD i 0) cI cB) [0, 4, 5, 1, 2, 3] rfl
  have hD9 := hD.sub (ws' := m_W0 h0 (fun i => [q7, q15, q23, q31, q39].getD i 0) cI cB) [0, 4, 5, 1, 2, 3] (by decide) rfl
  exact W.vret hx hb hr (fun t ht hW => ⟨⟨((fun i => [q7, q15, q23, q31, q39].getD i 0), cI, cB), rfl, trivial, by rw [ht]; exact hP9, va_K.moved hW.alike hK, hD9⟩, hS.F ht⟩) hS.2.2 dX0_init_60
