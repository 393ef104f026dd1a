section LAWW
variable {σ : q_E} {p : Program} {l : Launch} {e : Env} {R : Room} {s : State} {m : MethodId} {args : Array Value} {below : List Frame} {meth : Method} {c : Code} {Q : State → Prop} {nL cells slots : Nat} {V : q_V} {G : q_G} {lv : List (Nat × Value)} {pc : Nat} {cc : ByteArray} {own : String} {Ts : List Cond} {st : List Value} {b L : Nat} {xs : Nat → Int32}
/-- the script: outside of the memory, short -/
def w_X (σ : q_E) (s : State) (b L : Nat) (xs : Nat → Int32) : Prop := va_X b L xs s s.heap ∧ b < s.heap.size ∧ ¬ q_A σ s.heap.size b ∧ L ≤ 260
theorem w_sld (C : q_C σ p s m args c cc nL own Ts) (X : w_X σ s b L xs) {j : Nat} (hj : j < L) (hd : decode cc pc = .ok (.iaload, 1)) (kk : q_W σ p l e R s m args below meth c Q nL cells slots V G lv (pc + 1) (.int (xs j) :: st)) : q_W σ p l e R s m args below meth c Q nL cells slots V G lv pc (.int (nI j) :: .ref b :: st) := fun H locs ls hP hS hl => by
  have h9 : L ≤ 260 := X.2.2.2
  refine va_sld C.1 C.2.1 X.1 X.2.1 X.2.2.1 hS (vp_in_nI hj (by omega)) hd ?_
  rw [nI_clamp (by omega)]
  exact kk H locs ls hP hS hl
theorem w_slen (C : q_C σ p s m args c cc nL own Ts) (X : w_X σ s b L xs) (hd : decode cc pc = .ok (.arraylength, 1)) (kk : q_W σ p l e R s m args below meth c Q nL cells slots V G lv (pc + 1) (.int (nI L) :: st)) : q_W σ p l e R s m args below meth c Q nL cells slots V G lv pc (.ref b :: st) := fun H locs ls hP hS hl => va_slen C.1 C.2.1 X.1 X.2.1 X.2.2.1 hS hd (kk H locs ls hP hS hl)
end LAWW
abbrev rL_cell : Room := { frames := 1, cells := 0, slots := 0, locals := 12 }
set_option maxHeartbeats 4000000 in
/-- cell: some number -/
theorem kL_cell (l : Launch) (σ : q_E) (V : q_V) (G : q_G) {b L k : Nat} {xs : Nat → Int32} (hL : L ≤ 260) (hk : k < 1000) (sz : Nat) : Met l yL_cell wsL_cell rL_cell (va_Pc [.ref b, .int (nI k)] (fun U => q_Pc σ sz V G U ∧ va_X b L xs U U.heap ∧ b < sz ∧ ¬ q_A σ sz b)) (va_Qi (fun (_ : Int32) (u : q_V × q_G) => V = u.1 ∧ G = u.2) (q_B σ) (q_A σ sz)) 0 0 (q_A σ sz) := by
  refine Met.ofW (cc := cL_cell) (maxL := 2) (ret := some .int) (by decide +kernel) rfl ?_
  intro p e s m args below meth c s₁ B hml hv
  obtain ⟨rfl, ⟨hsz, hP, hK⟩, hX, hbl, hbA⟩ := hv
  have hl := lv_entry [.ref b, .int (nI k)] (n := 2) (Nat.le_of_ble_eq_true rfl)
  rw [lg_entry_eq]
  subst hsz
  have key : q_W σ p l e rL_cell s m ([.ref b, .int (nI k)] : List Value).toArray below meth c (MQ below (va_Qi (fun (_ : Int32) (u : q_V × q_G) => V = u.1 ∧ G = u.2) (q_B σ) (q_A σ s.heap.size)) ([.ref b, .int (nI k)] : List Value).toArray s 0 0 (q_A σ s.heap.size)) 2 0 0 V G [(0, .ref b), (1, .int (nI k))] 0 [] := by
    have C : q_C σ p s m ([.ref b, .int (nI k)] : List Value).toArray c cL_cell 2 RL wsL_cell := ⟨B.exec, B.bytes, hml, findClass_of_methodNamed B.named, atoms_spec (ws := wsL_cell) B.pre, hK⟩
    have X : w_X σ s b L xs := ⟨hX, hbl, hbA, hL⟩
    have hR : ∀ r : Int32, q_W σ p l e rL_cell s m ([.ref b, .int (nI k)] : List Value).toArray below meth c (MQ below (va_Qi (fun (_ : Int32) (u : q_V × q_G) => V = u.1 ∧ G = u.2) (q_B σ) (q_A σ s.heap.size)) ([.ref b, .int (nI k)] : List Value).toArray s 0 0 (q_A σ s.heap.size)) 2 0 0 V G [(0, .ref b), (1, .int (nI k))] 21 [.int r] := by
      intro r H locs ls hP' hS' hl'
      exact W.zret (v := r) B.exec B.bytes B.returns rfl (fun t ht hW => ⟨⟨r, (V, G), rfl, ⟨rfl, rfl⟩, by show va_P _ _ _ t.heap; rw [ht]; exact hP'⟩, hS'.F ht⟩) hS'.2.2 dL_cell_21 B.notSynchronized
    refine q_iload_n C dL_cell_0 rfl 1 rfl ?_
    refine q_aload_n C dL_cell_1 rfl 0 rfl ?_
    refine w_slen C X dL_cell_2 ?_
    refine q_icmp_geN C 12 dL_cell_3 (by decide) (by omega) (by omega) (fun c_3 => ?_) (fun c_3 => ?_)
    · refine q_ldc C (1000308239 : Int32) dL_cell_12 (by decide +kernel) ?_
      refine q_iload_n C dL_cell_14 rfl 1 rfl ?_
      refine q_iconst C (nI 1) dL_cell_15 (by decide) ?_
      refine q_iadd C dL_cell_16 ?_
      refine q_imul C dL_cell_17 ?_
      refine q_ldc C (751363413 : Int32) dL_cell_18 (by decide +kernel) ?_
      refine q_iadd C dL_cell_20 ?_
      exact hR _
    · refine q_aload_n C dL_cell_6 rfl 0 rfl ?_
      refine q_iload_n C dL_cell_7 rfl 1 rfl ?_
      refine w_sld C X (by omega) dL_cell_8 ?_
      refine q_goto C 21 dL_cell_9 (by decide) ?_
      exact hR _
  exact key s.heap [] _ hP va_S.rf hl
section LAWC
variable {σ : q_E} {p : Program} {l : Launch} {e : Env} {R : Room} {s : State} {m : MethodId} {args : Array Value} {below : List Frame} {meth : Method} {c : Code} {Q : State → Prop} {nL cells slots : Nat} {V : q_V} {G : q_G} {lv : List (Nat × Value)} {pc : Nat} {cc : ByteArray} {own : String} {Ts : List Cond} {rest : List Value} {b L : Nat} {xs : Nat → Int32}
theorem w_cell (C : q_C σ p s m args c cc nL own Ts) (X : w_X σ s b L xs) {k index : Nat} (hk : k < 1000) (hG : GoodIn Ts (va_wsS own index yL_cell wsL_cell)) (hR : rL_cell.frames + 1 ≤ R.frames ∧ 8 + (2 + 11) + rL_cell.locals ≤ R.locals) (hd : decode cc pc = .ok (.invokestatic index, 3)) (hroom : (rest.map fun v => v.category).sum ≤ 8) (hf : cells + 0 ≤ R.cells ∧ slots + 0 ≤ R.slots) (kk : ∀ r : Int32, q_W σ p l e R s m args below meth c Q nL cells slots V G lv (pc + 3) (.int r :: rest)) : q_W σ p l e R s m args below meth c Q nL cells slots V G lv pc (.int (nI k) :: .ref b :: rest) := fun H locs ls hP hS hl => by
  have hH : H[b]? = s.heap[b]? := hS.2.1 b X.2.1 X.2.2.1
  refine va_calli (va_runS (As := [.ref b, .int (nI k)]) (rest := rest) ⟨C.1, C.2.1, C.2.2.1, C.2.2.2.1, C.2.2.2.2.1⟩ (kL_cell l σ V G (xs := xs) X.2.2.2 hk H.size) (va_cwS 2 C.2.2.2.2.1 hG rfl rfl rfl ⟨by decide +kernel, by decide +kernel, by decide +kernel⟩ hR) ⟨fun a U g mk h => ?_, fun U hU hW => ⟨rfl, ⟨by rw [hU], by rw [hU]; exact hP, q_K_run C.2.2.2.2.2 hS hU hW⟩, ?_, ?_, ?_⟩⟩ rfl rfl hl.1 rfl (lv_room hroom) hd hf) hS (fun q _ h => q_A_mono hS.1 h) (fun q h => q_A_mono hS.1 h) (fun r u t H1 locs1 ht hvm hpost hB hz hk1 hS1 => ?_)
  · obtain ⟨h0, ⟨h1, h2, h3⟩, h4, h5, h6⟩ := h
    exact ⟨h0, ⟨h1, h2, q_K_calling h3⟩, va_X.moved (u := U) (U := U.calling g mk a) (Vm.Alike.refl U.vm) h4, h5, h6⟩
  · rw [hU]
    exact (va_X.moved hW.alike X.1).kept hH
  · exact Nat.lt_of_lt_of_le X.2.1 hS.1
  · exact fun h => X.2.2.1 (q_A_mono hS.1 h)
  · have e1 : u.1 = V := hpost.1.symm
    have e2 : u.2 = G := hpost.2.symm
    refine kk r H1 locs1 ls ?_ hS1 hl
    rw [← ht, ← e1, ← e2]
    exact hB
end LAWC
