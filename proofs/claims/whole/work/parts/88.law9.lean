theorem w_idx (k : Nat) (h : k < 32) : k = 0 ∨ k = 1 ∨ k = 2 ∨ k = 3 ∨ k = 4 ∨ k = 5 ∨ k = 6 ∨ k = 7 ∨ k = 8 ∨ k = 9 ∨ k = 10 ∨ k = 11 ∨ k = 12 ∨ k = 13 ∨ k = 14 ∨ k = 15 ∨ k = 16 ∨ k = 17 ∨ k = 18 ∨ k = 19 ∨ k = 20 ∨ k = 21 ∨ k = 22 ∨ k = 23 ∨ k = 24 ∨ k = 25 ∨ k = 26 ∨ k = 27 ∨ k = 28 ∨ k = 29 ∨ k = 30 ∨ k = 31 := by omega
set_option maxHeartbeats 2000000 in
set_option maxRecDepth 20000 in
theorem w_loop {σ : q_E} {p : Program} {e : Env} {s : State} {m : MethodId} {below : List Frame} {meth : Method} {c : Code} {b L : Nat} {xs : Nat → Int32} (l : Launch) (hlf : l.stackTraces = false) (C : q_C σ p s m #[Value.ref b] c cL_law 8 RL wsL_law) (X : w_X σ s b L xs) (hr : meth.sig.returnType = ret) (hlocks : meth.locks = false) (hσ : ∀ k, k < 90 → s.heap.size ≤ σ.2.1 k) : ∀ (N : Nat) (V : q_V) (G : q_G) (n ns i cells slots : Nat), q_Rel V G n ns → i ≤ L → L - i < N → cells + 2 * (L - i) ≤ 601000 → slots + 12 * (L - i) ≤ 7293000 → q_W σ p l e room_1 s m #[Value.ref b] below meth c (lw_Z below #[Value.ref b] s) 8 cells slots V G (w_lv σ b i) 23 [] := by
  intro N
  induction N with
  | zero => intro V G n ns i cells slots _ _ hN _ _; exact absurd hN (Nat.not_lt_zero _)
  | succ N ih =>
    intro V G n ns i cells slots h hiL hN hc hs
    have hL : L ≤ 2048 := X.2.2.2
    refine q_iload C dL_law_23 4 rfl ?_
    refine q_aload_n C dL_law_25 rfl 0 rfl ?_
    refine w_slen C X dL_law_26 ?_
    refine q_iconst C (nI 4) dL_law_27 (by decide) ?_
    refine q_isub C dL_law_28 ?_
    refine q_icmp_gt C 1759 dL_law_29 (by decide) (fun c1 => ?_) (fun c1 => ?_)
    · refine q_iconst C 1 dL_law_1759 (by decide) ?_
      exact w_ret C hr hlocks hσ dL_law_1760 (by omega) (by omega)
    · have hi : i + 4 ≤ L := w_room hL (by omega) c1
      have hcs : cells + 6 ≤ 601024 ∧ slots + 36 ≤ 7293034 := ⟨by omega, by omega⟩
      have K : ∀ (V9 : q_V) (G9 : q_G), (∃ n ns, q_Rel V9 G9 n ns) → q_W σ p l e room_1 s m #[Value.ref b] below meth c (lw_Z below #[Value.ref b] s) 8 (cells + 6) (slots + 36) V9 G9 (w_lv σ b i) 1753 [] := by
        intro V9 G9 h9
        obtain ⟨n9, ns9, h9⟩ := h9
        refine q_iinc C (nI (i + 4)) [(4, .int (nI (i + 4))), (0, .ref b), (1, .ref (σ.2.1 0)), (2, .ref (σ.2.1 19)), (3, .ref (σ.2.1 18))] dL_law_1753 4 rfl (by exact nI_add i 4) (by decide) rfl ?_
        refine q_goto C 23 dL_law_1756 (by decide) ?_
        exact q_sub [1, 2, 3, 4, 0] rfl (ih V9 G9 n9 ns9 (i + 4) (cells + 6) (slots + 36) h9 hi (by omega) (by omega) (by omega))
      refine q_aload_n C dL_law_32 rfl 0 rfl ?_
      refine q_iload C dL_law_33 4 rfl ?_
      refine w_sld C X (by omega) dL_law_35 ?_
      refine q_bipush C (nI 31) dL_law_36 (by decide) ?_
      refine q_iand C dL_law_38 ?_
      obtain ⟨k, hk, ek⟩ := w_mask (xs i)
      rw [ek]
      rcases w_idx k hk with rfl | rfl | rfl | rfl | rfl | rfl | rfl | rfl | rfl | rfl | rfl | rfl | rfl | rfl | rfl | rfl | rfl | rfl | rfl | rfl | rfl | rfl | rfl | rfl | rfl | rfl | rfl | rfl | rfl | rfl | rfl | rfl
      · exact q_tableIn C (off := 125) 164 dL_law_39 (by decide) (by decide) (by decide) (by decide) (w_bring l hlf C X h hi hcs K)
      · exact q_tableIn C (off := 205) 244 dL_law_39 (by decide) (by decide) (by decide) (by decide) (w_lay l hlf C X h hi hcs K)
      · exact q_tableIn C (off := 285) 324 dL_law_39 (by decide) (by decide) (by decide) (by decide) (w_hand l hlf C X h hi hcs K)
      · exact q_tableIn C (off := 353) 392 dL_law_39 (by decide) (by decide) (by decide) (by decide) (w_beads l hlf C X h hi hcs K)
      · exact q_tableIn C (off := 409) 448 dL_law_39 (by decide) (by decide) (by decide) (by decide) (w_brought l hlf C X h hi hcs K)
      · exact q_tableIn C (off := 465) 504 dL_law_39 (by decide) (by decide) (by decide) (by decide) (w_draft l hlf C X h hi hcs K)
      · exact q_tableIn C (off := 533) 572 dL_law_39 (by decide) (by decide) (by decide) (by decide) (w_bead l hlf C X h hi hcs K)
      · exact q_tableIn C (off := 613) 652 dL_law_39 (by decide) (by decide) (by decide) (by decide) (w_pattern l hlf C X h hi hcs K)
      · exact q_tableIn C (off := 669) 708 dL_law_39 (by decide) (by decide) (by decide) (by decide) (w_patterns l hlf C X h hi hcs K)
      · exact q_tableIn C (off := 682) 721 dL_law_39 (by decide) (by decide) (by decide) (by decide) (w_symmetries l hlf C X h hi hcs K)
      · exact q_tableIn C (off := 738) 777 dL_law_39 (by decide) (by decide) (by decide) (by decide) (w_origin l hlf C X h hi hcs K)
      · exact q_tableIn C (off := 794) 833 dL_law_39 (by decide) (by decide) (by decide) (by decide) (w_needs l hlf C X h hi hcs K)
      · exact q_tableIn C (off := 862) 901 dL_law_39 (by decide) (by decide) (by decide) (by decide) (w_weave l hlf C X h hi hcs K)
      · exact q_tableIn C (off := 930) 969 dL_law_39 (by decide) (by decide) (by decide) (by decide) (w_apart l hlf C X h hi hcs K)
      · exact q_tableIn C (off := 986) 1025 dL_law_39 (by decide) (by decide) (by decide) (by decide) (w_give l hlf C X h hi hcs K)
      · exact q_tableIn C (off := 1054) 1093 dL_law_39 (by decide) (by decide) (by decide) (by decide) (w_owner l hlf C X h hi hcs K)
      · exact q_tableIn C (off := 1110) 1149 dL_law_39 (by decide) (by decide) (by decide) (by decide) (w_credits l hlf C X h hi hcs K)
      · exact q_tableIn C (off := 1166) 1205 dL_law_39 (by decide) (by decide) (by decide) (by decide) (w_wish l hlf C X h hi hcs K)
      · exact q_tableIn C (off := 1253) 1292 dL_law_39 (by decide) (by decide) (by decide) (by decide) (w_unwish l hlf C X h hi hcs K)
      · exact q_tableIn C (off := 1316) 1355 dL_law_39 (by decide) (by decide) (by decide) (by decide) (w_chain l hlf C X h hi hcs K)
      · exact q_tableIn C (off := 1329) 1368 dL_law_39 (by decide) (by decide) (by decide) (by decide) (w_chainByOrders l hlf C X h hi hcs K)
      · exact q_tableIn C (off := 1342) 1381 dL_law_39 (by decide) (by decide) (by decide) (by decide) (w_chainAt l hlf C X h hi hcs K)
      · exact q_tableIn C (off := 1398) 1437 dL_law_39 (by decide) (by decide) (by decide) (by decide) (w_fair l hlf C X h hi hcs K)
      · exact q_tableIn C (off := 1411) 1450 dL_law_39 (by decide) (by decide) (by decide) (by decide) (w_sign l hlf C X h hi hcs K)
      · exact q_tableIn C (off := 1467) 1506 dL_law_39 (by decide) (by decide) (by decide) (by decide) (w_stands l hlf C X h hi hcs K)
      · exact q_tableIn C (off := 1535) 1574 dL_law_39 (by decide) (by decide) (by decide) (by decide) (w_story l hlf C X h hi hcs K)
      · exact q_tableIn C (off := 1591) 1630 dL_law_39 (by decide) (by decide) (by decide) (by decide) (w_hear l hlf C X h hi hcs K)
      · exact q_tableIn C (off := 1658) 1697 dL_law_39 (by decide) (by decide) (by decide) (by decide) (w_ranked l hlf C X h hi hcs K)
      · exact q_tableOut C 1753 dL_law_39 (Or.inr (by decide)) (by decide) (w_widen (by omega) (by omega) (K V G ⟨n, ns, h⟩))
      · exact q_tableOut C 1753 dL_law_39 (Or.inr (by decide)) (by decide) (w_widen (by omega) (by omega) (K V G ⟨n, ns, h⟩))
      · exact q_tableOut C 1753 dL_law_39 (Or.inr (by decide)) (by decide) (w_widen (by omega) (by omega) (K V G ⟨n, ns, h⟩))
      · exact q_tableOut C 1753 dL_law_39 (Or.inr (by decide)) (by decide) (w_widen (by omega) (by omega) (K V G ⟨n, ns, h⟩))
