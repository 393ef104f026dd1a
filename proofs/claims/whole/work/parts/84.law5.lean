set_option maxHeartbeats 1000000 in
set_option maxRecDepth 20000 in
theorem w_patterns {σ : q_E} {p : Program} {e : Env} {s : State} {m : MethodId} {below : List Frame} {meth : Method} {c : Code} {Q : State → Prop} {b L : Nat} {xs : Nat → Int32} (l : Launch) (hlf : l.stackTraces = false) (C : q_C σ p s m #[Value.ref b] c cL_law 8 RL wsL_law) (X : w_X σ s b L xs) {V : q_V} {G : q_G} {n ns : Nat} (h : q_Rel V G n ns) {i cells slots : Nat} (hi : i + 4 ≤ L) (hcs : cells + 6 ≤ 601024 ∧ slots + 36 ≤ 7293034) (kk : ∀ (V9 : q_V) (G9 : q_G), (∃ n ns, q_Rel V9 G9 n ns) → q_W σ p l e room_1 s m #[Value.ref b] below meth c Q 8 (cells + 6) (slots + 36) V9 G9 (w_lv σ b i) 1753 []) : q_W σ p l e room_1 s m #[Value.ref b] below meth c Q 8 cells slots V G (w_lv σ b i) 708 [] := by
  have hh := h
  obtain ⟨h1, h2, h3, h4, h5, h6, h7, h8, h9, h10⟩ := hh
  refine q_aload_n C dL_law_708 rfl 1 rfl ?_
  refine q_callVi C (As := []) (rest := []) (k := 0) (by omega) q_enBP rfl rfl (kX2_patterns l σ V G) 0 gL_law_X2_patterns rfl rfl rfl ⟨by decide +kernel, by decide +kernel, by decide +kernel⟩ ⟨Nat.le_of_ble_eq_true rfl, Nat.le_of_ble_eq_true rfl⟩ dL_law_709 rfl (Nat.le_of_ble_eq_true rfl) ⟨by show cells + 0 ≤ 601024; omega, by show slots + 0 ≤ 7293034; omega⟩ (fun r1 V1 G1 hL => ?_)
  refine q_aload_n C dL_law_712 rfl 2 rfl ?_
  refine q_callVi C (As := []) (rest := [.int r1]) (k := 19) (by omega) q_enMO rfl rfl (kX3_patterns l σ V1 G1) 0 gL_law_X3_patterns rfl rfl rfl ⟨by decide +kernel, by decide +kernel, by decide +kernel⟩ ⟨Nat.le_of_ble_eq_true rfl, Nat.le_of_ble_eq_true rfl⟩ dL_law_713 rfl (Nat.le_of_ble_eq_true rfl) ⟨by show cells + 0 + 0 ≤ 601024; omega, by show slots + 0 + 0 ≤ 7293034; omega⟩ (fun r2 V2 G2 hM => ?_)
  have hst := q_sim_patterns h hL hM
  refine q_icmp_eq C 1753 dL_law_716 (by decide) (fun c1 => ?_) (fun c1 => absurd hst.1 c1)
  exact w_widen (by omega) (by omega) (kk V2 G2 hst.2)
set_option maxHeartbeats 1000000 in
set_option maxRecDepth 20000 in
theorem w_symmetries {σ : q_E} {p : Program} {e : Env} {s : State} {m : MethodId} {below : List Frame} {meth : Method} {c : Code} {Q : State → Prop} {b L : Nat} {xs : Nat → Int32} (l : Launch) (hlf : l.stackTraces = false) (C : q_C σ p s m #[Value.ref b] c cL_law 8 RL wsL_law) (X : w_X σ s b L xs) {V : q_V} {G : q_G} {n ns : Nat} (h : q_Rel V G n ns) {i cells slots : Nat} (hi : i + 4 ≤ L) (hcs : cells + 6 ≤ 601024 ∧ slots + 36 ≤ 7293034) (kk : ∀ (V9 : q_V) (G9 : q_G), (∃ n ns, q_Rel V9 G9 n ns) → q_W σ p l e room_1 s m #[Value.ref b] below meth c Q 8 (cells + 6) (slots + 36) V9 G9 (w_lv σ b i) 1753 []) : q_W σ p l e room_1 s m #[Value.ref b] below meth c Q 8 cells slots V G (w_lv σ b i) 721 [] := by
  have hh := h
  obtain ⟨h1, h2, h3, h4, h5, h6, h7, h8, h9, h10⟩ := hh
  refine q_aload_n C dL_law_721 rfl 1 rfl ?_
  refine q_aload_n C dL_law_722 rfl 0 rfl ?_
  refine q_iload C dL_law_723 4 rfl ?_
  refine q_iconst C (nI 1) dL_law_725 (by decide) ?_
  refine q_iaddN C dL_law_726 ?_
  refine w_sld C X (by omega) dL_law_727 ?_
  refine q_aload_n C dL_law_728 rfl 3 rfl ?_
  refine q_callWi C (As := [.ref (σ.2.1 0), .int (xs (i + 1)), .ref (σ.2.1 18)]) (rest := []) (kL_symmetries l σ V G hlf h4.1 h4.2.2.1 h4.2.2.2.1 (xs (i + 1))) 3 gL_law_L_symmetries rfl rfl rfl ⟨by decide +kernel, by decide +kernel, by decide +kernel⟩ ⟨Nat.le_of_ble_eq_true rfl, Nat.le_of_ble_eq_true rfl⟩ dL_law_729 rfl (Nat.le_of_ble_eq_true rfl) ⟨hcs.1, hcs.2⟩ (fun k V1 G1 hL => ?_)
  have hm : q_m V V1 := by
    rcases hL with ⟨r9, V9, G9, hq, -, rfl, -⟩ | ⟨E9, hq, -⟩
    · obtain ⟨-, -, rfl, -⟩ := hq
      exact q_m_rf V
    · obtain ⟨-, rfl, -⟩ := hq
      exact q_m_rf V
  refine q_istore C [(5, .int k), (0, .ref b), (1, .ref (σ.2.1 0)), (2, .ref (σ.2.1 19)), (3, .ref (σ.2.1 18)), (4, .int (nI i))] dL_law_732 (by decide) rfl ?_
  refine q_aload_n C dL_law_734 rfl 3 rfl ?_
  refine q_aload_n C dL_law_735 rfl 1 rfl ?_
  refine q_iload C dL_law_736 5 rfl ?_
  refine q_iconst C (nI 1) dL_law_738 (by decide) ?_
  refine q_iaddN C dL_law_739 ?_
  refine w_sld C X (by omega) dL_law_740 ?_
  refine q_callVi C (As := [.int (xs (i + 1))]) (rest := []) (k := 19) (by omega) q_enMO rfl rfl (kX3_symmetries l σ V1 G1 (w_mp h4 hm).1 h4.2.2.1 (w_mp h4 hm).2 (xs (i + 1))) 1 gL_law_X3_symmetries rfl rfl rfl ⟨by decide +kernel, by decide +kernel, by decide +kernel⟩ ⟨Nat.le_of_ble_eq_true rfl, Nat.le_of_ble_eq_true rfl⟩ dL_law_741 rfl (Nat.le_of_ble_eq_true rfl) ⟨by show cells + 6 + 0 ≤ 601024; omega, by show slots + 36 + 0 ≤ 7293034; omega⟩ (fun r V2 G2 hM => ?_)
  have hst := q_sim_symmetries h (xs (i + 1)) hL hM
  refine q_istore C [(6, .int r), (5, .int k), (0, .ref b), (1, .ref (σ.2.1 0)), (2, .ref (σ.2.1 19)), (3, .ref (σ.2.1 18)), (4, .int (nI i))] dL_law_744 (by decide) rfl ?_
  refine q_aload_n C dL_law_746 rfl 4 rfl ?_
  refine q_callVi C (As := []) (rest := []) (k := 19) (by omega) q_enMO rfl rfl (kX3_thrown l σ V2 G2) 0 gL_law_X3_thrown rfl rfl rfl ⟨by decide +kernel, by decide +kernel, by decide +kernel⟩ ⟨Nat.le_of_ble_eq_true rfl, Nat.le_of_ble_eq_true rfl⟩ dL_law_747 rfl (Nat.le_of_ble_eq_true rfl) ⟨by show cells + 6 + 0 + 0 ≤ 601024; omega, by show slots + 36 + 0 + 0 ≤ 7293034; omega⟩ (fun t3 V3 G3 hT => ?_)
  obtain ⟨rfl, rfl, rfl⟩ := hT
  refine q_iload C dL_law_750 1 rfl ?_
  refine q_icmp_eq C 757 dL_law_752 (by decide) (fun c1 => ?_) (fun c1 => absurd hst.1 c1)
  refine q_iload C dL_law_757 1 rfl ?_
  refine q_if_ne C 774 dL_law_759 (by decide) (fun c2 => ?_) (fun c2 => ?_)
  · skip
    refine q_goto C 1753 dL_law_774 (by decide) ?_
    exact q_sub [2, 3, 4, 5, 6] rfl (w_widen (by omega) (by omega) (kk V2 G2 hst.2.2))
  · have hk0 : k = 0 := c2
    have ho := hst.2.1 hk0
    refine q_aload_n C dL_law_762 rfl 5 rfl ?_
    refine q_iconst C (nI 0) dL_law_763 (by decide) ?_
    refine q_laldN C (n := 1) ⟨by omega, rfl, rfl⟩ (by omega : 0 < 1) (by omega) dL_law_764 ?_
    rw [ho]
    refine q_iload C dL_law_765 0 rfl ?_
    refine q_i2l C dL_law_767 ?_
    refine q_lcmp C dL_law_768 ?_
    rw [lg_cmp_self]
    refine q_if_eq C 774 dL_law_769 (by decide) (fun c3 => ?_) (fun c3 => absurd rfl c3)
    refine q_goto C 1753 dL_law_774 (by decide) ?_
    exact q_sub [2, 3, 4, 5, 6] rfl (w_widen (by omega) (by omega) (kk V2 G2 hst.2.2))
set_option maxHeartbeats 1000000 in
set_option maxRecDepth 20000 in
theorem w_origin {σ : q_E} {p : Program} {e : Env} {s : State} {m : MethodId} {below : List Frame} {meth : Method} {c : Code} {Q : State → Prop} {b L : Nat} {xs : Nat → Int32} (l : Launch) (hlf : l.stackTraces = false) (C : q_C σ p s m #[Value.ref b] c cL_law 8 RL wsL_law) (X : w_X σ s b L xs) {V : q_V} {G : q_G} {n ns : Nat} (h : q_Rel V G n ns) {i cells slots : Nat} (hi : i + 4 ≤ L) (hcs : cells + 6 ≤ 601024 ∧ slots + 36 ≤ 7293034) (kk : ∀ (V9 : q_V) (G9 : q_G), (∃ n ns, q_Rel V9 G9 n ns) → q_W σ p l e room_1 s m #[Value.ref b] below meth c Q 8 (cells + 6) (slots + 36) V9 G9 (w_lv σ b i) 1753 []) : q_W σ p l e room_1 s m #[Value.ref b] below meth c Q 8 cells slots V G (w_lv σ b i) 777 [] := by
  have hh := h
  obtain ⟨h1, h2, h3, h4, h5, h6, h7, h8, h9, h10⟩ := hh
  refine q_aload_n C dL_law_777 rfl 1 rfl ?_
  refine q_aload_n C dL_law_778 rfl 0 rfl ?_
  refine q_iload C dL_law_779 4 rfl ?_
  refine q_iconst C (nI 1) dL_law_781 (by decide) ?_
  refine q_iaddN C dL_law_782 ?_
  refine w_sld C X (by omega) dL_law_783 ?_
  refine q_aload_n C dL_law_784 rfl 3 rfl ?_
  refine q_callWi C (As := [.ref (σ.2.1 0), .int (xs (i + 1)), .ref (σ.2.1 18)]) (rest := []) (kL_origin l σ V G hlf h4.1 h4.2.2.1 h4.2.2.2.1 (xs (i + 1))) 3 gL_law_L_origin rfl rfl rfl ⟨by decide +kernel, by decide +kernel, by decide +kernel⟩ ⟨Nat.le_of_ble_eq_true rfl, Nat.le_of_ble_eq_true rfl⟩ dL_law_785 rfl (Nat.le_of_ble_eq_true rfl) ⟨hcs.1, hcs.2⟩ (fun k V1 G1 hL => ?_)
  have hm : q_m V V1 := by
    rcases hL with ⟨r9, V9, G9, hq, -, rfl, -⟩ | ⟨E9, hq, -⟩
    · obtain ⟨-, -, rfl, -⟩ := hq
      exact q_m_rf V
    · obtain ⟨-, rfl, -⟩ := hq
      exact q_m_rf V
  refine q_istore C [(5, .int k), (0, .ref b), (1, .ref (σ.2.1 0)), (2, .ref (σ.2.1 19)), (3, .ref (σ.2.1 18)), (4, .int (nI i))] dL_law_788 (by decide) rfl ?_
  refine q_aload_n C dL_law_790 rfl 3 rfl ?_
  refine q_aload_n C dL_law_791 rfl 1 rfl ?_
  refine q_iload C dL_law_792 5 rfl ?_
  refine q_iconst C (nI 1) dL_law_794 (by decide) ?_
  refine q_iaddN C dL_law_795 ?_
  refine w_sld C X (by omega) dL_law_796 ?_
  refine q_callVi C (As := [.int (xs (i + 1))]) (rest := []) (k := 19) (by omega) q_enMO rfl rfl (kX3_origin l σ V1 G1 (w_mp h4 hm).1 h4.2.2.1 (xs (i + 1))) 1 gL_law_X3_origin rfl rfl rfl ⟨by decide +kernel, by decide +kernel, by decide +kernel⟩ ⟨Nat.le_of_ble_eq_true rfl, Nat.le_of_ble_eq_true rfl⟩ dL_law_797 rfl (Nat.le_of_ble_eq_true rfl) ⟨by show cells + 6 + 0 ≤ 601024; omega, by show slots + 36 + 0 ≤ 7293034; omega⟩ (fun r V2 G2 hM => ?_)
  have hst := q_sim_origin h (xs (i + 1)) hL hM
  refine q_istore C [(6, .int r), (5, .int k), (0, .ref b), (1, .ref (σ.2.1 0)), (2, .ref (σ.2.1 19)), (3, .ref (σ.2.1 18)), (4, .int (nI i))] dL_law_800 (by decide) rfl ?_
  refine q_aload_n C dL_law_802 rfl 4 rfl ?_
  refine q_callVi C (As := []) (rest := []) (k := 19) (by omega) q_enMO rfl rfl (kX3_thrown l σ V2 G2) 0 gL_law_X3_thrown rfl rfl rfl ⟨by decide +kernel, by decide +kernel, by decide +kernel⟩ ⟨Nat.le_of_ble_eq_true rfl, Nat.le_of_ble_eq_true rfl⟩ dL_law_803 rfl (Nat.le_of_ble_eq_true rfl) ⟨by show cells + 6 + 0 + 0 ≤ 601024; omega, by show slots + 36 + 0 + 0 ≤ 7293034; omega⟩ (fun t3 V3 G3 hT => ?_)
  obtain ⟨rfl, rfl, rfl⟩ := hT
  refine q_iload C dL_law_806 1 rfl ?_
  refine q_icmp_eq C 813 dL_law_808 (by decide) (fun c1 => ?_) (fun c1 => absurd hst.1 c1)
  refine q_iload C dL_law_813 1 rfl ?_
  refine q_if_ne C 830 dL_law_815 (by decide) (fun c2 => ?_) (fun c2 => ?_)
  · skip
    refine q_goto C 1753 dL_law_830 (by decide) ?_
    exact q_sub [2, 3, 4, 5, 6] rfl (w_widen (by omega) (by omega) (kk V2 G2 hst.2.2))
  · have hk0 : k = 0 := c2
    have ho := hst.2.1 hk0
    refine q_aload_n C dL_law_818 rfl 5 rfl ?_
    refine q_iconst C (nI 0) dL_law_819 (by decide) ?_
    refine q_laldN C (n := 1) ⟨by omega, rfl, rfl⟩ (by omega : 0 < 1) (by omega) dL_law_820 ?_
    rw [ho]
    refine q_iload C dL_law_821 0 rfl ?_
    refine q_i2l C dL_law_823 ?_
    refine q_lcmp C dL_law_824 ?_
    rw [lg_cmp_self]
    refine q_if_eq C 830 dL_law_825 (by decide) (fun c3 => ?_) (fun c3 => absurd rfl c3)
    refine q_goto C 1753 dL_law_830 (by decide) ?_
    exact q_sub [2, 3, 4, 5, 6] rfl (w_widen (by omega) (by omega) (kk V2 G2 hst.2.2))
set_option maxHeartbeats 1000000 in
set_option maxRecDepth 20000 in
theorem w_needs {σ : q_E} {p : Program} {e : Env} {s : State} {m : MethodId} {below : List Frame} {meth : Method} {c : Code} {Q : State → Prop} {b L : Nat} {xs : Nat → Int32} (l : Launch) (hlf : l.stackTraces = false) (C : q_C σ p s m #[Value.ref b] c cL_law 8 RL wsL_law) (X : w_X σ s b L xs) {V : q_V} {G : q_G} {n ns : Nat} (h : q_Rel V G n ns) {i cells slots : Nat} (hi : i + 4 ≤ L) (hcs : cells + 6 ≤ 601024 ∧ slots + 36 ≤ 7293034) (kk : ∀ (V9 : q_V) (G9 : q_G), (∃ n ns, q_Rel V9 G9 n ns) → q_W σ p l e room_1 s m #[Value.ref b] below meth c Q 8 (cells + 6) (slots + 36) V9 G9 (w_lv σ b i) 1753 []) : q_W σ p l e room_1 s m #[Value.ref b] below meth c Q 8 cells slots V G (w_lv σ b i) 833 [] := by
  have hh := h
  obtain ⟨h1, h2, h3, h4, h5, h6, h7, h8, h9, h10⟩ := hh
  refine q_aload_n C dL_law_833 rfl 1 rfl ?_
  refine q_aload_n C dL_law_834 rfl 0 rfl ?_
  refine q_iload C dL_law_835 4 rfl ?_
  refine q_iconst C (nI 1) dL_law_837 (by decide) ?_
  refine q_iaddN C dL_law_838 ?_
  refine w_sld C X (by omega) dL_law_839 ?_
  refine q_aload_n C dL_law_840 rfl 0 rfl ?_
  refine q_iload C dL_law_841 4 rfl ?_
  refine q_iconst C (nI 2) dL_law_843 (by decide) ?_
  refine q_iaddN C dL_law_844 ?_
  refine w_sld C X (by omega) dL_law_845 ?_
  refine q_aload_n C dL_law_846 rfl 3 rfl ?_
  refine q_callWi C (As := [.ref (σ.2.1 0), .int (xs (i + 1)), .int (xs (i + 2)), .ref (σ.2.1 18)]) (rest := []) (kL_needs l σ V G hlf h4.1 h4.2.2.1 h4.2.2.2.1 (xs (i + 1)) (xs (i + 2))) 4 gL_law_L_needs rfl rfl rfl ⟨by decide +kernel, by decide +kernel, by decide +kernel⟩ ⟨Nat.le_of_ble_eq_true rfl, Nat.le_of_ble_eq_true rfl⟩ dL_law_847 rfl (Nat.le_of_ble_eq_true rfl) ⟨hcs.1, hcs.2⟩ (fun k V1 G1 hL => ?_)
  have hm : q_m V V1 := by
    rcases hL with ⟨r9, V9, G9, hq, -, rfl, -⟩ | ⟨E9, hq, -⟩
    · obtain ⟨-, -, rfl, -⟩ := hq
      exact q_m_rf V
    · obtain ⟨-, rfl, -⟩ := hq
      exact q_m_rf V
  refine q_istore C [(5, .int k), (0, .ref b), (1, .ref (σ.2.1 0)), (2, .ref (σ.2.1 19)), (3, .ref (σ.2.1 18)), (4, .int (nI i))] dL_law_850 (by decide) rfl ?_
  refine q_aload_n C dL_law_852 rfl 3 rfl ?_
  refine q_aload_n C dL_law_853 rfl 1 rfl ?_
  refine q_iload C dL_law_854 5 rfl ?_
  refine q_iconst C (nI 1) dL_law_856 (by decide) ?_
  refine q_iaddN C dL_law_857 ?_
  refine w_sld C X (by omega) dL_law_858 ?_
  refine q_aload_n C dL_law_859 rfl 1 rfl ?_
  refine q_iload C dL_law_860 5 rfl ?_
  refine q_iconst C (nI 2) dL_law_862 (by decide) ?_
  refine q_iaddN C dL_law_863 ?_
  refine w_sld C X (by omega) dL_law_864 ?_
  refine q_callVi C (As := [.int (xs (i + 1)), .int (xs (i + 2))]) (rest := []) (k := 19) (by omega) q_enMO rfl rfl (kX3_needs l σ V1 G1 (w_mp h4 hm).1 h4.2.2.1 (w_mp h4 hm).2 (xs (i + 1)) (xs (i + 2))) 2 gL_law_X3_needs rfl rfl rfl ⟨by decide +kernel, by decide +kernel, by decide +kernel⟩ ⟨Nat.le_of_ble_eq_true rfl, Nat.le_of_ble_eq_true rfl⟩ dL_law_865 rfl (Nat.le_of_ble_eq_true rfl) ⟨by show cells + 6 + 0 ≤ 601024; omega, by show slots + 36 + 0 ≤ 7293034; omega⟩ (fun r V2 G2 hM => ?_)
  have hst := q_sim_needs h (xs (i + 1)) (xs (i + 2)) hL hM
  refine q_istore C [(6, .int r), (5, .int k), (0, .ref b), (1, .ref (σ.2.1 0)), (2, .ref (σ.2.1 19)), (3, .ref (σ.2.1 18)), (4, .int (nI i))] dL_law_868 (by decide) rfl ?_
  refine q_aload_n C dL_law_870 rfl 4 rfl ?_
  refine q_callVi C (As := []) (rest := []) (k := 19) (by omega) q_enMO rfl rfl (kX3_thrown l σ V2 G2) 0 gL_law_X3_thrown rfl rfl rfl ⟨by decide +kernel, by decide +kernel, by decide +kernel⟩ ⟨Nat.le_of_ble_eq_true rfl, Nat.le_of_ble_eq_true rfl⟩ dL_law_871 rfl (Nat.le_of_ble_eq_true rfl) ⟨by show cells + 6 + 0 + 0 ≤ 601024; omega, by show slots + 36 + 0 + 0 ≤ 7293034; omega⟩ (fun t3 V3 G3 hT => ?_)
  obtain ⟨rfl, rfl, rfl⟩ := hT
  refine q_iload C dL_law_874 1 rfl ?_
  refine q_icmp_eq C 881 dL_law_876 (by decide) (fun c1 => ?_) (fun c1 => absurd hst.1 c1)
  refine q_iload C dL_law_881 1 rfl ?_
  refine q_if_ne C 898 dL_law_883 (by decide) (fun c2 => ?_) (fun c2 => ?_)
  · skip
    refine q_goto C 1753 dL_law_898 (by decide) ?_
    exact q_sub [2, 3, 4, 5, 6] rfl (w_widen (by omega) (by omega) (kk V2 G2 hst.2.2))
  · have hk0 : k = 0 := c2
    have ho := hst.2.1 hk0
    refine q_aload_n C dL_law_886 rfl 5 rfl ?_
    refine q_iconst C (nI 0) dL_law_887 (by decide) ?_
    refine q_laldN C (n := 1) ⟨by omega, rfl, rfl⟩ (by omega : 0 < 1) (by omega) dL_law_888 ?_
    rw [ho]
    refine q_iload C dL_law_889 0 rfl ?_
    refine q_i2l C dL_law_891 ?_
    refine q_lcmp C dL_law_892 ?_
    rw [lg_cmp_self]
    refine q_if_eq C 898 dL_law_893 (by decide) (fun c3 => ?_) (fun c3 => absurd rfl c3)
    refine q_goto C 1753 dL_law_898 (by decide) ?_
    exact q_sub [2, 3, 4, 5, 6] rfl (w_widen (by omega) (by omega) (kk V2 G2 hst.2.2))
set_option maxHeartbeats 1000000 in
set_option maxRecDepth 20000 in
theorem w_weave {σ : q_E} {p : Program} {e : Env} {s : State} {m : MethodId} {below : List Frame} {meth : Method} {c : Code} {Q : State → Prop} {b L : Nat} {xs : Nat → Int32} (l : Launch) (hlf : l.stackTraces = false) (C : q_C σ p s m #[Value.ref b] c cL_law 8 RL wsL_law) (X : w_X σ s b L xs) {V : q_V} {G : q_G} {n ns : Nat} (h : q_Rel V G n ns) {i cells slots : Nat} (hi : i + 4 ≤ L) (hcs : cells + 6 ≤ 601024 ∧ slots + 36 ≤ 7293034) (kk : ∀ (V9 : q_V) (G9 : q_G), (∃ n ns, q_Rel V9 G9 n ns) → q_W σ p l e room_1 s m #[Value.ref b] below meth c Q 8 (cells + 6) (slots + 36) V9 G9 (w_lv σ b i) 1753 []) : q_W σ p l e room_1 s m #[Value.ref b] below meth c Q 8 cells slots V G (w_lv σ b i) 901 [] := by
  have hh := h
  obtain ⟨h1, h2, h3, h4, h5, h6, h7, h8, h9, h10⟩ := hh
  refine q_aload_n C dL_law_901 rfl 1 rfl ?_
  refine q_aload_n C dL_law_902 rfl 0 rfl ?_
  refine q_iload C dL_law_903 4 rfl ?_
  refine q_iconst C (nI 1) dL_law_905 (by decide) ?_
  refine q_iaddN C dL_law_906 ?_
  refine w_sld C X (by omega) dL_law_907 ?_
  refine q_aload_n C dL_law_908 rfl 0 rfl ?_
  refine q_iload C dL_law_909 4 rfl ?_
  refine q_iconst C (nI 2) dL_law_911 (by decide) ?_
  refine q_iaddN C dL_law_912 ?_
  refine w_sld C X (by omega) dL_law_913 ?_
  refine q_aload_n C dL_law_914 rfl 3 rfl ?_
  refine q_callWi C (As := [.ref (σ.2.1 0), .int (xs (i + 1)), .int (xs (i + 2)), .ref (σ.2.1 18)]) (rest := []) (kL_weave l σ V G hlf h4.1 h4.2.2.1 h4.2.2.2.1 (fun pa hp => (h5 pa hp).2.1) (xs (i + 1)) (xs (i + 2))) 4 gL_law_L_weave rfl rfl rfl ⟨by decide +kernel, by decide +kernel, by decide +kernel⟩ ⟨Nat.le_of_ble_eq_true rfl, Nat.le_of_ble_eq_true rfl⟩ dL_law_915 rfl (Nat.le_of_ble_eq_true rfl) ⟨hcs.1, hcs.2⟩ (fun k V1 G1 hL => ?_)
  have hm : q_m V V1 := by
    rcases hL with ⟨r9, V9, G9, hq, -, rfl, -⟩ | ⟨E9, hq, -⟩
    · obtain ⟨h9c, ⟨kf, o9, -, -, -, -, -, rfl⟩, -⟩ := hq
      obtain ⟨⟨a9, ha9, e9⟩, -⟩ := (q_c2_of h9c).1
      rw [e9, q_n_nI (by omega)]
      exact q_m_up (q_m_up (q_m_up (q_m_subr (q_m_rf V) (by omega) _ _) (by omega) _ _) (by omega) _ _) (by omega) _ _
    · obtain ⟨-, rfl, -⟩ := hq
      exact q_m_rf V
  refine q_istore C [(5, .int k), (0, .ref b), (1, .ref (σ.2.1 0)), (2, .ref (σ.2.1 19)), (3, .ref (σ.2.1 18)), (4, .int (nI i))] dL_law_918 (by decide) rfl ?_
  refine q_aload_n C dL_law_920 rfl 3 rfl ?_
  refine q_aload_n C dL_law_921 rfl 1 rfl ?_
  refine q_iload C dL_law_922 5 rfl ?_
  refine q_iconst C (nI 1) dL_law_924 (by decide) ?_
  refine q_iaddN C dL_law_925 ?_
  refine w_sld C X (by omega) dL_law_926 ?_
  refine q_aload_n C dL_law_927 rfl 1 rfl ?_
  refine q_iload C dL_law_928 5 rfl ?_
  refine q_iconst C (nI 2) dL_law_930 (by decide) ?_
  refine q_iaddN C dL_law_931 ?_
  refine w_sld C X (by omega) dL_law_932 ?_
  refine q_callVi C (As := [.int (xs (i + 1)), .int (xs (i + 2))]) (rest := []) (k := 19) (by omega) q_enMO rfl rfl (kX3_weave l σ V1 G1 (w_mp h4 hm).1 h4.2.2.1 (w_mp h4 hm).2 (w_mo h5 hm).1 (w_mo h5 hm).2 (xs (i + 1)) (xs (i + 2))) 2 gL_law_X3_weave rfl rfl rfl ⟨by decide +kernel, by decide +kernel, by decide +kernel⟩ ⟨Nat.le_of_ble_eq_true rfl, Nat.le_of_ble_eq_true rfl⟩ dL_law_933 rfl (Nat.le_of_ble_eq_true rfl) ⟨by show cells + 6 + 0 ≤ 601024; omega, by show slots + 36 + 0 ≤ 7293034; omega⟩ (fun r V2 G2 hM => ?_)
  have hst := q_sim_weave h (xs (i + 1)) (xs (i + 2)) hL hM
  refine q_istore C [(6, .int r), (5, .int k), (0, .ref b), (1, .ref (σ.2.1 0)), (2, .ref (σ.2.1 19)), (3, .ref (σ.2.1 18)), (4, .int (nI i))] dL_law_936 (by decide) rfl ?_
  refine q_aload_n C dL_law_938 rfl 4 rfl ?_
  refine q_callVi C (As := []) (rest := []) (k := 19) (by omega) q_enMO rfl rfl (kX3_thrown l σ V2 G2) 0 gL_law_X3_thrown rfl rfl rfl ⟨by decide +kernel, by decide +kernel, by decide +kernel⟩ ⟨Nat.le_of_ble_eq_true rfl, Nat.le_of_ble_eq_true rfl⟩ dL_law_939 rfl (Nat.le_of_ble_eq_true rfl) ⟨by show cells + 6 + 0 + 0 ≤ 601024; omega, by show slots + 36 + 0 + 0 ≤ 7293034; omega⟩ (fun t3 V3 G3 hT => ?_)
  obtain ⟨rfl, rfl, rfl⟩ := hT
  refine q_iload C dL_law_942 1 rfl ?_
  refine q_icmp_eq C 949 dL_law_944 (by decide) (fun c1 => ?_) (fun c1 => absurd hst.1 c1)
  refine q_iload C dL_law_949 1 rfl ?_
  refine q_if_ne C 966 dL_law_951 (by decide) (fun c2 => ?_) (fun c2 => ?_)
  · skip
    refine q_goto C 1753 dL_law_966 (by decide) ?_
    exact q_sub [2, 3, 4, 5, 6] rfl (w_widen (by omega) (by omega) (kk V2 G2 hst.2.2))
  · have hk0 : k = 0 := c2
    have ho := hst.2.1 hk0
    refine q_aload_n C dL_law_954 rfl 5 rfl ?_
    refine q_iconst C (nI 0) dL_law_955 (by decide) ?_
    refine q_laldN C (n := 1) ⟨by omega, rfl, rfl⟩ (by omega : 0 < 1) (by omega) dL_law_956 ?_
    rw [ho]
    refine q_iload C dL_law_957 0 rfl ?_
    refine q_i2l C dL_law_959 ?_
    refine q_lcmp C dL_law_960 ?_
    rw [lg_cmp_self]
    refine q_if_eq C 966 dL_law_961 (by decide) (fun c3 => ?_) (fun c3 => absurd rfl c3)
    refine q_goto C 1753 dL_law_966 (by decide) ?_
    exact q_sub [2, 3, 4, 5, 6] rfl (w_widen (by omega) (by omega) (kk V2 G2 hst.2.2))
set_option maxHeartbeats 1000000 in
set_option maxRecDepth 20000 in
theorem w_apart {σ : q_E} {p : Program} {e : Env} {s : State} {m : MethodId} {below : List Frame} {meth : Method} {c : Code} {Q : State → Prop} {b L : Nat} {xs : Nat → Int32} (l : Launch) (hlf : l.stackTraces = false) (C : q_C σ p s m #[Value.ref b] c cL_law 8 RL wsL_law) (X : w_X σ s b L xs) {V : q_V} {G : q_G} {n ns : Nat} (h : q_Rel V G n ns) {i cells slots : Nat} (hi : i + 4 ≤ L) (hcs : cells + 6 ≤ 601024 ∧ slots + 36 ≤ 7293034) (kk : ∀ (V9 : q_V) (G9 : q_G), (∃ n ns, q_Rel V9 G9 n ns) → q_W σ p l e room_1 s m #[Value.ref b] below meth c Q 8 (cells + 6) (slots + 36) V9 G9 (w_lv σ b i) 1753 []) : q_W σ p l e room_1 s m #[Value.ref b] below meth c Q 8 cells slots V G (w_lv σ b i) 969 [] := by
  have hh := h
  obtain ⟨h1, h2, h3, h4, h5, h6, h7, h8, h9, h10⟩ := hh
  refine q_aload_n C dL_law_969 rfl 1 rfl ?_
  refine q_aload_n C dL_law_970 rfl 0 rfl ?_
  refine q_iload C dL_law_971 4 rfl ?_
  refine q_iconst C (nI 1) dL_law_973 (by decide) ?_
  refine q_iaddN C dL_law_974 ?_
  refine w_sld C X (by omega) dL_law_975 ?_
  refine q_aload_n C dL_law_976 rfl 3 rfl ?_
  refine q_callWi C (As := [.ref (σ.2.1 0), .int (xs (i + 1)), .ref (σ.2.1 18)]) (rest := []) (kL_apart l σ V G hlf h4.2.2.1 h4.2.2.2.1 (q_Rel_mbelts h7).2.1 (q_Rel_mbelts h7).2.2.2 (xs (i + 1))) 3 gL_law_L_apart rfl rfl rfl ⟨by decide +kernel, by decide +kernel, by decide +kernel⟩ ⟨Nat.le_of_ble_eq_true rfl, Nat.le_of_ble_eq_true rfl⟩ dL_law_977 rfl (Nat.le_of_ble_eq_true rfl) ⟨hcs.1, hcs.2⟩ (fun k V1 G1 hL => ?_)
  have hm : q_m V V1 := by
    rcases hL with ⟨r9, V9, G9, hq, -, rfl, -⟩ | ⟨E9, hq, -⟩
    · obtain ⟨h9c, -, rfl, -⟩ := hq
      obtain ⟨b9, hb9, e9, -⟩ := (q_c2_of h9c).1
      obtain ⟨a9, ha9, e9b⟩ := (q_Rel_mbelts h7).2.2.2 b9 hb9
      rw [e9, q_n_nI (by omega), e9b, q_n_nI (by omega)]
      exact q_m_up (q_m_addr (q_m_rf V) (by omega) _ _) (by omega) _ _
    · obtain ⟨-, rfl, -⟩ := hq
      exact q_m_rf V
  refine q_istore C [(5, .int k), (0, .ref b), (1, .ref (σ.2.1 0)), (2, .ref (σ.2.1 19)), (3, .ref (σ.2.1 18)), (4, .int (nI i))] dL_law_980 (by decide) rfl ?_
  refine q_aload_n C dL_law_982 rfl 3 rfl ?_
  refine q_aload_n C dL_law_983 rfl 1 rfl ?_
  refine q_iload C dL_law_984 5 rfl ?_
  refine q_iconst C (nI 1) dL_law_986 (by decide) ?_
  refine q_iaddN C dL_law_987 ?_
  refine w_sld C X (by omega) dL_law_988 ?_
  refine q_callVi C (As := [.int (xs (i + 1))]) (rest := []) (k := 19) (by omega) q_enMO rfl rfl (kX3_apart l σ V1 G1 h4.2.2.1 (w_mp h4 hm).2 (w_mb h7 hm).1 (w_mb h7 hm).2 (xs (i + 1))) 1 gL_law_X3_apart rfl rfl rfl ⟨by decide +kernel, by decide +kernel, by decide +kernel⟩ ⟨Nat.le_of_ble_eq_true rfl, Nat.le_of_ble_eq_true rfl⟩ dL_law_989 rfl (Nat.le_of_ble_eq_true rfl) ⟨by show cells + 6 + 0 ≤ 601024; omega, by show slots + 36 + 0 ≤ 7293034; omega⟩ (fun r V2 G2 hM => ?_)
  have hst := q_sim_apart h (xs (i + 1)) hL hM
  refine q_istore C [(6, .int r), (5, .int k), (0, .ref b), (1, .ref (σ.2.1 0)), (2, .ref (σ.2.1 19)), (3, .ref (σ.2.1 18)), (4, .int (nI i))] dL_law_992 (by decide) rfl ?_
  refine q_aload_n C dL_law_994 rfl 4 rfl ?_
  refine q_callVi C (As := []) (rest := []) (k := 19) (by omega) q_enMO rfl rfl (kX3_thrown l σ V2 G2) 0 gL_law_X3_thrown rfl rfl rfl ⟨by decide +kernel, by decide +kernel, by decide +kernel⟩ ⟨Nat.le_of_ble_eq_true rfl, Nat.le_of_ble_eq_true rfl⟩ dL_law_995 rfl (Nat.le_of_ble_eq_true rfl) ⟨by show cells + 6 + 0 + 0 ≤ 601024; omega, by show slots + 36 + 0 + 0 ≤ 7293034; omega⟩ (fun t3 V3 G3 hT => ?_)
  obtain ⟨rfl, rfl, rfl⟩ := hT
  refine q_iload C dL_law_998 1 rfl ?_
  refine q_icmp_eq C 1005 dL_law_1000 (by decide) (fun c1 => ?_) (fun c1 => absurd hst.1 c1)
  refine q_iload C dL_law_1005 1 rfl ?_
  refine q_if_ne C 1022 dL_law_1007 (by decide) (fun c2 => ?_) (fun c2 => ?_)
  · skip
    refine q_goto C 1753 dL_law_1022 (by decide) ?_
    exact q_sub [2, 3, 4, 5, 6] rfl (w_widen (by omega) (by omega) (kk V2 G2 hst.2.2))
  · have hk0 : k = 0 := c2
    have ho := hst.2.1 hk0
    refine q_aload_n C dL_law_1010 rfl 5 rfl ?_
    refine q_iconst C (nI 0) dL_law_1011 (by decide) ?_
    refine q_laldN C (n := 1) ⟨by omega, rfl, rfl⟩ (by omega : 0 < 1) (by omega) dL_law_1012 ?_
    rw [ho]
    refine q_iload C dL_law_1013 0 rfl ?_
    refine q_i2l C dL_law_1015 ?_
    refine q_lcmp C dL_law_1016 ?_
    rw [lg_cmp_self]
    refine q_if_eq C 1022 dL_law_1017 (by decide) (fun c3 => ?_) (fun c3 => absurd rfl c3)
    refine q_goto C 1753 dL_law_1022 (by decide) ?_
    exact q_sub [2, 3, 4, 5, 6] rfl (w_widen (by omega) (by omega) (kk V2 G2 hst.2.2))
