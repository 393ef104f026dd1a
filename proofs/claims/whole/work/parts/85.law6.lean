set_option maxHeartbeats 1000000 in
set_option maxRecDepth 20000 in
theorem w_give {σ : q_E} {p : Program} {e : Env} {s : State} {m : MethodId} {below : List Frame} {meth : Method} {c : Code} {Q : State → Prop} {b L : Nat} {xs : Nat → Int32} (l : Launch) (hlf : l.stackTraces = false) (C : q_C σ p s m #[Value.ref b] c cL_law 8 RL wsL_law) (X : w_X σ s b L xs) {V : q_V} {G : q_G} {n ns : Nat} (h : q_Rel V G n ns) {i cells slots : Nat} (hi : i + 4 ≤ L) (hcs : cells + 6 ≤ 601024 ∧ slots + 36 ≤ 7293034) (kk : ∀ (V9 : q_V) (G9 : q_G), (∃ n ns, q_Rel V9 G9 n ns) → q_W σ p l e room_1 s m #[Value.ref b] below meth c Q 8 (cells + 6) (slots + 36) V9 G9 (w_lv σ b i) 1753 []) : q_W σ p l e room_1 s m #[Value.ref b] below meth c Q 8 cells slots V G (w_lv σ b i) 1025 [] := by
  have hh := h
  obtain ⟨h1, h2, h3, h4, h5, h6, h7, h8, h9, h10⟩ := hh
  refine q_aload_n C dL_law_1025 rfl 1 rfl ?_
  refine q_aload_n C dL_law_1026 rfl 0 rfl ?_
  refine q_iload C dL_law_1027 4 rfl ?_
  refine q_iconst C (nI 1) dL_law_1029 (by decide) ?_
  refine q_iaddN C dL_law_1030 ?_
  refine w_sld C X (by omega) dL_law_1031 ?_
  refine q_aload_n C dL_law_1032 rfl 0 rfl ?_
  refine q_iload C dL_law_1033 4 rfl ?_
  refine q_iconst C (nI 2) dL_law_1035 (by decide) ?_
  refine q_iaddN C dL_law_1036 ?_
  refine w_sld C X (by omega) dL_law_1037 ?_
  refine q_aload_n C dL_law_1038 rfl 3 rfl ?_
  refine q_callWi C (As := [.ref (σ.2.1 0), .int (xs (i + 1)), .int (xs (i + 2)), .ref (σ.2.1 18)]) (rest := []) (kL_give l σ V G hlf (xs (i + 1)) (xs (i + 2))) 4 gL_law_L_give rfl rfl rfl ⟨by decide +kernel, by decide +kernel, by decide +kernel⟩ ⟨Nat.le_of_ble_eq_true rfl, Nat.le_of_ble_eq_true rfl⟩ dL_law_1039 rfl (Nat.le_of_ble_eq_true rfl) ⟨hcs.1, hcs.2⟩ (fun k V1 G1 hL => ?_)
  refine q_istore C [(5, .int k), (0, .ref b), (1, .ref (σ.2.1 0)), (2, .ref (σ.2.1 19)), (3, .ref (σ.2.1 18)), (4, .int (nI i))] dL_law_1042 (by decide) rfl ?_
  refine q_aload_n C dL_law_1044 rfl 3 rfl ?_
  refine q_aload_n C dL_law_1045 rfl 1 rfl ?_
  refine q_iload C dL_law_1046 5 rfl ?_
  refine q_iconst C (nI 1) dL_law_1048 (by decide) ?_
  refine q_iaddN C dL_law_1049 ?_
  refine w_sld C X (by omega) dL_law_1050 ?_
  refine q_aload_n C dL_law_1051 rfl 1 rfl ?_
  refine q_iload C dL_law_1052 5 rfl ?_
  refine q_iconst C (nI 2) dL_law_1054 (by decide) ?_
  refine q_iaddN C dL_law_1055 ?_
  refine w_sld C X (by omega) dL_law_1056 ?_
  refine q_callVi C (As := [.int (xs (i + 1)), .int (xs (i + 2))]) (rest := []) (k := 19) (by omega) q_enMO rfl rfl (kX3_give l σ V1 G1 (xs (i + 1)) (xs (i + 2))) 2 gL_law_X3_give rfl rfl rfl ⟨by decide +kernel, by decide +kernel, by decide +kernel⟩ ⟨Nat.le_of_ble_eq_true rfl, Nat.le_of_ble_eq_true rfl⟩ dL_law_1057 rfl (Nat.le_of_ble_eq_true rfl) ⟨by show cells + 6 + 0 ≤ 601024; omega, by show slots + 36 + 0 ≤ 7293034; omega⟩ (fun r V2 G2 hM => ?_)
  have hst := q_sim_give h (xs (i + 1)) (xs (i + 2)) hL hM
  refine q_istore C [(6, .int r), (5, .int k), (0, .ref b), (1, .ref (σ.2.1 0)), (2, .ref (σ.2.1 19)), (3, .ref (σ.2.1 18)), (4, .int (nI i))] dL_law_1060 (by decide) rfl ?_
  refine q_aload_n C dL_law_1062 rfl 4 rfl ?_
  refine q_callVi C (As := []) (rest := []) (k := 19) (by omega) q_enMO rfl rfl (kX3_thrown l σ V2 G2) 0 gL_law_X3_thrown rfl rfl rfl ⟨by decide +kernel, by decide +kernel, by decide +kernel⟩ ⟨Nat.le_of_ble_eq_true rfl, Nat.le_of_ble_eq_true rfl⟩ dL_law_1063 rfl (Nat.le_of_ble_eq_true rfl) ⟨by show cells + 6 + 0 + 0 ≤ 601024; omega, by show slots + 36 + 0 + 0 ≤ 7293034; omega⟩ (fun t3 V3 G3 hT => ?_)
  obtain ⟨rfl, rfl, rfl⟩ := hT
  refine q_iload C dL_law_1066 1 rfl ?_
  refine q_icmp_eq C 1073 dL_law_1068 (by decide) (fun c1 => ?_) (fun c1 => absurd hst.1 c1)
  refine q_iload C dL_law_1073 1 rfl ?_
  refine q_if_ne C 1090 dL_law_1075 (by decide) (fun c2 => ?_) (fun c2 => ?_)
  · skip
    refine q_goto C 1753 dL_law_1090 (by decide) ?_
    exact q_sub [2, 3, 4, 5, 6] rfl (w_widen (by omega) (by omega) (kk V2 G2 hst.2.2))
  · have hk0 : k = 0 := c2
    have ho := hst.2.1 hk0
    refine q_aload_n C dL_law_1078 rfl 5 rfl ?_
    refine q_iconst C (nI 0) dL_law_1079 (by decide) ?_
    refine q_laldN C (n := 1) ⟨by omega, rfl, rfl⟩ (by omega : 0 < 1) (by omega) dL_law_1080 ?_
    rw [ho]
    refine q_iload C dL_law_1081 0 rfl ?_
    refine q_i2l C dL_law_1083 ?_
    refine q_lcmp C dL_law_1084 ?_
    rw [lg_cmp_self]
    refine q_if_eq C 1090 dL_law_1085 (by decide) (fun c3 => ?_) (fun c3 => absurd rfl c3)
    refine q_goto C 1753 dL_law_1090 (by decide) ?_
    exact q_sub [2, 3, 4, 5, 6] rfl (w_widen (by omega) (by omega) (kk V2 G2 hst.2.2))
set_option maxHeartbeats 1000000 in
set_option maxRecDepth 20000 in
theorem w_owner {σ : q_E} {p : Program} {e : Env} {s : State} {m : MethodId} {below : List Frame} {meth : Method} {c : Code} {Q : State → Prop} {b L : Nat} {xs : Nat → Int32} (l : Launch) (hlf : l.stackTraces = false) (C : q_C σ p s m #[Value.ref b] c cL_law 8 RL wsL_law) (X : w_X σ s b L xs) {V : q_V} {G : q_G} {n ns : Nat} (h : q_Rel V G n ns) {i cells slots : Nat} (hi : i + 4 ≤ L) (hcs : cells + 6 ≤ 601024 ∧ slots + 36 ≤ 7293034) (kk : ∀ (V9 : q_V) (G9 : q_G), (∃ n ns, q_Rel V9 G9 n ns) → q_W σ p l e room_1 s m #[Value.ref b] below meth c Q 8 (cells + 6) (slots + 36) V9 G9 (w_lv σ b i) 1753 []) : q_W σ p l e room_1 s m #[Value.ref b] below meth c Q 8 cells slots V G (w_lv σ b i) 1093 [] := by
  have hh := h
  obtain ⟨h1, h2, h3, h4, h5, h6, h7, h8, h9, h10⟩ := hh
  refine q_aload_n C dL_law_1093 rfl 1 rfl ?_
  refine q_aload_n C dL_law_1094 rfl 0 rfl ?_
  refine q_iload C dL_law_1095 4 rfl ?_
  refine q_iconst C (nI 1) dL_law_1097 (by decide) ?_
  refine q_iaddN C dL_law_1098 ?_
  refine w_sld C X (by omega) dL_law_1099 ?_
  refine q_aload_n C dL_law_1100 rfl 3 rfl ?_
  refine q_callWi C (As := [.ref (σ.2.1 0), .int (xs (i + 1)), .ref (σ.2.1 18)]) (rest := []) (kL_owner l σ V G hlf (xs (i + 1))) 3 gL_law_L_owner rfl rfl rfl ⟨by decide +kernel, by decide +kernel, by decide +kernel⟩ ⟨Nat.le_of_ble_eq_true rfl, Nat.le_of_ble_eq_true rfl⟩ dL_law_1101 rfl (Nat.le_of_ble_eq_true rfl) ⟨hcs.1, hcs.2⟩ (fun k V1 G1 hL => ?_)
  refine q_istore C [(5, .int k), (0, .ref b), (1, .ref (σ.2.1 0)), (2, .ref (σ.2.1 19)), (3, .ref (σ.2.1 18)), (4, .int (nI i))] dL_law_1104 (by decide) rfl ?_
  refine q_aload_n C dL_law_1106 rfl 3 rfl ?_
  refine q_aload_n C dL_law_1107 rfl 1 rfl ?_
  refine q_iload C dL_law_1108 5 rfl ?_
  refine q_iconst C (nI 1) dL_law_1110 (by decide) ?_
  refine q_iaddN C dL_law_1111 ?_
  refine w_sld C X (by omega) dL_law_1112 ?_
  refine q_callVi C (As := [.int (xs (i + 1))]) (rest := []) (k := 19) (by omega) q_enMO rfl rfl (kX3_owner l σ V1 G1 (xs (i + 1))) 1 gL_law_X3_owner rfl rfl rfl ⟨by decide +kernel, by decide +kernel, by decide +kernel⟩ ⟨Nat.le_of_ble_eq_true rfl, Nat.le_of_ble_eq_true rfl⟩ dL_law_1113 rfl (Nat.le_of_ble_eq_true rfl) ⟨by show cells + 6 + 0 ≤ 601024; omega, by show slots + 36 + 0 ≤ 7293034; omega⟩ (fun r V2 G2 hM => ?_)
  have hst := q_sim_owner h (xs (i + 1)) hL hM
  refine q_istore C [(6, .int r), (5, .int k), (0, .ref b), (1, .ref (σ.2.1 0)), (2, .ref (σ.2.1 19)), (3, .ref (σ.2.1 18)), (4, .int (nI i))] dL_law_1116 (by decide) rfl ?_
  refine q_aload_n C dL_law_1118 rfl 4 rfl ?_
  refine q_callVi C (As := []) (rest := []) (k := 19) (by omega) q_enMO rfl rfl (kX3_thrown l σ V2 G2) 0 gL_law_X3_thrown rfl rfl rfl ⟨by decide +kernel, by decide +kernel, by decide +kernel⟩ ⟨Nat.le_of_ble_eq_true rfl, Nat.le_of_ble_eq_true rfl⟩ dL_law_1119 rfl (Nat.le_of_ble_eq_true rfl) ⟨by show cells + 6 + 0 + 0 ≤ 601024; omega, by show slots + 36 + 0 + 0 ≤ 7293034; omega⟩ (fun t3 V3 G3 hT => ?_)
  obtain ⟨rfl, rfl, rfl⟩ := hT
  refine q_iload C dL_law_1122 1 rfl ?_
  refine q_icmp_eq C 1129 dL_law_1124 (by decide) (fun c1 => ?_) (fun c1 => absurd hst.1 c1)
  refine q_iload C dL_law_1129 1 rfl ?_
  refine q_if_ne C 1146 dL_law_1131 (by decide) (fun c2 => ?_) (fun c2 => ?_)
  · skip
    refine q_goto C 1753 dL_law_1146 (by decide) ?_
    exact q_sub [2, 3, 4, 5, 6] rfl (w_widen (by omega) (by omega) (kk V2 G2 hst.2.2))
  · have hk0 : k = 0 := c2
    have ho := hst.2.1 hk0
    refine q_aload_n C dL_law_1134 rfl 5 rfl ?_
    refine q_iconst C (nI 0) dL_law_1135 (by decide) ?_
    refine q_laldN C (n := 1) ⟨by omega, rfl, rfl⟩ (by omega : 0 < 1) (by omega) dL_law_1136 ?_
    rw [ho]
    refine q_iload C dL_law_1137 0 rfl ?_
    refine q_i2l C dL_law_1139 ?_
    refine q_lcmp C dL_law_1140 ?_
    rw [lg_cmp_self]
    refine q_if_eq C 1146 dL_law_1141 (by decide) (fun c3 => ?_) (fun c3 => absurd rfl c3)
    refine q_goto C 1753 dL_law_1146 (by decide) ?_
    exact q_sub [2, 3, 4, 5, 6] rfl (w_widen (by omega) (by omega) (kk V2 G2 hst.2.2))
set_option maxHeartbeats 1000000 in
set_option maxRecDepth 20000 in
theorem w_credits {σ : q_E} {p : Program} {e : Env} {s : State} {m : MethodId} {below : List Frame} {meth : Method} {c : Code} {Q : State → Prop} {b L : Nat} {xs : Nat → Int32} (l : Launch) (hlf : l.stackTraces = false) (C : q_C σ p s m #[Value.ref b] c cL_law 8 RL wsL_law) (X : w_X σ s b L xs) {V : q_V} {G : q_G} {n ns : Nat} (h : q_Rel V G n ns) {i cells slots : Nat} (hi : i + 4 ≤ L) (hcs : cells + 6 ≤ 601024 ∧ slots + 36 ≤ 7293034) (kk : ∀ (V9 : q_V) (G9 : q_G), (∃ n ns, q_Rel V9 G9 n ns) → q_W σ p l e room_1 s m #[Value.ref b] below meth c Q 8 (cells + 6) (slots + 36) V9 G9 (w_lv σ b i) 1753 []) : q_W σ p l e room_1 s m #[Value.ref b] below meth c Q 8 cells slots V G (w_lv σ b i) 1149 [] := by
  have hh := h
  obtain ⟨h1, h2, h3, h4, h5, h6, h7, h8, h9, h10⟩ := hh
  refine q_aload_n C dL_law_1149 rfl 1 rfl ?_
  refine q_aload_n C dL_law_1150 rfl 0 rfl ?_
  refine q_iload C dL_law_1151 4 rfl ?_
  refine q_iconst C (nI 1) dL_law_1153 (by decide) ?_
  refine q_iaddN C dL_law_1154 ?_
  refine w_sld C X (by omega) dL_law_1155 ?_
  refine q_aload_n C dL_law_1156 rfl 3 rfl ?_
  refine q_callWi C (As := [.ref (σ.2.1 0), .int (xs (i + 1)), .ref (σ.2.1 18)]) (rest := []) (kL_credits l σ V G hlf (xs (i + 1))) 3 gL_law_L_credits rfl rfl rfl ⟨by decide +kernel, by decide +kernel, by decide +kernel⟩ ⟨Nat.le_of_ble_eq_true rfl, Nat.le_of_ble_eq_true rfl⟩ dL_law_1157 rfl (Nat.le_of_ble_eq_true rfl) ⟨hcs.1, hcs.2⟩ (fun k V1 G1 hL => ?_)
  refine q_istore C [(5, .int k), (0, .ref b), (1, .ref (σ.2.1 0)), (2, .ref (σ.2.1 19)), (3, .ref (σ.2.1 18)), (4, .int (nI i))] dL_law_1160 (by decide) rfl ?_
  refine q_aload_n C dL_law_1162 rfl 3 rfl ?_
  refine q_aload_n C dL_law_1163 rfl 1 rfl ?_
  refine q_iload C dL_law_1164 5 rfl ?_
  refine q_iconst C (nI 1) dL_law_1166 (by decide) ?_
  refine q_iaddN C dL_law_1167 ?_
  refine w_sld C X (by omega) dL_law_1168 ?_
  refine q_callVi C (As := [.int (xs (i + 1))]) (rest := []) (k := 19) (by omega) q_enMO rfl rfl (kX3_credits l σ V1 G1 (xs (i + 1))) 1 gL_law_X3_credits rfl rfl rfl ⟨by decide +kernel, by decide +kernel, by decide +kernel⟩ ⟨Nat.le_of_ble_eq_true rfl, Nat.le_of_ble_eq_true rfl⟩ dL_law_1169 rfl (Nat.le_of_ble_eq_true rfl) ⟨by show cells + 6 + 0 ≤ 601024; omega, by show slots + 36 + 0 ≤ 7293034; omega⟩ (fun r V2 G2 hM => ?_)
  have hst := q_sim_credits h (xs (i + 1)) hL hM
  refine q_istore C [(6, .int r), (5, .int k), (0, .ref b), (1, .ref (σ.2.1 0)), (2, .ref (σ.2.1 19)), (3, .ref (σ.2.1 18)), (4, .int (nI i))] dL_law_1172 (by decide) rfl ?_
  refine q_aload_n C dL_law_1174 rfl 4 rfl ?_
  refine q_callVi C (As := []) (rest := []) (k := 19) (by omega) q_enMO rfl rfl (kX3_thrown l σ V2 G2) 0 gL_law_X3_thrown rfl rfl rfl ⟨by decide +kernel, by decide +kernel, by decide +kernel⟩ ⟨Nat.le_of_ble_eq_true rfl, Nat.le_of_ble_eq_true rfl⟩ dL_law_1175 rfl (Nat.le_of_ble_eq_true rfl) ⟨by show cells + 6 + 0 + 0 ≤ 601024; omega, by show slots + 36 + 0 + 0 ≤ 7293034; omega⟩ (fun t3 V3 G3 hT => ?_)
  obtain ⟨rfl, rfl, rfl⟩ := hT
  refine q_iload C dL_law_1178 1 rfl ?_
  refine q_icmp_eq C 1185 dL_law_1180 (by decide) (fun c1 => ?_) (fun c1 => absurd hst.1 c1)
  refine q_iload C dL_law_1185 1 rfl ?_
  refine q_if_ne C 1202 dL_law_1187 (by decide) (fun c2 => ?_) (fun c2 => ?_)
  · skip
    refine q_goto C 1753 dL_law_1202 (by decide) ?_
    exact q_sub [2, 3, 4, 5, 6] rfl (w_widen (by omega) (by omega) (kk V2 G2 hst.2.2))
  · have hk0 : k = 0 := c2
    have ho := hst.2.1 hk0
    refine q_aload_n C dL_law_1190 rfl 5 rfl ?_
    refine q_iconst C (nI 0) dL_law_1191 (by decide) ?_
    refine q_laldN C (n := 1) ⟨by omega, rfl, rfl⟩ (by omega : 0 < 1) (by omega) dL_law_1192 ?_
    rw [ho]
    refine q_iload C dL_law_1193 0 rfl ?_
    refine q_i2l C dL_law_1195 ?_
    refine q_lcmp C dL_law_1196 ?_
    rw [lg_cmp_self]
    refine q_if_eq C 1202 dL_law_1197 (by decide) (fun c3 => ?_) (fun c3 => absurd rfl c3)
    refine q_goto C 1753 dL_law_1202 (by decide) ?_
    exact q_sub [2, 3, 4, 5, 6] rfl (w_widen (by omega) (by omega) (kk V2 G2 hst.2.2))
set_option maxHeartbeats 1000000 in
set_option maxRecDepth 20000 in
theorem w_wish {σ : q_E} {p : Program} {e : Env} {s : State} {m : MethodId} {below : List Frame} {meth : Method} {c : Code} {Q : State → Prop} {b L : Nat} {xs : Nat → Int32} (l : Launch) (hlf : l.stackTraces = false) (C : q_C σ p s m #[Value.ref b] c cL_law 8 RL wsL_law) (X : w_X σ s b L xs) {V : q_V} {G : q_G} {n ns : Nat} (h : q_Rel V G n ns) {i cells slots : Nat} (hi : i + 4 ≤ L) (hcs : cells + 6 ≤ 601024 ∧ slots + 36 ≤ 7293034) (kk : ∀ (V9 : q_V) (G9 : q_G), (∃ n ns, q_Rel V9 G9 n ns) → q_W σ p l e room_1 s m #[Value.ref b] below meth c Q 8 (cells + 6) (slots + 36) V9 G9 (w_lv σ b i) 1753 []) : q_W σ p l e room_1 s m #[Value.ref b] below meth c Q 8 cells slots V G (w_lv σ b i) 1205 [] := by
  have hh := h
  obtain ⟨h1, h2, h3, h4, h5, h6, h7, h8, h9, h10⟩ := hh
  refine q_aload_n C dL_law_1205 rfl 1 rfl ?_
  refine q_aload_n C dL_law_1206 rfl 0 rfl ?_
  refine q_iload C dL_law_1207 4 rfl ?_
  refine q_iconst C (nI 1) dL_law_1209 (by decide) ?_
  refine q_iaddN C dL_law_1210 ?_
  refine w_sld C X (by omega) dL_law_1211 ?_
  refine q_aload_n C dL_law_1212 rfl 0 rfl ?_
  refine q_iload C dL_law_1213 4 rfl ?_
  refine q_iconst C (nI 2) dL_law_1215 (by decide) ?_
  refine q_iaddN C dL_law_1216 ?_
  refine w_sld C X (by omega) dL_law_1217 ?_
  refine q_aload_n C dL_law_1218 rfl 0 rfl ?_
  refine q_iload C dL_law_1219 4 rfl ?_
  refine q_iconst C (nI 3) dL_law_1221 (by decide) ?_
  refine q_iaddN C dL_law_1222 ?_
  refine w_sld C X (by omega) dL_law_1223 ?_
  refine q_aload_n C dL_law_1224 rfl 3 rfl ?_
  refine q_callWi C (As := [.ref (σ.2.1 0), .int (xs (i + 1)), .int (xs (i + 2)), .int (xs (i + 3)), .ref (σ.2.1 18)]) (rest := []) (kL_wish l σ V G hlf (xs (i + 1)) (xs (i + 2)) (xs (i + 3))) 5 gL_law_L_wish rfl rfl rfl ⟨by decide +kernel, by decide +kernel, by decide +kernel⟩ ⟨Nat.le_of_ble_eq_true rfl, Nat.le_of_ble_eq_true rfl⟩ dL_law_1225 rfl (Nat.le_of_ble_eq_true rfl) ⟨hcs.1, hcs.2⟩ (fun k V1 G1 hL => ?_)
  refine q_istore C [(5, .int k), (0, .ref b), (1, .ref (σ.2.1 0)), (2, .ref (σ.2.1 19)), (3, .ref (σ.2.1 18)), (4, .int (nI i))] dL_law_1228 (by decide) rfl ?_
  refine q_aload_n C dL_law_1230 rfl 3 rfl ?_
  refine q_aload_n C dL_law_1231 rfl 1 rfl ?_
  refine q_iload C dL_law_1232 5 rfl ?_
  refine q_iconst C (nI 1) dL_law_1234 (by decide) ?_
  refine q_iaddN C dL_law_1235 ?_
  refine w_sld C X (by omega) dL_law_1236 ?_
  refine q_aload_n C dL_law_1237 rfl 1 rfl ?_
  refine q_iload C dL_law_1238 5 rfl ?_
  refine q_iconst C (nI 2) dL_law_1240 (by decide) ?_
  refine q_iaddN C dL_law_1241 ?_
  refine w_sld C X (by omega) dL_law_1242 ?_
  refine q_aload_n C dL_law_1243 rfl 1 rfl ?_
  refine q_iload C dL_law_1244 5 rfl ?_
  refine q_iconst C (nI 3) dL_law_1246 (by decide) ?_
  refine q_iaddN C dL_law_1247 ?_
  refine w_sld C X (by omega) dL_law_1248 ?_
  refine q_callVi C (As := [.int (xs (i + 1)), .int (xs (i + 2)), .int (xs (i + 3))]) (rest := []) (k := 19) (by omega) q_enMO rfl rfl (kX3_wish l σ V1 G1 (xs (i + 1)) (xs (i + 2)) (xs (i + 3))) 3 gL_law_X3_wish rfl rfl rfl ⟨by decide +kernel, by decide +kernel, by decide +kernel⟩ ⟨Nat.le_of_ble_eq_true rfl, Nat.le_of_ble_eq_true rfl⟩ dL_law_1249 rfl (Nat.le_of_ble_eq_true rfl) ⟨by show cells + 6 + 0 ≤ 601024; omega, by show slots + 36 + 0 ≤ 7293034; omega⟩ (fun r V2 G2 hM => ?_)
  have hst := q_sim_wish h (xs (i + 1)) (xs (i + 2)) (xs (i + 3)) hL hM
  refine q_istore C [(6, .int r), (5, .int k), (0, .ref b), (1, .ref (σ.2.1 0)), (2, .ref (σ.2.1 19)), (3, .ref (σ.2.1 18)), (4, .int (nI i))] dL_law_1252 (by decide) rfl ?_
  refine q_aload_n C dL_law_1254 rfl 4 rfl ?_
  refine q_callVi C (As := []) (rest := []) (k := 19) (by omega) q_enMO rfl rfl (kX3_thrown l σ V2 G2) 0 gL_law_X3_thrown rfl rfl rfl ⟨by decide +kernel, by decide +kernel, by decide +kernel⟩ ⟨Nat.le_of_ble_eq_true rfl, Nat.le_of_ble_eq_true rfl⟩ dL_law_1255 rfl (Nat.le_of_ble_eq_true rfl) ⟨by show cells + 6 + 0 + 0 ≤ 601024; omega, by show slots + 36 + 0 + 0 ≤ 7293034; omega⟩ (fun t3 V3 G3 hT => ?_)
  obtain ⟨rfl, rfl, rfl⟩ := hT
  refine q_iload C dL_law_1258 1 rfl ?_
  refine q_icmp_eq C 1265 dL_law_1260 (by decide) (fun c1 => ?_) (fun c1 => absurd hst.1 c1)
  refine q_iload C dL_law_1265 1 rfl ?_
  refine q_if_ne C 1289 dL_law_1267 (by decide) (fun c2 => ?_) (fun c2 => ?_)
  · skip
    refine q_goto C 1753 dL_law_1289 (by decide) ?_
    exact q_sub [2, 3, 4, 5, 6] rfl (w_widen (by omega) (by omega) (kk V2 G2 hst.2.2))
  · have hk0 : k = 0 := c2
    have ho := hst.2.1 hk0
    refine q_aload_n C dL_law_1270 rfl 5 rfl ?_
    refine q_iconst C (nI 0) dL_law_1271 (by decide) ?_
    refine q_laldN C (n := 1) ⟨by omega, rfl, rfl⟩ (by omega : 0 < 1) (by omega) dL_law_1272 ?_
    rw [ho]
    refine q_iload C dL_law_1273 0 rfl ?_
    have K : ∀ v : Int64, (if r = 0 then (0 : Int64) else 1) = v → q_W σ p l e room_1 s m #[Value.ref b] below meth c Q 8 (cells + 6 + 0 + 0) (slots + 36 + 0 + 0) V2 G2 [(6, .int r), (5, .int k), (0, .ref b), (1, .ref (σ.2.1 0)), (2, .ref (σ.2.1 19)), (3, .ref (σ.2.1 18)), (4, .int (nI i))] 1283 [.long v, .long (if r = 0 then (0 : Int64) else 1)] := by
      intro v hv
      rw [← hv]
      refine q_lcmp C dL_law_1283 ?_
      rw [lg_cmp_self]
      refine q_if_eq C 1289 dL_law_1284 (by decide) (fun c3 => ?_) (fun c3 => absurd rfl c3)
      refine q_goto C 1753 dL_law_1289 (by decide) ?_
      exact q_sub [2, 3, 4, 5, 6] rfl (w_widen (by omega) (by omega) (kk V2 G2 hst.2.2))
    refine q_if_eq C 1282 dL_law_1275 (by decide) (fun c4 => ?_) (fun c4 => ?_)
    · refine q_lconst C 0 dL_law_1282 (by decide) ?_
      exact K 0 (if_pos c4)
    · refine q_lconst C 1 dL_law_1278 (by decide) ?_
      refine q_goto C 1283 dL_law_1279 (by decide) ?_
      exact K 1 (if_neg c4)
