set_option maxHeartbeats 1000000 in
set_option maxRecDepth 100000 in
/-- a belt is given and heard, or taken apart -/
theorem w_belts {σ : q_E} {p : Program} {e : Env} {s : State} {m : MethodId} {below : List Frame} {meth : Method} {c : Code} {Q : State → Prop} {b : Nat} (l : Launch) (hlf : l.stackTraces = false) (C : q_C σ p s m #[Value.ref b] c cL_law 21 RL wsL_law) {cells slots : Nat} (hce : cells + 960 ≤ 658728) (hse : slots + 5760 ≤ 7125285) {V : q_V} {G : q_G} {t n ns g0 : Nat} {gp gs : Nat → Nat} (hrel : zRel V G (30 * t) n ns g0 gp gs) (ht : t < 50) {wh col : Nat} (hwh : wh < 5) (hcol : col < 8) {kd : Nat} (hkd : kd < 20) (y : Int32) (kk : z_K σ p l e s m b below meth c Q cells slots t) : q_W σ p l e room_1 s m #[Value.ref b] below meth c Q 21 cells slots V G [(15, .int (nI col)), (14, .int (nI wh)), (13, .int (nI kd)), (12, .int y), (10, .int (nI t)), (0, .ref b), (1, .ref (σ.2.1 0)), (2, .ref (σ.2.1 69)), (3, .ref (σ.2.1 70)), (4, .ref (σ.2.1 71)), (5, .ref (σ.2.1 72)), (6, .ref (σ.2.1 73)), (7, .ref (σ.2.1 74)), (8, .ref (σ.2.1 19)), (9, .ref (σ.2.1 18))] 1067 [] := by
  have hn6 := hrel.2.2.2.1.2.2.1
  refine q_iload C dL_law_1067 3 rfl ?_
  refine q_bipush C (nI 6) dL_law_1069 (by decide) ?_
  refine q_callSi C (As := [.int y, .int (nI 6)]) (rest := []) (kL_low l σ V G y (n := 6) (by omega) (by omega)) 2 gL_law_L_low rfl rfl rfl (by decide +kernel) ⟨Nat.le_of_ble_eq_true rfl, Nat.le_of_ble_eq_true rfl⟩ dL_law_1071 rfl (Nat.le_of_ble_eq_true rfl) ⟨by show _ ≤ 658728; omega, by show _ ≤ 7125285; omega⟩ (fun r_1071 V_1 G_2 hq_1071 => ?_)
  obtain ⟨⟨lo_1071, hlo_1071, rfl⟩, rfl, rfl⟩ := hq_1071
  refine q_istore C [(16, .int (nI lo_1071)), (15, .int (nI col)), (14, .int (nI wh)), (13, .int (nI kd)), (12, .int y), (10, .int (nI t)), (0, .ref b), (1, .ref (σ.2.1 0)), (2, .ref (σ.2.1 69)), (3, .ref (σ.2.1 70)), (4, .ref (σ.2.1 71)), (5, .ref (σ.2.1 72)), (6, .ref (σ.2.1 73)), (7, .ref (σ.2.1 74)), (8, .ref (σ.2.1 19)), (9, .ref (σ.2.1 18))] dL_law_1074 (by decide) rfl ?_
  refine q_aload C dL_law_1076 10 rfl ?_
  refine q_iconst C (nI 2) dL_law_1078 (by decide) ?_
  refine q_iload C dL_law_1079 0 rfl ?_
  refine q_imulN C dL_law_1081  ?_
  refine q_ialdN C (k := 71) (n := 12) ⟨by decide, by decide, by decide⟩ (by omega) (by decide) dL_law_1082 ?_
  refine q_if_ge C 1101 dL_law_1083 (by decide) (fun c_1083 => ?_) (fun c_1083 => ?_)
  · skip
    obtain ⟨its, hpa, hpe, hpe6⟩ := z_bp hrel.2.2.2.2.2.2.1 (show lo_1071 < 6 by omega) c_1083
    obtain ⟨ow, how7, how⟩ := hrel.2.2.2.2.2.2.1.2.2 lo_1071 (by omega)
    have e71 := (hrel.2.2.2.2.2.2.1.1 lo_1071 (by omega)).2.1
    refine q_iload C dL_law_1101 3 rfl ?_
    refine q_bipush C (nI 14) dL_law_1103 (by decide) ?_
    refine q_icmp_neN C 1223 dL_law_1105 (by decide) (by omega) (by omega) (fun c_1105 => ?_) (fun c_1105 => ?_)
    · skip
      refine q_aload_n C dL_law_1223 rfl 8 rfl ?_
      refine q_iconst C (nI 3) dL_law_1224 (by decide) ?_
      refine q_aload C dL_law_1225 10 rfl ?_
      refine q_iconst C (nI 2) dL_law_1227 (by decide) ?_
      refine q_iload C dL_law_1228 0 rfl ?_
      refine q_imulN C dL_law_1230  ?_
      refine q_ialdN C (k := 71) (n := 12) ⟨by decide, by decide, by decide⟩ (by omega) (by decide) dL_law_1231 ?_
      refine q_stk (st' := [.int (nI its), .int (nI 3), .ref (σ.2.1 69)]) (congrArg (fun z => Value.int z :: [.int (nI 3), .ref (σ.2.1 69)]) (hpe)) ?_
      refine q_imulN C dL_law_1232  ?_
      refine q_ialdN C (k := 69) (n := 18) ⟨by decide, by decide, by decide⟩ (by omega) (by decide) dL_law_1233 ?_
      refine q_stk (st' := [.int (nI (gp its))]) (congrArg (fun z => Value.int z :: []) ((hrel.2.2.2.1.2.2.2 its hpa).1)) ?_
      refine q_istore C [(17, .int (nI (gp its))), (16, .int (nI lo_1071)), (15, .int (nI col)), (14, .int (nI wh)), (13, .int (nI kd)), (12, .int y), (10, .int (nI t)), (0, .ref b), (1, .ref (σ.2.1 0)), (2, .ref (σ.2.1 69)), (3, .ref (σ.2.1 70)), (4, .ref (σ.2.1 71)), (5, .ref (σ.2.1 72)), (6, .ref (σ.2.1 73)), (7, .ref (σ.2.1 74)), (8, .ref (σ.2.1 19)), (9, .ref (σ.2.1 18))] dL_law_1234 (by decide) rfl ?_
      refine q_iconst C (nI 0) dL_law_1236 (by decide) ?_
      refine q_istore C [(18, .int (nI 0)), (17, .int (nI (gp its))), (16, .int (nI lo_1071)), (15, .int (nI col)), (14, .int (nI wh)), (13, .int (nI kd)), (12, .int y), (10, .int (nI t)), (0, .ref b), (1, .ref (σ.2.1 0)), (2, .ref (σ.2.1 69)), (3, .ref (σ.2.1 70)), (4, .ref (σ.2.1 71)), (5, .ref (σ.2.1 72)), (6, .ref (σ.2.1 73)), (7, .ref (σ.2.1 74)), (8, .ref (σ.2.1 19)), (9, .ref (σ.2.1 18))] dL_law_1237 (by decide) rfl ?_
      have L_3 : ∀ (nL_3 : Nat) (c9 : Nat) (hc9 : c9 ≤ 8), 8 - c9 < nL_3 → q_W σ p l e room_1 s m #[Value.ref b] below meth c Q 21 cells slots (z_add72 V ow (fun j => nI (gneed (gp its) j)) c9) G [(18, .int (nI c9)), (0, .ref b), (1, .ref (σ.2.1 0)), (2, .ref (σ.2.1 69)), (3, .ref (σ.2.1 70)), (4, .ref (σ.2.1 71)), (5, .ref (σ.2.1 72)), (6, .ref (σ.2.1 73)), (7, .ref (σ.2.1 74)), (8, .ref (σ.2.1 19)), (9, .ref (σ.2.1 18)), (10, .int (nI t)), (12, .int y), (14, .int (nI wh)), (15, .int (nI col)), (16, .int (nI lo_1071)), (17, .int (nI (gp its)))] 1239 [] := by
        intro nL_3
        induction nL_3 with
        | zero => intro c9 hc9 h; exact absurd h (Nat.not_lt_zero _)
        | succ nL_3 ihL_3 =>
          intro c9 hc9 hmL_3
          refine q_iload C dL_law_1239 0 rfl ?_
          refine q_bipush C (nI 8) dL_law_1241 (by decide) ?_
          refine q_icmp_geN C 1280 dL_law_1243 (by decide) (by omega) (by omega) (fun c_1243 => ?_) (fun c_1243 => ?_)
          · skip
            refine q_VG (V' := z_add72 V ow (fun j => nI (gneed (gp its) j)) 8) (G' := G) (by rw [show c9 = 8 by omega]) rfl ?_
            refine q_aload C dL_law_1280 5 rfl ?_
            refine q_iconst C (nI 2) dL_law_1282 (by decide) ?_
            refine q_iload C dL_law_1283 15 rfl ?_
            refine q_imulN C dL_law_1285  ?_
            refine q_iconst C ((-1)) dL_law_1286 (by decide) ?_
            refine q_iastN C (k := 71) (n := 12) ⟨by decide, by decide, by decide⟩ (by omega) (by decide) dL_law_1287 ?_
            refine q_aload_n C dL_law_1288 rfl 2 rfl ?_
            refine q_iload C dL_law_1289 15 rfl ?_
            refine q_callVi C (As := [.int (nI lo_1071)]) (rest := []) (k := 0) (by omega) q_enBP rfl rfl (zM_apart l σ V (q_up (z_add72 V ow (fun j => nI (gneed (gp its) j)) 8) 71 (2 * lo_1071) (((-1)))) G hlf (fun a h1 h2 => ((q_up_off _ _ (by omega)).trans (z_add72_off _ _ _ _ (by omega)))) hrel.1 (by omega) hrel.2.2.2.1 hrel.2.2.2.2.2.2.1 (by omega) hpa hpe6 how how7) 1 gL_law_X2_apart rfl rfl rfl (by decide +kernel) ⟨Nat.le_of_ble_eq_true rfl, Nat.le_of_ble_eq_true rfl⟩ dL_law_1291 rfl (Nat.le_of_ble_eq_true rfl) ⟨by show _ ≤ 658728; omega, by show _ ≤ 7125285; omega⟩ (fun r_1291 V_4 G_5 hq_1291 => ?_)
            obtain ⟨rfl, rfl, rfl⟩ := hq_1291
            refine q_iload C dL_law_1294 16 rfl ?_
            refine q_callSi C (As := [.int (nI (gp its))]) (rest := [.int (nI (gwd (gp its) * ghi (gp its)))]) (kL_wide l σ (q_up (q_addr (q_up (z_add72 V ow (fun j => nI (gneed (gp its) j)) 8) 71 (2 * lo_1071) (((-1)))) ow (fun c => nI (gneed (gp its) c)) 8) 6 lo_1071 (-1)) G (g := gp its) (hrel.2.2.2.1.2.2.2 its hpa).2.1.1) 1 gL_law_L_wide rfl rfl rfl (by decide +kernel) ⟨Nat.le_of_ble_eq_true rfl, Nat.le_of_ble_eq_true rfl⟩ dL_law_1296 rfl (Nat.le_of_ble_eq_true rfl) ⟨by show _ ≤ 658728; omega, by show _ ≤ 7125285; omega⟩ (fun r_1296 V_6 G_7 hq_1296 => ?_)
            obtain ⟨rfl, rfl, rfl⟩ := hq_1296
            refine q_iload C dL_law_1299 16 rfl ?_
            refine q_callSi C (As := [.int (nI (gp its))]) (rest := [.int (nI (gwd (gp its))), .int (nI (gwd (gp its) * ghi (gp its)))]) (kL_high l σ (q_up (q_addr (q_up (z_add72 V ow (fun j => nI (gneed (gp its) j)) 8) 71 (2 * lo_1071) (((-1)))) ow (fun c => nI (gneed (gp its) c)) 8) 6 lo_1071 (-1)) G (g := gp its) (hrel.2.2.2.1.2.2.2 its hpa).2.1.1) 1 gL_law_L_high rfl rfl rfl (by decide +kernel) ⟨Nat.le_of_ble_eq_true rfl, Nat.le_of_ble_eq_true rfl⟩ dL_law_1301 rfl (Nat.le_of_ble_eq_true rfl) ⟨by show _ ≤ 658728; omega, by show _ ≤ 7125285; omega⟩ (fun r_1301 V_8 G_9 hq_1301 => ?_)
            obtain ⟨rfl, rfl, rfl⟩ := hq_1301
            refine q_imulN C dL_law_1304  ?_
            refine q_icmp_eq C 1310 dL_law_1305 (by decide) (fun c_1305 => ?_) (fun c_1305 => absurd c_1305 (by exact fun z => z rfl))
            refine q_goto C 1572 dL_law_1310 (by decide) ?_
            refine q_sub (lv' := [(15, .int (nI col)), (10, .int (nI t)), (0, .ref b), (1, .ref (σ.2.1 0)), (2, .ref (σ.2.1 69)), (3, .ref (σ.2.1 70)), (4, .ref (σ.2.1 71)), (5, .ref (σ.2.1 72)), (6, .ref (σ.2.1 73)), (7, .ref (σ.2.1 74)), (8, .ref (σ.2.1 19)), (9, .ref (σ.2.1 18))]) [14, 11, 1, 2, 3, 4, 5, 6, 7, 8, 9, 10] rfl ?_
            exact w_tail l hlf C hce hse (z_apart hrel (by omega) hpa hpe6 how7) (by omega) ht hcol (by omega) (by omega) kk
          · skip
            refine q_aload C dL_law_1246 6 rfl ?_
            refine q_bipush C (nI 8) dL_law_1248 (by decide) ?_
            refine q_aload C dL_law_1250 5 rfl ?_
            refine q_iconst C (nI 2) dL_law_1252 (by decide) ?_
            refine q_iload C dL_law_1253 15 rfl ?_
            refine q_imulN C dL_law_1255  ?_
            refine q_iconst C (nI 1) dL_law_1256 (by decide) ?_
            refine q_iaddN C dL_law_1257  ?_
            refine q_ialdN C (k := 71) (n := 12) ⟨by decide, by decide, by decide⟩ (by omega) (by decide) dL_law_1258 ?_
            refine q_stk (st' := [.int (nI ow), .int (nI 8), .ref (σ.2.1 72)]) (congrArg (fun z => Value.int z :: [.int (nI 8), .ref (σ.2.1 72)]) ((congrFun (z_add72_off _ _ _ _ (by decide)) _).trans (e71.trans how))) ?_
            refine q_imulN C dL_law_1259  ?_
            refine q_iload C dL_law_1260 0 rfl ?_
            refine q_iaddN C dL_law_1262  ?_
            refine q_dup2 C dL_law_1263 rfl rfl ?_
            refine q_ialdN C (k := 72) (n := 64) ⟨by decide, by decide, by decide⟩ (by omega) (by decide) dL_law_1264 ?_
            refine q_stk (st' := [.int (V 72 ((8 * ow) + c9)), .int (nI ((8 * ow) + c9)), .ref (σ.2.1 72)]) (congrArg (fun z => Value.int z :: [.int (nI ((8 * ow) + c9)), .ref (σ.2.1 72)]) (z_add72_at _ _ _ _)) ?_
            refine q_iload C dL_law_1265 16 rfl ?_
            refine q_iload C dL_law_1267 0 rfl ?_
            refine q_callSi C (As := [.int (nI (gp its)), .int (nI c9)]) (rest := [.int (V 72 ((8 * ow) + c9)), .int (nI ((8 * ow) + c9)), .ref (σ.2.1 72)]) (kL_needs l σ (z_add72 V ow (fun j => nI (gneed (gp its) j)) c9) G (g := gp its) (hrel.2.2.2.1.2.2.2 its hpa).2.1 (col := c9) (by omega)) 2 gL_law_L_needs rfl rfl rfl (by decide +kernel) ⟨Nat.le_of_ble_eq_true rfl, Nat.le_of_ble_eq_true rfl⟩ dL_law_1269 rfl (Nat.le_of_ble_eq_true rfl) ⟨by show _ ≤ 658728; omega, by show _ ≤ 7125285; omega⟩ (fun r_1269 V_10 G_11 hq_1269 => ?_)
            obtain ⟨rfl, rfl, rfl⟩ := hq_1269
            refine q_iadd C dL_law_1272 ?_
            refine q_iastN C (k := 72) (n := 64) ⟨by decide, by decide, by decide⟩ (by omega) (by decide) dL_law_1273 ?_
            refine q_VG (V' := z_add72 V ow (fun j => nI (gneed (gp its) j)) (c9 + 1)) (G' := G) (by exact z_add72_s _ _ _ _) rfl ?_
            refine q_iincN C [(18, .int (nI (c9 + 1))), (0, .ref b), (1, .ref (σ.2.1 0)), (2, .ref (σ.2.1 69)), (3, .ref (σ.2.1 70)), (4, .ref (σ.2.1 71)), (5, .ref (σ.2.1 72)), (6, .ref (σ.2.1 73)), (7, .ref (σ.2.1 74)), (8, .ref (σ.2.1 19)), (9, .ref (σ.2.1 18)), (10, .int (nI t)), (12, .int y), (14, .int (nI wh)), (15, .int (nI col)), (16, .int (nI lo_1071)), (17, .int (nI (gp its)))] dL_law_1274 0 rfl (by decide) rfl ?_
            refine q_goto C 1239 dL_law_1277 (by decide) ?_
            refine q_sub (lv' := [(18, .int (nI (c9 + 1))), (0, .ref b), (1, .ref (σ.2.1 0)), (2, .ref (σ.2.1 69)), (3, .ref (σ.2.1 70)), (4, .ref (σ.2.1 71)), (5, .ref (σ.2.1 72)), (6, .ref (σ.2.1 73)), (7, .ref (σ.2.1 74)), (8, .ref (σ.2.1 19)), (9, .ref (σ.2.1 18)), (10, .int (nI t)), (12, .int y), (14, .int (nI wh)), (15, .int (nI col)), (16, .int (nI lo_1071)), (17, .int (nI (gp its)))]) [0, 1, 2, 3, 4, 5, 6, 7, 8, 9, 10, 11, 12, 13, 14, 15, 16] rfl ?_
            exact ihL_3 (c9 + 1) (by omega) (by omega)
      refine q_sub (lv' := [(18, .int (nI 0)), (0, .ref b), (1, .ref (σ.2.1 0)), (2, .ref (σ.2.1 69)), (3, .ref (σ.2.1 70)), (4, .ref (σ.2.1 71)), (5, .ref (σ.2.1 72)), (6, .ref (σ.2.1 73)), (7, .ref (σ.2.1 74)), (8, .ref (σ.2.1 19)), (9, .ref (σ.2.1 18)), (10, .int (nI t)), (12, .int y), (14, .int (nI wh)), (15, .int (nI col)), (16, .int (nI lo_1071)), (17, .int (nI (gp its)))]) [0, 8, 9, 10, 11, 12, 13, 14, 15, 16, 17, 7, 6, 4, 3, 2, 1] rfl ?_
      refine q_VG (V' := z_add72 V ow (fun j => nI (gneed (gp its) j)) 0) (G' := G) ((z_add72_0 V ow (fun j => nI (gneed (gp its) j))).symm) rfl ?_
      exact L_3 _ 0 (Nat.zero_le _) (Nat.lt_succ_self _)
    · skip
      refine q_aload C dL_law_1108 10 rfl ?_
      refine q_iconst C (nI 2) dL_law_1110 (by decide) ?_
      refine q_iload C dL_law_1111 0 rfl ?_
      refine q_imulN C dL_law_1113  ?_
      refine q_iconst C (nI 1) dL_law_1114 (by decide) ?_
      refine q_iaddN C dL_law_1115  ?_
      refine q_ialdN C (k := 71) (n := 12) ⟨by decide, by decide, by decide⟩ (by omega) (by decide) dL_law_1116 ?_
      refine q_istore C [(17, .int (V 71 ((2 * lo_1071) + 1))), (16, .int (nI lo_1071)), (15, .int (nI col)), (14, .int (nI wh)), (13, .int (nI kd)), (12, .int y), (10, .int (nI t)), (0, .ref b), (1, .ref (σ.2.1 0)), (2, .ref (σ.2.1 69)), (3, .ref (σ.2.1 70)), (4, .ref (σ.2.1 71)), (5, .ref (σ.2.1 72)), (6, .ref (σ.2.1 73)), (7, .ref (σ.2.1 74)), (8, .ref (σ.2.1 19)), (9, .ref (σ.2.1 18))] dL_law_1117 (by decide) rfl ?_
      refine q_aload C dL_law_1119 11 rfl ?_
      refine q_iconst C (nI 2) dL_law_1121 (by decide) ?_
      refine q_iload C dL_law_1122 1 rfl ?_
      refine q_imulN C dL_law_1124  ?_
      refine q_iconst C (nI 1) dL_law_1125 (by decide) ?_
      refine q_iaddN C dL_law_1126  ?_
      refine q_iload C dL_law_1127 3 rfl ?_
      refine q_iastN C (k := 71) (n := 12) ⟨by decide, by decide, by decide⟩ (by omega) (by decide) dL_law_1129 ?_
      refine q_aload_n C dL_law_1130 rfl 8 rfl ?_
      refine q_iload C dL_law_1131 1 rfl ?_
      refine q_iload C dL_law_1133 3 rfl ?_
      refine q_callVi C (As := [.int (nI lo_1071), .int (nI wh)]) (rest := []) (k := 0) (by omega) q_enBP rfl rfl (zM_give l σ (q_up V 71 ((2 * lo_1071) + 1) (nI wh)) G hlf (k := lo_1071) (wh := wh) (v := V 7 lo_1071) (by omega) hwh (by rw [q_up_ne _ _ (by omega), hpe6]; exact q_nI_ne1 (by omega)) (q_up_ne _ _ (by omega))) 2 gL_law_X2_give rfl rfl rfl (by decide +kernel) ⟨Nat.le_of_ble_eq_true rfl, Nat.le_of_ble_eq_true rfl⟩ dL_law_1135 rfl (Nat.le_of_ble_eq_true rfl) ⟨by show _ ≤ 658728; omega, by show _ ≤ 7125285; omega⟩ (fun r_1135 X G_12 hq_1135 => ?_)
      obtain ⟨rfl, hxe_1135, rfl⟩ := hq_1135
      have hX := z_give hrel hrel.2.2.2.2.2.2.2.2.2 (k := lo_1071) (wh := wh) (by omega) hwh
      rw [hxe_1135] at hX
      refine q_iload C dL_law_1138 0 rfl ?_
      refine q_icmp_eq C 1145 dL_law_1140 (by decide) (fun c_1140 => ?_) (fun c_1140 => absurd c_1140 (by exact fun z => z (by rw [e71])))
      have hx6 : X 6 lo_1071 = nI its := by
        rw [← hxe_1135, q_up_ne _ _ (by omega), q_up_ne _ _ (by omega)]
        exact hpe6
      have hx71 : X 71 (2 * lo_1071) = nI its := by
        rw [← hxe_1135, q_up_ne _ _ (by omega), q_up_ne _ _ (by omega)]
        exact hpe
      have hns4 := hX.2.2.2.2.2.1.2.2.1
      refine q_iconst C (nI 0) dL_law_1145 (by decide) ?_
      refine q_istore C [(18, .int (nI 0)), (17, .int (V 71 ((2 * lo_1071) + 1))), (16, .int (nI lo_1071)), (15, .int (nI col)), (14, .int (nI wh)), (13, .int (nI kd)), (12, .int y), (10, .int (nI t)), (0, .ref b), (1, .ref (σ.2.1 0)), (2, .ref (σ.2.1 69)), (3, .ref (σ.2.1 70)), (4, .ref (σ.2.1 71)), (5, .ref (σ.2.1 72)), (6, .ref (σ.2.1 73)), (7, .ref (σ.2.1 74)), (8, .ref (σ.2.1 19)), (9, .ref (σ.2.1 18))] dL_law_1146 (by decide) rfl ?_
      have L_13 : ∀ (nL_13 : Nat) (i : Nat) (hi : i ≤ ns), ns - i < nL_13 → q_W σ p l e room_1 s m #[Value.ref b] below meth c Q 21 (cells + 6) (slots + 36) X (q_upL G 19 wh (G 19 wh + (q_cstory X its i).toInt64)) [(18, .int (nI i)), (0, .ref b), (1, .ref (σ.2.1 0)), (2, .ref (σ.2.1 69)), (3, .ref (σ.2.1 70)), (4, .ref (σ.2.1 71)), (5, .ref (σ.2.1 72)), (6, .ref (σ.2.1 73)), (7, .ref (σ.2.1 74)), (8, .ref (σ.2.1 19)), (9, .ref (σ.2.1 18)), (10, .int (nI t)), (12, .int y), (14, .int (nI wh)), (15, .int (nI col)), (16, .int (nI lo_1071))] 1148 [] := by
        intro nL_13
        induction nL_13 with
        | zero => intro i hi h; exact absurd h (Nat.not_lt_zero _)
        | succ nL_13 ihL_13 =>
          intro i hi hmL_13
          refine q_iload C dL_law_1148 0 rfl ?_
          refine q_aload C dL_law_1150 10 rfl ?_
          refine q_iconst C (nI 2) dL_law_1152 (by decide) ?_
          refine q_ialdN C (k := 18) (n := 3) ⟨by decide, by decide, by decide⟩ (by omega) (by decide) dL_law_1153 ?_
          refine q_stk (st' := [.int (nI ns), .int (nI i)]) (congrArg (fun z => Value.int z :: [.int (nI i)]) (hX.2.2.2.2.2.1.2.1)) ?_
          refine q_icmp_geN C 1201 dL_law_1154 (by decide) (by omega) (by omega) (fun c_1154 => ?_) (fun c_1154 => ?_)
          · skip
            have hins : i = ns := by omega
            refine q_aload_n C dL_law_1201 rfl 2 rfl ?_
            refine q_iload C dL_law_1202 15 rfl ?_
            refine q_iload C dL_law_1204 13 rfl ?_
            refine q_callVl C (As := [.int (nI lo_1071), .int (nI wh)]) (rest := []) (k := 0) (by omega) q_enBP rfl rfl (zM_hear l σ X (q_upL G 19 wh (G 19 wh + (q_cstory X its i).toInt64)) hlf hX.2.2.2.1 hX.2.2.2.2.2.1 hX.2.2.2.2.2.2.1 (k := lo_1071) (wh := wh) (its := its) (by omega) hwh hpa hx6) 2 gL_law_X2_hear rfl rfl rfl (by decide +kernel) ⟨Nat.le_of_ble_eq_true rfl, Nat.le_of_ble_eq_true rfl⟩ dL_law_1206 rfl (Nat.le_of_ble_eq_true rfl) ⟨by show _ ≤ 658728; omega, by show _ ≤ 7125285; omega⟩ (fun r_1206 V_14 G_15 hq_1206 => ?_)
            obtain ⟨rfl, rfl, rfl⟩ := hq_1206
            refine q_aload C dL_law_1209 9 rfl ?_
            refine q_iload C dL_law_1211 13 rfl ?_
            refine q_laldN C (k := 19) (n := 7) ⟨by decide, by decide, by decide⟩ (by omega) (by decide) dL_law_1213 ?_
            refine q_lcmp C dL_law_1214 ?_
            refine q_if_eq C 1220 dL_law_1215 (by decide) (fun c_1215 => ?_) (fun c_1215 => absurd c_1215 (by exact fun z => z (by rw [hins]; exact z_lc0 (hrel.2.2.2.2.2.2.2.2.2 wh (by omega)))))
            refine q_goto C 1310 dL_law_1220 (by decide) ?_
            refine q_goto C 1572 dL_law_1310 (by decide) ?_
            refine q_sub (lv' := [(15, .int (nI col)), (10, .int (nI t)), (0, .ref b), (1, .ref (σ.2.1 0)), (2, .ref (σ.2.1 69)), (3, .ref (σ.2.1 70)), (4, .ref (σ.2.1 71)), (5, .ref (σ.2.1 72)), (6, .ref (σ.2.1 73)), (7, .ref (σ.2.1 74)), (8, .ref (σ.2.1 19)), (9, .ref (σ.2.1 18))]) [14, 11, 1, 2, 3, 4, 5, 6, 7, 8, 9, 10] rfl ?_
            exact w_tail l hlf C hce hse (zRel_G hX (z_hear10 hrel.2.2.2.2.2.2.2.2.2 (by rw [hins, q_upL_ne _ _ (by omega), hrel.2.2.2.2.2.2.2.2.2 wh (by omega)]))) (by omega) ht hcol (by omega) (by omega) kk
          · skip
            refine q_aload C dL_law_1157 9 rfl ?_
            refine q_iload C dL_law_1159 13 rfl ?_
            refine q_dup2 C dL_law_1161 rfl rfl ?_
            refine q_laldN C (k := 19) (n := 7) ⟨by decide, by decide, by decide⟩ (by omega) (by decide) dL_law_1162 ?_
            refine q_stk (st' := [.long (G 19 wh + (q_cstory X its i).toInt64), .int (nI wh), .ref (σ.2.1 19)]) (by rw [q_upL_self]) ?_
            refine q_aload_n C dL_law_1163 rfl 4 rfl ?_
            refine q_iconst C (nI 2) dL_law_1164 (by decide) ?_
            refine q_iload C dL_law_1165 0 rfl ?_
            refine q_imulN C dL_law_1167  ?_
            refine q_iconst C (nI 1) dL_law_1168 (by decide) ?_
            refine q_iaddN C dL_law_1169  ?_
            refine q_ialdN C (k := 70) (n := 8) ⟨by decide, by decide, by decide⟩ (by omega) (by decide) dL_law_1170 ?_
            refine q_aload_n C dL_law_1171 rfl 4 rfl ?_
            refine q_iconst C (nI 2) dL_law_1172 (by decide) ?_
            refine q_iload C dL_law_1173 0 rfl ?_
            refine q_imulN C dL_law_1175  ?_
            refine q_ialdN C (k := 70) (n := 8) ⟨by decide, by decide, by decide⟩ (by omega) (by decide) dL_law_1176 ?_
            refine q_stk (st' := [.int (nI (gs i)), .int (X 70 ((2 * i) + 1)), .long (G 19 wh + (q_cstory X its i).toInt64), .int (nI wh), .ref (σ.2.1 19)]) (congrArg (fun z => Value.int z :: [.int (X 70 ((2 * i) + 1)), .long (G 19 wh + (q_cstory X its i).toInt64), .int (nI wh), .ref (σ.2.1 19)]) ((hX.2.2.2.2.2.1.2.2.2 i (by omega)).1)) ?_
            refine q_aload_n C dL_law_1177 rfl 3 rfl ?_
            refine q_iconst C (nI 3) dL_law_1178 (by decide) ?_
            refine q_aload C dL_law_1179 5 rfl ?_
            refine q_iconst C (nI 2) dL_law_1181 (by decide) ?_
            refine q_iload C dL_law_1182 15 rfl ?_
            refine q_imulN C dL_law_1184  ?_
            refine q_ialdN C (k := 71) (n := 12) ⟨by decide, by decide, by decide⟩ (by omega) (by decide) dL_law_1185 ?_
            refine q_stk (st' := [.int (nI its), .int (nI 3), .ref (σ.2.1 69), .int (nI (gs i)), .int (X 70 ((2 * i) + 1)), .long (G 19 wh + (q_cstory X its i).toInt64), .int (nI wh), .ref (σ.2.1 19)]) (congrArg (fun z => Value.int z :: [.int (nI 3), .ref (σ.2.1 69), .int (nI (gs i)), .int (X 70 ((2 * i) + 1)), .long (G 19 wh + (q_cstory X its i).toInt64), .int (nI wh), .ref (σ.2.1 19)]) (hx71)) ?_
            refine q_imulN C dL_law_1186  ?_
            refine q_ialdN C (k := 69) (n := 18) ⟨by decide, by decide, by decide⟩ (by omega) (by decide) dL_law_1187 ?_
            refine q_stk (st' := [.int (nI (gp its)), .int (nI (gs i)), .int (X 70 ((2 * i) + 1)), .long (G 19 wh + (q_cstory X its i).toInt64), .int (nI wh), .ref (σ.2.1 19)]) (congrArg (fun z => Value.int z :: [.int (nI (gs i)), .int (X 70 ((2 * i) + 1)), .long (G 19 wh + (q_cstory X its i).toInt64), .int (nI wh), .ref (σ.2.1 19)]) ((hX.2.2.2.1.2.2.2 its hpa).1)) ?_
            refine q_callSi C (As := [.int (nI (gs i)), .int (nI (gp its))]) (rest := [.int (X 70 ((2 * i) + 1)), .long (G 19 wh + (q_cstory X its i).toInt64), .int (nI wh), .ref (σ.2.1 19)]) (kL_stands l σ X (q_upL G 19 wh (G 19 wh + (q_cstory X its i).toInt64)) (sn := gs i) (hX.2.2.2.2.2.1.2.2.2 i (by omega)).2.1.1 (g := gp its) (hX.2.2.2.1.2.2.2 its hpa).2.1) 2 gL_law_L_stands rfl rfl rfl (by decide +kernel) ⟨Nat.le_of_ble_eq_true rfl, Nat.le_of_ble_eq_true rfl⟩ dL_law_1188 rfl (Nat.le_of_ble_eq_true rfl) ⟨by show _ ≤ 658728; omega, by show _ ≤ 7125285; omega⟩ (fun r_1188 V_16 G_17 hq_1188 => ?_)
            obtain ⟨rfl, rfl, rfl⟩ := hq_1188
            refine q_imul C dL_law_1191 ?_
            refine q_i2l C dL_law_1192 ?_
            refine q_ladd C dL_law_1193 ?_
            refine q_lastN C (k := 19) (n := 7) ⟨by decide, by decide, by decide⟩ (by omega) (by decide) dL_law_1194 ?_
            refine q_VG (V' := X) (G' := q_upL G 19 wh (G 19 wh + (q_cstory X its (i + 1)).toInt64)) rfl (by rw [q_upL_upL, Int64.add_assoc, z_st_long hX.2.2.2.1 hX.2.2.2.2.2.1 hpa (by omega)]) ?_
            refine q_iincN C [(18, .int (nI (i + 1))), (0, .ref b), (1, .ref (σ.2.1 0)), (2, .ref (σ.2.1 69)), (3, .ref (σ.2.1 70)), (4, .ref (σ.2.1 71)), (5, .ref (σ.2.1 72)), (6, .ref (σ.2.1 73)), (7, .ref (σ.2.1 74)), (8, .ref (σ.2.1 19)), (9, .ref (σ.2.1 18)), (10, .int (nI t)), (12, .int y), (14, .int (nI wh)), (15, .int (nI col)), (16, .int (nI lo_1071))] dL_law_1195 0 rfl (by decide) rfl ?_
            refine q_goto C 1148 dL_law_1198 (by decide) ?_
            refine q_sub (lv' := [(18, .int (nI (i + 1))), (0, .ref b), (1, .ref (σ.2.1 0)), (2, .ref (σ.2.1 69)), (3, .ref (σ.2.1 70)), (4, .ref (σ.2.1 71)), (5, .ref (σ.2.1 72)), (6, .ref (σ.2.1 73)), (7, .ref (σ.2.1 74)), (8, .ref (σ.2.1 19)), (9, .ref (σ.2.1 18)), (10, .int (nI t)), (12, .int y), (14, .int (nI wh)), (15, .int (nI col)), (16, .int (nI lo_1071))]) [0, 1, 2, 3, 4, 5, 6, 7, 8, 9, 10, 11, 12, 13, 14, 15] rfl ?_
            exact ihL_13 (i + 1) (by omega) (by omega)
      refine q_sub (lv' := [(18, .int (nI 0)), (0, .ref b), (1, .ref (σ.2.1 0)), (2, .ref (σ.2.1 69)), (3, .ref (σ.2.1 70)), (4, .ref (σ.2.1 71)), (5, .ref (σ.2.1 72)), (6, .ref (σ.2.1 73)), (7, .ref (σ.2.1 74)), (8, .ref (σ.2.1 19)), (9, .ref (σ.2.1 18)), (10, .int (nI t)), (12, .int y), (14, .int (nI wh)), (15, .int (nI col)), (16, .int (nI lo_1071))]) [0, 8, 9, 10, 11, 12, 13, 14, 15, 16, 17, 7, 6, 4, 3, 2] rfl ?_
      refine q_VG (V' := X) (G' := q_upL G 19 wh (G 19 wh + (q_cstory X its 0).toInt64)) rfl ((q_upL_same (Int64.add_zero _).symm).symm) ?_
      exact L_13 _ 0 (Nat.zero_le _) (Nat.lt_succ_self _)
  · skip
    refine q_aload_n C dL_law_1086 rfl 7 rfl ?_
    refine q_iconst C (nI 2) dL_law_1087 (by decide) ?_
    refine q_iload C dL_law_1088 0 rfl ?_
    refine q_iconst C (nI 0) dL_law_1090 (by decide) ?_
    refine q_iconst C (nI 0) dL_law_1091 (by decide) ?_
    refine q_callWi C (As := [.ref (σ.2.1 0), .int (nI 2), .int (nI lo_1071), .int (nI 0), .int (nI 0)]) (rest := []) (zM_noApart l σ V G hlf hrel.2.2.2.1 hrel.2.2.2.2.2.2.1 (by omega) (Int32.not_le.mp c_1083) (nI 0) (nI 0)) 5 gL_law_L_refused rfl rfl rfl (by decide +kernel) ⟨Nat.le_of_ble_eq_true rfl, Nat.le_of_ble_eq_true rfl⟩ dL_law_1092 rfl (Nat.le_of_ble_eq_true rfl) ⟨by show _ ≤ 658728; omega, by show _ ≤ 7125285; omega⟩ (fun r_1092 V_18 G_19 hq_1092 => ?_)
    obtain ⟨rfl, rfl, rfl⟩ := hq_1092
    refine q_iconst C (nI 1) dL_law_1095 (by decide) ?_
    refine q_icmp_eqN C 1620 dL_law_1096 (by decide) (by omega) (by omega) (fun _ => ?_) (fun c_1096 => absurd c_1096 (by omega))
    refine q_sub (lv' := [(10, .int (nI t)), (0, .ref b), (1, .ref (σ.2.1 0)), (2, .ref (σ.2.1 69)), (3, .ref (σ.2.1 70)), (4, .ref (σ.2.1 71)), (5, .ref (σ.2.1 72)), (6, .ref (σ.2.1 73)), (7, .ref (σ.2.1 74)), (8, .ref (σ.2.1 19)), (9, .ref (σ.2.1 18))]) [5, 6, 7, 8, 9, 10, 11, 12, 13, 14, 15] rfl ?_
    exact kk _ _ _ _ _ _ _ _ _ (zRel_mono hrel (by omega)) (by omega) (by omega)
