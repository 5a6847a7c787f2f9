/-! ===== the law, case by case: 16 to 31 ===== -/
section C5b
variable {G : p_G} {P : p_Zt} {k n : Nat} {h : p_H} {Yc Ym : Nat → Nat} {o1 o2 b N : Nat} {z : Int} {xs : Nat → Int32} {V Vm : Nat → Int} {C Cm : Nat → Int → Int} {J : c_J} {Jm : Int → Int}
theorem g_patternErrorKind (hZ : p_Zs G) (hZn : p_Zn G) (hX : p_Scr G b N xs) (hN : N ≤ 3072) (hz : 0 ≤ z ∧ z + 6 ≤ N) (hL : lHp Yc Ym o1 o2 (V, C, J) (Vm, Cm, Jm) h) (hS : lSm V C J Vm Cm) (hEnd : ∀ X' Xm' h', lHp Yc Ym o1 o2 X' Xm' h' → lS X' Xm' → SL G mL_law P 100 k n h' 3438 (lL b (Yc 0) (Ym 38) o1 o2 z) []) : SL G mL_law P 100 (7 + k) (493 + n) h 1093 (lL b (Yc 0) (Ym 38) o1 o2 z) [] := by
  refine SL.room (d' := 100) (k' := k) (n' := n) (Nat.le_refl _) (by omega) (by omega) ?_
  refine y_aload_n dL_law_1093 rfl ?_
  refine y_clv (As := []) hL dL_law_1094 cfX10_patternErrorKind imX10_patternErrorKind seX10_patternErrorKind lL_226 rfl rfl rfl (e_patternErrorKind hZ hS ) (fun X1 h1 v hL1 hv hR => ?_)
  obtain ⟨x, rfl⟩ := hv
  refine y_aload_n dL_law_1097 rfl ?_
  refine y_mcl (As := []) (rest := [.int x]) hL1 hR dL_law_1098 cfX11_patternErrorKind imX11_patternErrorKind seX11_patternErrorKind lL_229 rfl rfl rfl (Nat.le_of_ble_eq_true rfl) (fun o Xm2 h2 hQ hL2 e1 e2 => ?_)
  obtain ⟨rfl, -, hS2⟩ := hQ
  exact y_same (pc := 1101) dL_law_1101 (by decide) (hEnd _ _ _ hL2 hS2)
theorem g_patternErrorOffset (hZ : p_Zs G) (hZn : p_Zn G) (hX : p_Scr G b N xs) (hN : N ≤ 3072) (hz : 0 ≤ z ∧ z + 6 ≤ N) (hL : lHp Yc Ym o1 o2 (V, C, J) (Vm, Cm, Jm) h) (hS : lSm V C J Vm Cm) (hEnd : ∀ X' Xm' h', lHp Yc Ym o1 o2 X' Xm' h' → lS X' Xm' → SL G mL_law P 100 k n h' 3438 (lL b (Yc 0) (Ym 38) o1 o2 z) []) : SL G mL_law P 100 (7 + k) (493 + n) h 1106 (lL b (Yc 0) (Ym 38) o1 o2 z) [] := by
  refine SL.room (d' := 100) (k' := k) (n' := n) (Nat.le_refl _) (by omega) (by omega) ?_
  refine y_aload_n dL_law_1106 rfl ?_
  refine y_clv (As := []) hL dL_law_1107 cfX10_patternErrorOffset imX10_patternErrorOffset seX10_patternErrorOffset lL_230 rfl rfl rfl (e_patternErrorOffset hZ hS ) (fun X1 h1 v hL1 hv hR => ?_)
  obtain ⟨x, rfl⟩ := hv
  refine y_aload_n dL_law_1110 rfl ?_
  refine y_mcl (As := []) (rest := [.int x]) hL1 hR dL_law_1111 cfX11_patternErrorOffset imX11_patternErrorOffset seX11_patternErrorOffset lL_233 rfl rfl rfl (Nat.le_of_ble_eq_true rfl) (fun o Xm2 h2 hQ hL2 e1 e2 => ?_)
  obtain ⟨rfl, -, hS2⟩ := hQ
  exact y_same (pc := 1114) dL_law_1114 (by decide) (hEnd _ _ _ hL2 hS2)
theorem g_positionCount (hZ : p_Zs G) (hZn : p_Zn G) (hX : p_Scr G b N xs) (hN : N ≤ 3072) (hz : 0 ≤ z ∧ z + 6 ≤ N) (hL : lHp Yc Ym o1 o2 (V, C, J) (Vm, Cm, Jm) h) (hS : lSm V C J Vm Cm) (hEnd : ∀ X' Xm' h', lHp Yc Ym o1 o2 X' Xm' h' → lS X' Xm' → SL G mL_law P 100 k n h' 3438 (lL b (Yc 0) (Ym 38) o1 o2 z) []) : SL G mL_law P 100 (7 + k) (493 + n) h 1119 (lL b (Yc 0) (Ym 38) o1 o2 z) [] := by
  refine SL.room (d' := 100) (k' := 1 + k) (n' := 6 + n) (Nat.le_refl _) (by omega) (by omega) ?_
  refine y_aload_n dL_law_1119 rfl ?_
  refine y_arg (q := 1) hX hN hz (by decide) rfl rfl dL_law_1120 dL_law_1121 dL_law_1123 dL_law_1124 dL_law_1125 ?_
  refine y_aload_n dL_law_1126 rfl ?_
  refine y_cls (As := [_]) (cv := cvI) (kd := kI) (Es := ["java/lang/IndexOutOfBoundsException"]) (mc := 1) (ms := 6) hL (fun v q => by obtain ⟨x, rfl⟩ := q; exact ⟨_, rfl⟩) (by decide) dL_law_1127 cfL_positionCount stL_positionCount lL_234 rfl rfl rfl rfl (fun hx kk => h_positionCount hx kk) (e_positionCount hZ hS (iI_rg _)) (fun X1 h1 k0 hL1 hR => ?_)
  refine y_istore (L' := lL6 b (Yc 0) (Ym 38) o1 o2 z k0) dL_law_1130 (by decide) rfl ?_
  refine y_aload_n dL_law_1132 rfl ?_
  refine y_arg (q := 1) hX hN hz (by decide) rfl rfl dL_law_1133 dL_law_1134 dL_law_1136 dL_law_1137 dL_law_1138 ?_
  refine y_mcl (As := [_]) (rest := []) hL1 hR dL_law_1139 cfX11_positionCount imX11_positionCount seX11_positionCount lL_236 rfl rfl rfl (Nat.zero_le _) (fun o Xm2 h2 hQ hL2 e1 e2 => ?_)
  obtain ⟨v, rfl, hv, ht, hS2, hg⟩ := hQ
  exact y_tlI (pc := 1142) ⟨dL_law_1142, ⟨dL_law_1144, dL_law_1145, dL_law_1148, dL_law_1150, dL_law_1155⟩, dL_law_1157, dL_law_1160, dL_law_1161, dL_law_1162, dL_law_1163, dL_law_1165, dL_law_1166, dL_law_1167, _, dL_law_1172, by decide⟩ hL2 hS2 hv ht (fun y => by rw [e1]; exact hg y) (fun h3 hL3 => hEnd _ _ _ hL3 hS2)
theorem g_streetAt (hZ : p_Zs G) (hZn : p_Zn G) (hX : p_Scr G b N xs) (hN : N ≤ 3072) (hz : 0 ≤ z ∧ z + 6 ≤ N) (hL : lHp Yc Ym o1 o2 (V, C, J) (Vm, Cm, Jm) h) (hS : lSm V C J Vm Cm) (hEnd : ∀ X' Xm' h', lHp Yc Ym o1 o2 X' Xm' h' → lS X' Xm' → SL G mL_law P 100 k n h' 3438 (lL b (Yc 0) (Ym 38) o1 o2 z) []) : SL G mL_law P 100 (7 + k) (493 + n) h 1175 (lL b (Yc 0) (Ym 38) o1 o2 z) [] := by
  refine SL.room (d' := 100) (k' := 2 + k) (n' := 12 + n) (Nat.le_refl _) (by omega) (by omega) ?_
  refine y_aload_n dL_law_1175 rfl ?_
  refine y_arg (q := 1) hX hN hz (by decide) rfl rfl dL_law_1176 dL_law_1177 dL_law_1179 dL_law_1180 dL_law_1181 ?_
  refine y_arg (q := 2) hX hN hz (by decide) rfl rfl dL_law_1182 dL_law_1183 dL_law_1185 dL_law_1186 dL_law_1187 ?_
  refine y_aload_n dL_law_1188 rfl ?_
  refine y_cls (As := [_, _]) (cv := cvI) (kd := kI) (Es := ["java/lang/IndexOutOfBoundsException"]) (mc := 2) (ms := 12) hL (fun v q => by obtain ⟨x, rfl⟩ := q; exact ⟨_, rfl⟩) (by decide) dL_law_1189 cfL_streetAt stL_streetAt lL_237 rfl rfl rfl rfl (fun hx kk => h_streetAt hx kk) (e_streetAt hZ hS (iI_rg _) (iI_rg _)) (fun X1 h1 k0 hL1 hR => ?_)
  refine y_istore (L' := lL6 b (Yc 0) (Ym 38) o1 o2 z k0) dL_law_1192 (by decide) rfl ?_
  refine y_aload_n dL_law_1194 rfl ?_
  refine y_arg (q := 1) hX hN hz (by decide) rfl rfl dL_law_1195 dL_law_1196 dL_law_1198 dL_law_1199 dL_law_1200 ?_
  refine y_arg (q := 2) hX hN hz (by decide) rfl rfl dL_law_1201 dL_law_1202 dL_law_1204 dL_law_1205 dL_law_1206 ?_
  refine y_mcl (As := [_, _]) (rest := []) hL1 hR dL_law_1207 cfX11_streetAt imX11_streetAt seX11_streetAt lL_239 rfl rfl rfl (Nat.zero_le _) (fun o Xm2 h2 hQ hL2 e1 e2 => ?_)
  obtain ⟨v, rfl, hv, ht, hS2, hg⟩ := hQ
  exact y_tlI (pc := 1210) ⟨dL_law_1210, ⟨dL_law_1212, dL_law_1213, dL_law_1216, dL_law_1218, dL_law_1223⟩, dL_law_1225, dL_law_1228, dL_law_1229, dL_law_1230, dL_law_1231, dL_law_1233, dL_law_1234, dL_law_1235, _, dL_law_1240, by decide⟩ hL2 hS2 hv ht (fun y => by rw [e1]; exact hg y) (fun h3 hL3 => hEnd _ _ _ hL3 hS2)
theorem g_acceptsEmptyWord (hZ : p_Zs G) (hZn : p_Zn G) (hX : p_Scr G b N xs) (hN : N ≤ 3072) (hz : 0 ≤ z ∧ z + 6 ≤ N) (hL : lHp Yc Ym o1 o2 (V, C, J) (Vm, Cm, Jm) h) (hS : lSm V C J Vm Cm) (hEnd : ∀ X' Xm' h', lHp Yc Ym o1 o2 X' Xm' h' → lS X' Xm' → SL G mL_law P 100 k n h' 3438 (lL b (Yc 0) (Ym 38) o1 o2 z) []) : SL G mL_law P 100 (7 + k) (493 + n) h 1243 (lL b (Yc 0) (Ym 38) o1 o2 z) [] := by
  refine SL.room (d' := 100) (k' := 1 + k) (n' := 6 + n) (Nat.le_refl _) (by omega) (by omega) ?_
  refine y_aload_n dL_law_1243 rfl ?_
  refine y_arg (q := 1) hX hN hz (by decide) rfl rfl dL_law_1244 dL_law_1245 dL_law_1247 dL_law_1248 dL_law_1249 ?_
  refine y_aload_n dL_law_1250 rfl ?_
  refine y_cls (As := [_]) (cv := cvZ) (kd := kI) (Es := ["java/lang/IndexOutOfBoundsException"]) (mc := 1) (ms := 6) hL (fun v q => by obtain ⟨x, rfl⟩ := q; exact ⟨_, rfl⟩) (by decide) dL_law_1251 cfL_acceptsEmptyWord stL_acceptsEmptyWord lL_240 rfl rfl rfl rfl (fun hx kk => h_acceptsEmptyWord hx kk) (e_acceptsEmptyWord hZ hS (iI_rg _)) (fun X1 h1 k0 hL1 hR => ?_)
  refine y_istore (L' := lL6 b (Yc 0) (Ym 38) o1 o2 z k0) dL_law_1254 (by decide) rfl ?_
  refine y_aload_n dL_law_1256 rfl ?_
  refine y_arg (q := 1) hX hN hz (by decide) rfl rfl dL_law_1257 dL_law_1258 dL_law_1260 dL_law_1261 dL_law_1262 ?_
  refine y_mcl (As := [_]) (rest := []) hL1 hR dL_law_1263 cfX11_acceptsEmptyWord imX11_acceptsEmptyWord seX11_acceptsEmptyWord lL_242 rfl rfl rfl (Nat.zero_le _) (fun o Xm2 h2 hQ hL2 e1 e2 => ?_)
  obtain ⟨v, rfl, hv, ht, hS2, hg⟩ := hQ
  exact y_tlZ (pc := 1266) ⟨dL_law_1266, ⟨dL_law_1268, dL_law_1269, dL_law_1272, dL_law_1274, dL_law_1279⟩, dL_law_1281, dL_law_1284, dL_law_1285, dL_law_1286, dL_law_1287, dL_law_1289, dL_law_1292, dL_law_1293, dL_law_1296, dL_law_1297, dL_law_1298, _, dL_law_1303, by decide⟩ hL2 hS2 hv ht (fun y => by rw [e1]; exact hg y) (fun h3 hL3 => hEnd _ _ _ hL3 hS2)
theorem g_firstPositions (hZ : p_Zs G) (hZn : p_Zn G) (hX : p_Scr G b N xs) (hN : N ≤ 3072) (hz : 0 ≤ z ∧ z + 6 ≤ N) (hL : lHp Yc Ym o1 o2 (V, C, J) (Vm, Cm, Jm) h) (hS : lSm V C J Vm Cm) (hEnd : ∀ X' Xm' h', lHp Yc Ym o1 o2 X' Xm' h' → lS X' Xm' → SL G mL_law P 100 k n h' 3438 (lL b (Yc 0) (Ym 38) o1 o2 z) []) : SL G mL_law P 100 (7 + k) (493 + n) h 1306 (lL b (Yc 0) (Ym 38) o1 o2 z) [] := by
  refine SL.room (d' := 100) (k' := 1 + k) (n' := 6 + n) (Nat.le_refl _) (by omega) (by omega) ?_
  refine y_aload_n dL_law_1306 rfl ?_
  refine y_arg (q := 1) hX hN hz (by decide) rfl rfl dL_law_1307 dL_law_1308 dL_law_1310 dL_law_1311 dL_law_1312 ?_
  refine y_aload_n dL_law_1313 rfl ?_
  refine y_cls (As := [_]) (cv := cvI) (kd := kI) (Es := ["java/lang/IndexOutOfBoundsException"]) (mc := 1) (ms := 6) hL (fun v q => by obtain ⟨x, rfl⟩ := q; exact ⟨_, rfl⟩) (by decide) dL_law_1314 cfL_firstPositions stL_firstPositions lL_243 rfl rfl rfl rfl (fun hx kk => h_firstPositions hx kk) (e_firstPositions hZ hS (iI_rg _)) (fun X1 h1 k0 hL1 hR => ?_)
  refine y_istore (L' := lL6 b (Yc 0) (Ym 38) o1 o2 z k0) dL_law_1317 (by decide) rfl ?_
  refine y_aload_n dL_law_1319 rfl ?_
  refine y_arg (q := 1) hX hN hz (by decide) rfl rfl dL_law_1320 dL_law_1321 dL_law_1323 dL_law_1324 dL_law_1325 ?_
  refine y_mcl (As := [_]) (rest := []) hL1 hR dL_law_1326 cfX11_firstPositions imX11_firstPositions seX11_firstPositions lL_245 rfl rfl rfl (Nat.zero_le _) (fun o Xm2 h2 hQ hL2 e1 e2 => ?_)
  obtain ⟨v, rfl, hv, ht, hS2, hg⟩ := hQ
  exact y_tlI (pc := 1329) ⟨dL_law_1329, ⟨dL_law_1331, dL_law_1332, dL_law_1335, dL_law_1337, dL_law_1342⟩, dL_law_1344, dL_law_1347, dL_law_1348, dL_law_1349, dL_law_1350, dL_law_1352, dL_law_1353, dL_law_1354, _, dL_law_1359, by decide⟩ hL2 hS2 hv ht (fun y => by rw [e1]; exact hg y) (fun h3 hL3 => hEnd _ _ _ hL3 hS2)
theorem g_lastPositions (hZ : p_Zs G) (hZn : p_Zn G) (hX : p_Scr G b N xs) (hN : N ≤ 3072) (hz : 0 ≤ z ∧ z + 6 ≤ N) (hL : lHp Yc Ym o1 o2 (V, C, J) (Vm, Cm, Jm) h) (hS : lSm V C J Vm Cm) (hEnd : ∀ X' Xm' h', lHp Yc Ym o1 o2 X' Xm' h' → lS X' Xm' → SL G mL_law P 100 k n h' 3438 (lL b (Yc 0) (Ym 38) o1 o2 z) []) : SL G mL_law P 100 (7 + k) (493 + n) h 1362 (lL b (Yc 0) (Ym 38) o1 o2 z) [] := by
  refine SL.room (d' := 100) (k' := 1 + k) (n' := 6 + n) (Nat.le_refl _) (by omega) (by omega) ?_
  refine y_aload_n dL_law_1362 rfl ?_
  refine y_arg (q := 1) hX hN hz (by decide) rfl rfl dL_law_1363 dL_law_1364 dL_law_1366 dL_law_1367 dL_law_1368 ?_
  refine y_aload_n dL_law_1369 rfl ?_
  refine y_cls (As := [_]) (cv := cvI) (kd := kI) (Es := ["java/lang/IndexOutOfBoundsException"]) (mc := 1) (ms := 6) hL (fun v q => by obtain ⟨x, rfl⟩ := q; exact ⟨_, rfl⟩) (by decide) dL_law_1370 cfL_lastPositions stL_lastPositions lL_246 rfl rfl rfl rfl (fun hx kk => h_lastPositions hx kk) (e_lastPositions hZ hS (iI_rg _)) (fun X1 h1 k0 hL1 hR => ?_)
  refine y_istore (L' := lL6 b (Yc 0) (Ym 38) o1 o2 z k0) dL_law_1373 (by decide) rfl ?_
  refine y_aload_n dL_law_1375 rfl ?_
  refine y_arg (q := 1) hX hN hz (by decide) rfl rfl dL_law_1376 dL_law_1377 dL_law_1379 dL_law_1380 dL_law_1381 ?_
  refine y_mcl (As := [_]) (rest := []) hL1 hR dL_law_1382 cfX11_lastPositions imX11_lastPositions seX11_lastPositions lL_248 rfl rfl rfl (Nat.zero_le _) (fun o Xm2 h2 hQ hL2 e1 e2 => ?_)
  obtain ⟨v, rfl, hv, ht, hS2, hg⟩ := hQ
  exact y_tlI (pc := 1385) ⟨dL_law_1385, ⟨dL_law_1387, dL_law_1388, dL_law_1391, dL_law_1393, dL_law_1398⟩, dL_law_1400, dL_law_1403, dL_law_1404, dL_law_1405, dL_law_1406, dL_law_1408, dL_law_1409, dL_law_1410, _, dL_law_1415, by decide⟩ hL2 hS2 hv ht (fun y => by rw [e1]; exact hg y) (fun h3 hL3 => hEnd _ _ _ hL3 hS2)
theorem g_followPositions (hZ : p_Zs G) (hZn : p_Zn G) (hX : p_Scr G b N xs) (hN : N ≤ 3072) (hz : 0 ≤ z ∧ z + 6 ≤ N) (hL : lHp Yc Ym o1 o2 (V, C, J) (Vm, Cm, Jm) h) (hS : lSm V C J Vm Cm) (hEnd : ∀ X' Xm' h', lHp Yc Ym o1 o2 X' Xm' h' → lS X' Xm' → SL G mL_law P 100 k n h' 3438 (lL b (Yc 0) (Ym 38) o1 o2 z) []) : SL G mL_law P 100 (7 + k) (493 + n) h 1418 (lL b (Yc 0) (Ym 38) o1 o2 z) [] := by
  refine SL.room (d' := 100) (k' := 2 + k) (n' := 12 + n) (Nat.le_refl _) (by omega) (by omega) ?_
  refine y_aload_n dL_law_1418 rfl ?_
  refine y_arg (q := 1) hX hN hz (by decide) rfl rfl dL_law_1419 dL_law_1420 dL_law_1422 dL_law_1423 dL_law_1424 ?_
  refine y_arg (q := 2) hX hN hz (by decide) rfl rfl dL_law_1425 dL_law_1426 dL_law_1428 dL_law_1429 dL_law_1430 ?_
  refine y_aload_n dL_law_1431 rfl ?_
  refine y_cls (As := [_, _]) (cv := cvI) (kd := kI) (Es := ["java/lang/IndexOutOfBoundsException"]) (mc := 2) (ms := 12) hL (fun v q => by obtain ⟨x, rfl⟩ := q; exact ⟨_, rfl⟩) (by decide) dL_law_1432 cfL_followPositions stL_followPositions lL_249 rfl rfl rfl rfl (fun hx kk => h_followPositions hx kk) (e_followPositions hZ hS (iI_rg _) (iI_rg _)) (fun X1 h1 k0 hL1 hR => ?_)
  refine y_istore (L' := lL6 b (Yc 0) (Ym 38) o1 o2 z k0) dL_law_1435 (by decide) rfl ?_
  refine y_aload_n dL_law_1437 rfl ?_
  refine y_arg (q := 1) hX hN hz (by decide) rfl rfl dL_law_1438 dL_law_1439 dL_law_1441 dL_law_1442 dL_law_1443 ?_
  refine y_arg (q := 2) hX hN hz (by decide) rfl rfl dL_law_1444 dL_law_1445 dL_law_1447 dL_law_1448 dL_law_1449 ?_
  refine y_mcl (As := [_, _]) (rest := []) hL1 hR dL_law_1450 cfX11_followPositions imX11_followPositions seX11_followPositions lL_251 rfl rfl rfl (Nat.zero_le _) (fun o Xm2 h2 hQ hL2 e1 e2 => ?_)
  obtain ⟨v, rfl, hv, ht, hS2, hg⟩ := hQ
  exact y_tlI (pc := 1453) ⟨dL_law_1453, ⟨dL_law_1455, dL_law_1456, dL_law_1459, dL_law_1461, dL_law_1466⟩, dL_law_1468, dL_law_1471, dL_law_1472, dL_law_1473, dL_law_1474, dL_law_1476, dL_law_1477, dL_law_1478, _, dL_law_1483, by decide⟩ hL2 hS2 hv ht (fun y => by rw [e1]; exact hg y) (fun h3 hL3 => hEnd _ _ _ hL3 hS2)
theorem g_loopCount (hZ : p_Zs G) (hZn : p_Zn G) (hX : p_Scr G b N xs) (hN : N ≤ 3072) (hz : 0 ≤ z ∧ z + 6 ≤ N) (hL : lHp Yc Ym o1 o2 (V, C, J) (Vm, Cm, Jm) h) (hS : lSm V C J Vm Cm) (hEnd : ∀ X' Xm' h', lHp Yc Ym o1 o2 X' Xm' h' → lS X' Xm' → SL G mL_law P 100 k n h' 3438 (lL b (Yc 0) (Ym 38) o1 o2 z) []) : SL G mL_law P 100 (7 + k) (493 + n) h 1486 (lL b (Yc 0) (Ym 38) o1 o2 z) [] := by
  refine SL.room (d' := 100) (k' := 1 + k) (n' := 6 + n) (Nat.le_refl _) (by omega) (by omega) ?_
  refine y_aload_n dL_law_1486 rfl ?_
  refine y_arg (q := 1) hX hN hz (by decide) rfl rfl dL_law_1487 dL_law_1488 dL_law_1490 dL_law_1491 dL_law_1492 ?_
  refine y_aload_n dL_law_1493 rfl ?_
  refine y_cls (As := [_]) (cv := cvI) (kd := kI) (Es := ["java/lang/IndexOutOfBoundsException"]) (mc := 1) (ms := 6) hL (fun v q => by obtain ⟨x, rfl⟩ := q; exact ⟨_, rfl⟩) (by decide) dL_law_1494 cfL_loopCount stL_loopCount lL_252 rfl rfl rfl rfl (fun hx kk => h_loopCount hx kk) (e_loopCount hZ hS (iI_rg _)) (fun X1 h1 k0 hL1 hR => ?_)
  refine y_istore (L' := lL6 b (Yc 0) (Ym 38) o1 o2 z k0) dL_law_1497 (by decide) rfl ?_
  refine y_aload_n dL_law_1499 rfl ?_
  refine y_arg (q := 1) hX hN hz (by decide) rfl rfl dL_law_1500 dL_law_1501 dL_law_1503 dL_law_1504 dL_law_1505 ?_
  refine y_mcl (As := [_]) (rest := []) hL1 hR dL_law_1506 cfX11_loopCount imX11_loopCount seX11_loopCount lL_254 rfl rfl rfl (Nat.zero_le _) (fun o Xm2 h2 hQ hL2 e1 e2 => ?_)
  obtain ⟨v, rfl, hv, ht, hS2, hg⟩ := hQ
  exact y_tlI (pc := 1509) ⟨dL_law_1509, ⟨dL_law_1511, dL_law_1512, dL_law_1515, dL_law_1517, dL_law_1522⟩, dL_law_1524, dL_law_1527, dL_law_1528, dL_law_1529, dL_law_1530, dL_law_1532, dL_law_1533, dL_law_1534, _, dL_law_1539, by decide⟩ hL2 hS2 hv ht (fun y => by rw [e1]; exact hg y) (fun h3 hL3 => hEnd _ _ _ hL3 hS2)
theorem g_isDeterministicAt (hZ : p_Zs G) (hZn : p_Zn G) (hX : p_Scr G b N xs) (hN : N ≤ 3072) (hz : 0 ≤ z ∧ z + 6 ≤ N) (hL : lHp Yc Ym o1 o2 (V, C, J) (Vm, Cm, Jm) h) (hS : lSm V C J Vm Cm) (hEnd : ∀ X' Xm' h', lHp Yc Ym o1 o2 X' Xm' h' → lS X' Xm' → SL G mL_law P 100 k n h' 3438 (lL b (Yc 0) (Ym 38) o1 o2 z) []) : SL G mL_law P 100 (7 + k) (493 + n) h 1542 (lL b (Yc 0) (Ym 38) o1 o2 z) [] := by
  refine SL.room (d' := 100) (k' := 2 + k) (n' := 12 + n) (Nat.le_refl _) (by omega) (by omega) ?_
  refine y_aload_n dL_law_1542 rfl ?_
  refine y_arg (q := 1) hX hN hz (by decide) rfl rfl dL_law_1543 dL_law_1544 dL_law_1546 dL_law_1547 dL_law_1548 ?_
  refine y_arg (q := 2) hX hN hz (by decide) rfl rfl dL_law_1549 dL_law_1550 dL_law_1552 dL_law_1553 dL_law_1554 ?_
  refine y_aload_n dL_law_1555 rfl ?_
  refine y_cls (As := [_, _]) (cv := cvZ) (kd := kI) (Es := ["java/lang/IndexOutOfBoundsException"]) (mc := 2) (ms := 12) hL (fun v q => by obtain ⟨x, rfl⟩ := q; exact ⟨_, rfl⟩) (by decide) dL_law_1556 cfL_isDeterministicAt stL_isDeterministicAt lL_255 rfl rfl rfl rfl (fun hx kk => h_isDeterministicAt hx kk) (e_isDeterministicAt hZ hS (iI_rg _) (iI_rg _)) (fun X1 h1 k0 hL1 hR => ?_)
  refine y_istore (L' := lL6 b (Yc 0) (Ym 38) o1 o2 z k0) dL_law_1559 (by decide) rfl ?_
  refine y_aload_n dL_law_1561 rfl ?_
  refine y_arg (q := 1) hX hN hz (by decide) rfl rfl dL_law_1562 dL_law_1563 dL_law_1565 dL_law_1566 dL_law_1567 ?_
  refine y_arg (q := 2) hX hN hz (by decide) rfl rfl dL_law_1568 dL_law_1569 dL_law_1571 dL_law_1572 dL_law_1573 ?_
  refine y_mcl (As := [_, _]) (rest := []) hL1 hR dL_law_1574 cfX11_isDeterministicAt imX11_isDeterministicAt seX11_isDeterministicAt lL_257 rfl rfl rfl (Nat.zero_le _) (fun o Xm2 h2 hQ hL2 e1 e2 => ?_)
  obtain ⟨v, rfl, hv, ht, hS2, hg⟩ := hQ
  exact y_tlZ (pc := 1577) ⟨dL_law_1577, ⟨dL_law_1579, dL_law_1580, dL_law_1583, dL_law_1585, dL_law_1590⟩, dL_law_1592, dL_law_1595, dL_law_1596, dL_law_1597, dL_law_1598, dL_law_1600, dL_law_1603, dL_law_1604, dL_law_1607, dL_law_1608, dL_law_1609, _, dL_law_1614, by decide⟩ hL2 hS2 hv ht (fun y => by rw [e1]; exact hg y) (fun h3 hL3 => hEnd _ _ _ hL3 hS2)
theorem g_stateCount (hZ : p_Zs G) (hZn : p_Zn G) (hX : p_Scr G b N xs) (hN : N ≤ 3072) (hz : 0 ≤ z ∧ z + 6 ≤ N) (hL : lHp Yc Ym o1 o2 (V, C, J) (Vm, Cm, Jm) h) (hS : lSm V C J Vm Cm) (hEnd : ∀ X' Xm' h', lHp Yc Ym o1 o2 X' Xm' h' → lS X' Xm' → SL G mL_law P 100 k n h' 3438 (lL b (Yc 0) (Ym 38) o1 o2 z) []) : SL G mL_law P 100 (7 + k) (493 + n) h 1617 (lL b (Yc 0) (Ym 38) o1 o2 z) [] := by
  refine SL.room (d' := 100) (k' := 1 + k) (n' := 6 + n) (Nat.le_refl _) (by omega) (by omega) ?_
  refine y_aload_n dL_law_1617 rfl ?_
  refine y_arg (q := 1) hX hN hz (by decide) rfl rfl dL_law_1618 dL_law_1619 dL_law_1621 dL_law_1622 dL_law_1623 ?_
  refine y_aload_n dL_law_1624 rfl ?_
  refine y_cls (As := [_]) (cv := cvI) (kd := kI) (Es := ["java/lang/IndexOutOfBoundsException"]) (mc := 1) (ms := 6) hL (fun v q => by obtain ⟨x, rfl⟩ := q; exact ⟨_, rfl⟩) (by decide) dL_law_1625 cfL_stateCount stL_stateCount lL_258 rfl rfl rfl rfl (fun hx kk => h_stateCount hx kk) (e_stateCount hZ hS (iI_rg _)) (fun X1 h1 k0 hL1 hR => ?_)
  refine y_istore (L' := lL6 b (Yc 0) (Ym 38) o1 o2 z k0) dL_law_1628 (by decide) rfl ?_
  refine y_aload_n dL_law_1630 rfl ?_
  refine y_arg (q := 1) hX hN hz (by decide) rfl rfl dL_law_1631 dL_law_1632 dL_law_1634 dL_law_1635 dL_law_1636 ?_
  refine y_mcl (As := [_]) (rest := []) hL1 hR dL_law_1637 cfX11_stateCount imX11_stateCount seX11_stateCount lL_260 rfl rfl rfl (Nat.zero_le _) (fun o Xm2 h2 hQ hL2 e1 e2 => ?_)
  obtain ⟨v, rfl, hv, ht, hS2, hg⟩ := hQ
  exact y_tlI (pc := 1640) ⟨dL_law_1640, ⟨dL_law_1642, dL_law_1643, dL_law_1646, dL_law_1648, dL_law_1653⟩, dL_law_1655, dL_law_1658, dL_law_1659, dL_law_1660, dL_law_1661, dL_law_1663, dL_law_1664, dL_law_1665, _, dL_law_1670, by decide⟩ hL2 hS2 hv ht (fun y => by rw [e1]; exact hg y) (fun h3 hL3 => hEnd _ _ _ hL3 hS2)
theorem g_transition (hZ : p_Zs G) (hZn : p_Zn G) (hX : p_Scr G b N xs) (hN : N ≤ 3072) (hz : 0 ≤ z ∧ z + 6 ≤ N) (hL : lHp Yc Ym o1 o2 (V, C, J) (Vm, Cm, Jm) h) (hS : lSm V C J Vm Cm) (hEnd : ∀ X' Xm' h', lHp Yc Ym o1 o2 X' Xm' h' → lS X' Xm' → SL G mL_law P 100 k n h' 3438 (lL b (Yc 0) (Ym 38) o1 o2 z) []) : SL G mL_law P 100 (7 + k) (493 + n) h 1673 (lL b (Yc 0) (Ym 38) o1 o2 z) [] := by
  refine SL.room (d' := 100) (k' := 3 + k) (n' := 18 + n) (Nat.le_refl _) (by omega) (by omega) ?_
  refine y_aload_n dL_law_1673 rfl ?_
  refine y_arg (q := 1) hX hN hz (by decide) rfl rfl dL_law_1674 dL_law_1675 dL_law_1677 dL_law_1678 dL_law_1679 ?_
  refine y_arg (q := 2) hX hN hz (by decide) rfl rfl dL_law_1680 dL_law_1681 dL_law_1683 dL_law_1684 dL_law_1685 ?_
  refine y_arg (q := 3) hX hN hz (by decide) rfl rfl dL_law_1686 dL_law_1687 dL_law_1689 dL_law_1690 dL_law_1691 ?_
  refine y_aload_n dL_law_1692 rfl ?_
  refine y_cls (As := [_, _, _]) (cv := cvI) (kd := kI) (Es := ["java/lang/IndexOutOfBoundsException"]) (mc := 3) (ms := 18) hL (fun v q => by obtain ⟨x, rfl⟩ := q; exact ⟨_, rfl⟩) (by decide) dL_law_1693 cfL_transition stL_transition lL_261 rfl rfl rfl rfl (fun hx kk => h_transition hx kk) (e_transition hZ hS (iI_rg _) (iI_rg _) (iI_rg _)) (fun X1 h1 k0 hL1 hR => ?_)
  refine y_istore (L' := lL6 b (Yc 0) (Ym 38) o1 o2 z k0) dL_law_1696 (by decide) rfl ?_
  refine y_aload_n dL_law_1698 rfl ?_
  refine y_arg (q := 1) hX hN hz (by decide) rfl rfl dL_law_1699 dL_law_1700 dL_law_1702 dL_law_1703 dL_law_1704 ?_
  refine y_arg (q := 2) hX hN hz (by decide) rfl rfl dL_law_1705 dL_law_1706 dL_law_1708 dL_law_1709 dL_law_1710 ?_
  refine y_arg (q := 3) hX hN hz (by decide) rfl rfl dL_law_1711 dL_law_1712 dL_law_1714 dL_law_1715 dL_law_1716 ?_
  refine y_mcl (As := [_, _, _]) (rest := []) hL1 hR dL_law_1717 cfX11_transition imX11_transition seX11_transition lL_264 rfl rfl rfl (Nat.zero_le _) (fun o Xm2 h2 hQ hL2 e1 e2 => ?_)
  obtain ⟨v, rfl, hv, ht, hS2, hg⟩ := hQ
  exact y_tlI (pc := 1720) ⟨dL_law_1720, ⟨dL_law_1722, dL_law_1723, dL_law_1726, dL_law_1728, dL_law_1733⟩, dL_law_1735, dL_law_1738, dL_law_1739, dL_law_1740, dL_law_1741, dL_law_1743, dL_law_1744, dL_law_1745, _, dL_law_1750, by decide⟩ hL2 hS2 hv ht (fun y => by rw [e1]; exact hg y) (fun h3 hL3 => hEnd _ _ _ hL3 hS2)
theorem g_isAccepting (hZ : p_Zs G) (hZn : p_Zn G) (hX : p_Scr G b N xs) (hN : N ≤ 3072) (hz : 0 ≤ z ∧ z + 6 ≤ N) (hL : lHp Yc Ym o1 o2 (V, C, J) (Vm, Cm, Jm) h) (hS : lSm V C J Vm Cm) (hEnd : ∀ X' Xm' h', lHp Yc Ym o1 o2 X' Xm' h' → lS X' Xm' → SL G mL_law P 100 k n h' 3438 (lL b (Yc 0) (Ym 38) o1 o2 z) []) : SL G mL_law P 100 (7 + k) (493 + n) h 1753 (lL b (Yc 0) (Ym 38) o1 o2 z) [] := by
  refine SL.room (d' := 100) (k' := 2 + k) (n' := 12 + n) (Nat.le_refl _) (by omega) (by omega) ?_
  refine y_aload_n dL_law_1753 rfl ?_
  refine y_arg (q := 1) hX hN hz (by decide) rfl rfl dL_law_1754 dL_law_1755 dL_law_1757 dL_law_1758 dL_law_1759 ?_
  refine y_arg (q := 2) hX hN hz (by decide) rfl rfl dL_law_1760 dL_law_1761 dL_law_1763 dL_law_1764 dL_law_1765 ?_
  refine y_aload_n dL_law_1766 rfl ?_
  refine y_cls (As := [_, _]) (cv := cvZ) (kd := kI) (Es := ["java/lang/IndexOutOfBoundsException"]) (mc := 2) (ms := 12) hL (fun v q => by obtain ⟨x, rfl⟩ := q; exact ⟨_, rfl⟩) (by decide) dL_law_1767 cfL_isAccepting stL_isAccepting lL_265 rfl rfl rfl rfl (fun hx kk => h_isAccepting hx kk) (e_isAccepting hZ hS (iI_rg _) (iI_rg _)) (fun X1 h1 k0 hL1 hR => ?_)
  refine y_istore (L' := lL6 b (Yc 0) (Ym 38) o1 o2 z k0) dL_law_1770 (by decide) rfl ?_
  refine y_aload_n dL_law_1772 rfl ?_
  refine y_arg (q := 1) hX hN hz (by decide) rfl rfl dL_law_1773 dL_law_1774 dL_law_1776 dL_law_1777 dL_law_1778 ?_
  refine y_arg (q := 2) hX hN hz (by decide) rfl rfl dL_law_1779 dL_law_1780 dL_law_1782 dL_law_1783 dL_law_1784 ?_
  refine y_mcl (As := [_, _]) (rest := []) hL1 hR dL_law_1785 cfX11_isAccepting imX11_isAccepting seX11_isAccepting lL_267 rfl rfl rfl (Nat.zero_le _) (fun o Xm2 h2 hQ hL2 e1 e2 => ?_)
  obtain ⟨v, rfl, hv, ht, hS2, hg⟩ := hQ
  exact y_tlZ (pc := 1788) ⟨dL_law_1788, ⟨dL_law_1790, dL_law_1791, dL_law_1794, dL_law_1796, dL_law_1801⟩, dL_law_1803, dL_law_1806, dL_law_1807, dL_law_1808, dL_law_1809, dL_law_1811, dL_law_1814, dL_law_1815, dL_law_1818, dL_law_1819, dL_law_1820, _, dL_law_1825, by decide⟩ hL2 hS2 hv ht (fun y => by rw [e1]; exact hg y) (fun h3 hL3 => hEnd _ _ _ hL3 hS2)
theorem g_statePositions (hZ : p_Zs G) (hZn : p_Zn G) (hX : p_Scr G b N xs) (hN : N ≤ 3072) (hz : 0 ≤ z ∧ z + 6 ≤ N) (hL : lHp Yc Ym o1 o2 (V, C, J) (Vm, Cm, Jm) h) (hS : lSm V C J Vm Cm) (hEnd : ∀ X' Xm' h', lHp Yc Ym o1 o2 X' Xm' h' → lS X' Xm' → SL G mL_law P 100 k n h' 3438 (lL b (Yc 0) (Ym 38) o1 o2 z) []) : SL G mL_law P 100 (7 + k) (493 + n) h 1828 (lL b (Yc 0) (Ym 38) o1 o2 z) [] := by
  refine SL.room (d' := 100) (k' := 2 + k) (n' := 12 + n) (Nat.le_refl _) (by omega) (by omega) ?_
  refine y_aload_n dL_law_1828 rfl ?_
  refine y_arg (q := 1) hX hN hz (by decide) rfl rfl dL_law_1829 dL_law_1830 dL_law_1832 dL_law_1833 dL_law_1834 ?_
  refine y_arg (q := 2) hX hN hz (by decide) rfl rfl dL_law_1835 dL_law_1836 dL_law_1838 dL_law_1839 dL_law_1840 ?_
  refine y_aload_n dL_law_1841 rfl ?_
  refine y_cls (As := [_, _]) (cv := cvI) (kd := kI) (Es := ["java/lang/IndexOutOfBoundsException"]) (mc := 2) (ms := 12) hL (fun v q => by obtain ⟨x, rfl⟩ := q; exact ⟨_, rfl⟩) (by decide) dL_law_1842 cfL_statePositions stL_statePositions lL_268 rfl rfl rfl rfl (fun hx kk => h_statePositions hx kk) (e_statePositions hZ hS (iI_rg _) (iI_rg _)) (fun X1 h1 k0 hL1 hR => ?_)
  refine y_istore (L' := lL6 b (Yc 0) (Ym 38) o1 o2 z k0) dL_law_1845 (by decide) rfl ?_
  refine y_aload_n dL_law_1847 rfl ?_
  refine y_arg (q := 1) hX hN hz (by decide) rfl rfl dL_law_1848 dL_law_1849 dL_law_1851 dL_law_1852 dL_law_1853 ?_
  refine y_arg (q := 2) hX hN hz (by decide) rfl rfl dL_law_1854 dL_law_1855 dL_law_1857 dL_law_1858 dL_law_1859 ?_
  refine y_mcl (As := [_, _]) (rest := []) hL1 hR dL_law_1860 cfX11_statePositions imX11_statePositions seX11_statePositions lL_270 rfl rfl rfl (Nat.zero_le _) (fun o Xm2 h2 hQ hL2 e1 e2 => ?_)
  obtain ⟨v, rfl, hv, ht, hS2, hg⟩ := hQ
  exact y_tlI (pc := 1863) ⟨dL_law_1863, ⟨dL_law_1865, dL_law_1866, dL_law_1869, dL_law_1871, dL_law_1876⟩, dL_law_1878, dL_law_1881, dL_law_1882, dL_law_1883, dL_law_1884, dL_law_1886, dL_law_1887, dL_law_1888, _, dL_law_1893, by decide⟩ hL2 hS2 hv ht (fun y => by rw [e1]; exact hg y) (fun h3 hL3 => hEnd _ _ _ hL3 hS2)
theorem g_deadState (hZ : p_Zs G) (hZn : p_Zn G) (hX : p_Scr G b N xs) (hN : N ≤ 3072) (hz : 0 ≤ z ∧ z + 6 ≤ N) (hL : lHp Yc Ym o1 o2 (V, C, J) (Vm, Cm, Jm) h) (hS : lSm V C J Vm Cm) (hEnd : ∀ X' Xm' h', lHp Yc Ym o1 o2 X' Xm' h' → lS X' Xm' → SL G mL_law P 100 k n h' 3438 (lL b (Yc 0) (Ym 38) o1 o2 z) []) : SL G mL_law P 100 (7 + k) (493 + n) h 1896 (lL b (Yc 0) (Ym 38) o1 o2 z) [] := by
  refine SL.room (d' := 100) (k' := 1 + k) (n' := 6 + n) (Nat.le_refl _) (by omega) (by omega) ?_
  refine y_aload_n dL_law_1896 rfl ?_
  refine y_arg (q := 1) hX hN hz (by decide) rfl rfl dL_law_1897 dL_law_1898 dL_law_1900 dL_law_1901 dL_law_1902 ?_
  refine y_aload_n dL_law_1903 rfl ?_
  refine y_cls (As := [_]) (cv := cvI) (kd := kI) (Es := ["java/lang/IndexOutOfBoundsException"]) (mc := 1) (ms := 6) hL (fun v q => by obtain ⟨x, rfl⟩ := q; exact ⟨_, rfl⟩) (by decide) dL_law_1904 cfL_deadState stL_deadState lL_271 rfl rfl rfl rfl (fun hx kk => h_deadState hx kk) (e_deadState hZ hS (iI_rg _)) (fun X1 h1 k0 hL1 hR => ?_)
  refine y_istore (L' := lL6 b (Yc 0) (Ym 38) o1 o2 z k0) dL_law_1907 (by decide) rfl ?_
  refine y_aload_n dL_law_1909 rfl ?_
  refine y_arg (q := 1) hX hN hz (by decide) rfl rfl dL_law_1910 dL_law_1911 dL_law_1913 dL_law_1914 dL_law_1915 ?_
  refine y_mcl (As := [_]) (rest := []) hL1 hR dL_law_1916 cfX11_deadState imX11_deadState seX11_deadState lL_273 rfl rfl rfl (Nat.zero_le _) (fun o Xm2 h2 hQ hL2 e1 e2 => ?_)
  obtain ⟨v, rfl, hv, ht, hS2, hg⟩ := hQ
  exact y_tlI (pc := 1919) ⟨dL_law_1919, ⟨dL_law_1921, dL_law_1922, dL_law_1925, dL_law_1927, dL_law_1932⟩, dL_law_1934, dL_law_1937, dL_law_1938, dL_law_1939, dL_law_1940, dL_law_1942, dL_law_1943, dL_law_1944, _, dL_law_1949, by decide⟩ hL2 hS2 hv ht (fun y => by rw [e1]; exact hg y) (fun h3 hL3 => hEnd _ _ _ hL3 hS2)
theorem g_distanceToAccepting (hZ : p_Zs G) (hZn : p_Zn G) (hX : p_Scr G b N xs) (hN : N ≤ 3072) (hz : 0 ≤ z ∧ z + 6 ≤ N) (hL : lHp Yc Ym o1 o2 (V, C, J) (Vm, Cm, Jm) h) (hS : lSm V C J Vm Cm) (hEnd : ∀ X' Xm' h', lHp Yc Ym o1 o2 X' Xm' h' → lS X' Xm' → SL G mL_law P 100 k n h' 3438 (lL b (Yc 0) (Ym 38) o1 o2 z) []) : SL G mL_law P 100 (7 + k) (493 + n) h 1952 (lL b (Yc 0) (Ym 38) o1 o2 z) [] := by
  refine SL.room (d' := 100) (k' := 2 + k) (n' := 12 + n) (Nat.le_refl _) (by omega) (by omega) ?_
  refine y_aload_n dL_law_1952 rfl ?_
  refine y_arg (q := 1) hX hN hz (by decide) rfl rfl dL_law_1953 dL_law_1954 dL_law_1956 dL_law_1957 dL_law_1958 ?_
  refine y_arg (q := 2) hX hN hz (by decide) rfl rfl dL_law_1959 dL_law_1960 dL_law_1962 dL_law_1963 dL_law_1964 ?_
  refine y_aload_n dL_law_1965 rfl ?_
  refine y_cls (As := [_, _]) (cv := cvI) (kd := kI) (Es := ["java/lang/IndexOutOfBoundsException"]) (mc := 2) (ms := 12) hL (fun v q => by obtain ⟨x, rfl⟩ := q; exact ⟨_, rfl⟩) (by decide) dL_law_1966 cfL_distanceToAccepting stL_distanceToAccepting lL_274 rfl rfl rfl rfl (fun hx kk => h_distanceToAccepting hx kk) (e_distanceToAccepting hZ hS (iI_rg _) (iI_rg _)) (fun X1 h1 k0 hL1 hR => ?_)
  refine y_istore (L' := lL6 b (Yc 0) (Ym 38) o1 o2 z k0) dL_law_1969 (by decide) rfl ?_
  refine y_aload_n dL_law_1971 rfl ?_
  refine y_arg (q := 1) hX hN hz (by decide) rfl rfl dL_law_1972 dL_law_1973 dL_law_1975 dL_law_1976 dL_law_1977 ?_
  refine y_arg (q := 2) hX hN hz (by decide) rfl rfl dL_law_1978 dL_law_1979 dL_law_1981 dL_law_1982 dL_law_1983 ?_
  refine y_mcl (As := [_, _]) (rest := []) hL1 hR dL_law_1984 cfX11_distanceToAccepting imX11_distanceToAccepting seX11_distanceToAccepting lL_276 rfl rfl rfl (Nat.zero_le _) (fun o Xm2 h2 hQ hL2 e1 e2 => ?_)
  obtain ⟨v, rfl, hv, ht, hS2, hg⟩ := hQ
  exact y_tlI (pc := 1987) ⟨dL_law_1987, ⟨dL_law_1989, dL_law_1990, dL_law_1993, dL_law_1995, dL_law_2000⟩, dL_law_2002, dL_law_2005, dL_law_2006, dL_law_2007, dL_law_2008, dL_law_2010, dL_law_2011, dL_law_2012, _, dL_law_2017, by decide⟩ hL2 hS2 hv ht (fun y => by rw [e1]; exact hg y) (fun h3 hL3 => hEnd _ _ _ hL3 hS2)
end C5b
