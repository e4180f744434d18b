set_option maxHeartbeats 4000000 in
set_option maxRecDepth 100000 in
theorem lk24 (l : Launch) (hfl : l.stackTraces = false) : lGo l 1262 := by
  intro p e s m args below meth c D cy A za zv ad hh aa pa h a ho b L xs d0 E0 hd0 B F M f i hAl hB hi1 hi2 hi3 H locs ls cells slots Q hf hl hP hD hS kk
  obtain ⟨hx, hb, hml, hown, hts, hK, hA, hZ, hN, hX, hbl, hbA⟩ := E0.draw d0
  have hf0 : cells ≤ room_1.cells ∧ slots ≤ room_1.slots := ⟨Nat.le_trans (Nat.le_add_right _ _) hf.1, Nat.le_trans (Nat.le_add_right _ _) hf.2⟩
  refine lv_aload_n hx hb dL_law_1262 rfl (lv_at hl 1 rfl) ?_
  obtain ⟨r1, F1, M1, e1, e2, hAl1⟩ := c_startIn hAl (by omega) 
  have hAl2 := hAl1.mono (B' := B + 16400) (by omega) (by omega)
  refine lw_XI e1 (As := []) (rest := []) ⟨hx, hb, hml, hown, hts⟩ (cX9_startInM l D cy ad hh aa pa H.size F ) (cwV 0 hts gL_law_X9_startIn rfl rfl rfl hlX9_startIn ⟨Nat.le_of_ble_eq_true rfl, Nat.le_of_ble_eq_true rfl⟩) hK hP hD hS hA rfl hl.1 rfl (Nat.le_of_ble_eq_true rfl) dL_law_1263 hf0 (fun H locs hP hD hS => ?_)
  refine lv_aload_n hx hb dL_law_1266 rfl (lv_at hl 2 rfl) ?_
  refine lw_MI e2 (As := []) (rest := [.int r1]) ⟨hx, hb, hml, hown, hts⟩ (cX10_startInM l D cy h a H.size M ) (cwV 0 hts gL_law_X10_startIn rfl rfl rfl hlX10_startIn ⟨Nat.le_of_ble_eq_true rfl, Nat.le_of_ble_eq_true rfl⟩) hK hP hD hS hA rfl hl.1 rfl (Nat.le_of_ble_eq_true rfl) dL_law_1267 hf0 (fun H locs hP hD hS => ?_)
  refine lv_icmp_eq (tgt := 2200) hx hb dL_law_1270 (by decide) (fun _ => ?_) (fun c => absurd rfl c)
  refine W.widen (k := cells + 1) (n := slots + 6) (Nat.le_add_right _ _) (Nat.le_add_right _ _) ?_
  exact kk d0 hd0 F1 M1 f H locs ls hAl2 (lv_sub hl [0, 1, 2, 3, 4] rfl) hP hD hS
set_option maxHeartbeats 4000000 in
set_option maxRecDepth 100000 in
theorem lk25 (l : Launch) (hfl : l.stackTraces = false) : lGo l 1275 := by
  intro p e s m args below meth c D cy A za zv ad hh aa pa h a ho b L xs d0 E0 hd0 B F M f i hAl hB hi1 hi2 hi3 H locs ls cells slots Q hf hl hP hD hS kk
  obtain ⟨hx, hb, hml, hown, hts, hK, hA, hZ, hN, hX, hbl, hbA⟩ := E0.draw d0
  refine lv_aload_n hx hb dL_law_1275 rfl (lv_at hl 1 rfl) ?_
  refine lv_aload_n hx hb dL_law_1276 rfl (lv_at hl 0 rfl) ?_
  refine lv_iload hx hb dL_law_1277 (lv_at hl 4 rfl) ?_
  refine lv_iconst (v := 1) hx hb dL_law_1279 rfl ?_
  refine lv_iadd hx hb dL_law_1280 ?_
  refine va_sld hx hb hX hbl hbA hS hi1 dL_law_1281 ?_
  refine lv_aload_n hx hb dL_law_1282 rfl (lv_at hl 3 rfl) ?_
  obtain ⟨F1, M1, b1, hAl1, e2, h1⟩ := lz_1 (c_boardIn hAl (by omega) ((xs (i + 1).toNatClampNeg))) f
  have hAl2 := hAl1.mono (B' := B + 16400) (by omega) (by omega)
  refine lw_H (As := [.ref (ad 0), .int (xs (i + 1).toNatClampNeg), .ref ho]) (rest := []) ⟨hx, hb, hml, hown, hts⟩ (cL_boardInM l hfl D cy za zv ad hh aa pa ho H.size F f ((xs (i + 1).toNatClampNeg)) _ h1) (vx_cwSW 3 hts gL_law_L_boardIn rfl rfl rfl hlL_boardIn ⟨Nat.le_of_ble_eq_true rfl, Nat.le_of_ble_eq_true rfl⟩) hN hZ hK hP hD hS hA rfl hl.1 rfl (Nat.le_of_ble_eq_true rfl) dL_law_1283 hf (fun r q H locs hq hP hD hS => ?_)
  obtain ⟨F2, f2⟩ := q
  obtain ⟨hq1, hq2, hq3⟩ := hq
  replace hq2 : F2 = F1 := hq2
  subst hq2
  replace hq3 : r = 0 → f2 (Int32.toNatClampNeg 0) = b1.toInt64 := hq3
  replace hP : va_P D vwCl (wLW cy ad hh aa pa h a ho F2 M f2) H := hP
  replace hD : va_D A (wLW cy ad hh aa pa h a ho F2 M f2) := hD
  refine lv_istore (lv' := [(5, .int r), (0, .ref b), (1, .ref (ad 0)), (2, .ref h), (3, .ref ho), (4, .int i)]) hx hb dL_law_1286 hl (by decide) rfl (fun ls hl => ?_)
  refine lv_aload_n hx hb dL_law_1288 rfl (lv_at hl 3 rfl) ?_
  refine lv_aload_n hx hb dL_law_1289 rfl (lv_at hl 1 rfl) ?_
  refine lv_iload hx hb dL_law_1290 (lv_at hl 5 rfl) ?_
  refine lv_iconst (v := 1) hx hb dL_law_1292 rfl ?_
  refine lv_iadd hx hb dL_law_1293 ?_
  refine va_sld hx hb hX hbl hbA hS hi1 dL_law_1294 ?_
  refine lw_MI e2 (As := [.int (xs (i + 1).toNatClampNeg)]) (rest := []) ⟨hx, hb, hml, hown, hts⟩ (cX10_boardInM l D cy h a H.size M ((xs (i + 1).toNatClampNeg))) (cwV 1 hts gL_law_X10_boardIn rfl rfl rfl hlX10_boardIn ⟨Nat.le_of_ble_eq_true rfl, Nat.le_of_ble_eq_true rfl⟩) hK hP hD hS hA rfl hl.1 rfl (Nat.le_of_ble_eq_true rfl) dL_law_1295 hf (fun H locs hP hD hS => ?_)
  refine lv_istore (lv' := [(6, .int b1), (5, .int r), (0, .ref b), (1, .ref (ad 0)), (2, .ref h), (3, .ref ho), (4, .int i)]) hx hb dL_law_1298 hl (by decide) rfl (fun ls hl => ?_)
  refine lv_aload_n hx hb dL_law_1300 rfl (lv_at hl 4 rfl) ?_
  refine lw_MR (o := fX10_thrown M1) (r0 := mTh M1) rfl (As := []) (rest := []) ⟨hx, hb, hml, hown, hts⟩ (cX10_thrownM l D cy h a H.size M1) (cwV 0 hts gL_law_X10_thrown rfl rfl rfl hlX10_thrown ⟨Nat.le_of_ble_eq_true rfl, Nat.le_of_ble_eq_true rfl⟩) hK hP hD hS hA rfl hl.1 rfl (Nat.le_of_ble_eq_true rfl) dL_law_1301 hf (fun H locs hP hD hS => ?_)
  refine lv_iload hx hb dL_law_1304 (lv_at hl 1 rfl) ?_
  refine lv_icmp_eq (tgt := 1311) hx hb dL_law_1306 (by decide) (fun _ => ?_) (fun c => absurd hq1.symm c)
  refine lv_iload hx hb dL_law_1311 (lv_at hl 1 rfl) ?_
  refine lv_if_ne (tgt := 1328) hx hb dL_law_1313 (by decide) (fun c1313 => ?_) (fun c1313 => ?_)
  · refine lv_goto (tgt := 2200) hx hb dL_law_1328 (by decide) ?_
    exact kk d0 hd0 F2 M1 f2 H locs ls hAl2 (lv_sub hl [2, 3, 4, 5, 6] rfl) hP hD hS
  · refine lv_aload_n hx hb dL_law_1316 rfl (lv_at hl 5 rfl) ?_
    refine lv_iconst (v := 0) hx hb dL_law_1317 rfl ?_
    refine va_lald (ws := wLW cy ad hh aa pa h a ho F2 M1 f2) (cA := cy 3) (n := 1) (f := f2) hx hb hK.1 hP 0 3 rfl rfl (inb_vp (by decide)) dL_law_1318 ?_
    refine lv_iload hx hb dL_law_1319 (lv_at hl 0 rfl) ?_
    refine lv_i2l (v := b1.toInt64) hx hb dL_law_1321 rfl ?_
    refine W.lcmp hx hb dL_law_1322 ?_
    refine lv_if_eq (tgt := 1328) hx hb dL_law_1323 (by decide) (fun _ => ?_) (fun c => absurd (by rw [hq3 c1313]; exact lg_cmp_self _) c)
    refine lv_goto (tgt := 2200) hx hb dL_law_1328 (by decide) ?_
    exact kk d0 hd0 F2 M1 f2 H locs ls hAl2 (lv_sub hl [2, 3, 4, 5, 6] rfl) hP hD hS
set_option maxHeartbeats 4000000 in
set_option maxRecDepth 100000 in
theorem lk26 (l : Launch) (hfl : l.stackTraces = false) : lGo l 1331 := by
  intro p e s m args below meth c D cy A za zv ad hh aa pa h a ho b L xs d0 E0 hd0 B F M f i hAl hB hi1 hi2 hi3 H locs ls cells slots Q hf hl hP hD hS kk
  obtain ⟨hx, hb, hml, hown, hts, hK, hA, hZ, hN, hX, hbl, hbA⟩ := E0.draw d0
  have hf0 : cells ≤ room_1.cells ∧ slots ≤ room_1.slots := ⟨Nat.le_trans (Nat.le_add_right _ _) hf.1, Nat.le_trans (Nat.le_add_right _ _) hf.2⟩
  refine lv_aload_n hx hb dL_law_1331 rfl (lv_at hl 1 rfl) ?_
  obtain ⟨r1, F1, M1, e1, e2, hAl1⟩ := c_wakesIn hAl (by omega) 
  have hAl2 := hAl1.mono (B' := B + 16400) (by omega) (by omega)
  refine lw_XI e1 (As := []) (rest := []) ⟨hx, hb, hml, hown, hts⟩ (cX9_wakesInM l D cy ad hh aa pa H.size F ) (cwV 0 hts gL_law_X9_wakesIn rfl rfl rfl hlX9_wakesIn ⟨Nat.le_of_ble_eq_true rfl, Nat.le_of_ble_eq_true rfl⟩) hK hP hD hS hA rfl hl.1 rfl (Nat.le_of_ble_eq_true rfl) dL_law_1332 hf0 (fun H locs hP hD hS => ?_)
  refine lv_aload_n hx hb dL_law_1335 rfl (lv_at hl 2 rfl) ?_
  refine lw_MI e2 (As := []) (rest := [.int r1]) ⟨hx, hb, hml, hown, hts⟩ (cX10_wakesInM l D cy h a H.size M ) (cwV 0 hts gL_law_X10_wakesIn rfl rfl rfl hlX10_wakesIn ⟨Nat.le_of_ble_eq_true rfl, Nat.le_of_ble_eq_true rfl⟩) hK hP hD hS hA rfl hl.1 rfl (Nat.le_of_ble_eq_true rfl) dL_law_1336 hf0 (fun H locs hP hD hS => ?_)
  refine lv_icmp_eq (tgt := 2200) hx hb dL_law_1339 (by decide) (fun _ => ?_) (fun c => absurd rfl c)
  refine W.widen (k := cells + 1) (n := slots + 6) (Nat.le_add_right _ _) (Nat.le_add_right _ _) ?_
  exact kk d0 hd0 F1 M1 f H locs ls hAl2 (lv_sub hl [0, 1, 2, 3, 4] rfl) hP hD hS
set_option maxHeartbeats 4000000 in
set_option maxRecDepth 100000 in
theorem lk27 (l : Launch) (hfl : l.stackTraces = false) : lGo l 1344 := by
  intro p e s m args below meth c D cy A za zv ad hh aa pa h a ho b L xs d0 E0 hd0 B F M f i hAl hB hi1 hi2 hi3 H locs ls cells slots Q hf hl hP hD hS kk
  obtain ⟨hx, hb, hml, hown, hts, hK, hA, hZ, hN, hX, hbl, hbA⟩ := E0.draw d0
  refine lv_aload_n hx hb dL_law_1344 rfl (lv_at hl 1 rfl) ?_
  refine lv_aload_n hx hb dL_law_1345 rfl (lv_at hl 0 rfl) ?_
  refine lv_iload hx hb dL_law_1346 (lv_at hl 4 rfl) ?_
  refine lv_iconst (v := 1) hx hb dL_law_1348 rfl ?_
  refine lv_iadd hx hb dL_law_1349 ?_
  refine va_sld hx hb hX hbl hbA hS hi1 dL_law_1350 ?_
  refine lv_aload_n hx hb dL_law_1351 rfl (lv_at hl 3 rfl) ?_
  obtain ⟨F1, M1, b1, hAl1, e2, h1⟩ := lz_1 (c_easyIn hAl (by omega) ((xs (i + 1).toNatClampNeg))) f
  have hAl2 := hAl1.mono (B' := B + 16400) (by omega) (by omega)
  refine lw_H (As := [.ref (ad 0), .int (xs (i + 1).toNatClampNeg), .ref ho]) (rest := []) ⟨hx, hb, hml, hown, hts⟩ (cL_easyInM l hfl D cy za zv ad hh aa pa ho H.size F f ((xs (i + 1).toNatClampNeg)) _ h1) (vx_cwSW 3 hts gL_law_L_easyIn rfl rfl rfl hlL_easyIn ⟨Nat.le_of_ble_eq_true rfl, Nat.le_of_ble_eq_true rfl⟩) hN hZ hK hP hD hS hA rfl hl.1 rfl (Nat.le_of_ble_eq_true rfl) dL_law_1352 hf (fun r q H locs hq hP hD hS => ?_)
  obtain ⟨F2, f2⟩ := q
  obtain ⟨hq1, hq2, hq3⟩ := hq
  replace hq2 : F2 = F1 := hq2
  subst hq2
  replace hq3 : r = 0 → f2 (Int32.toNatClampNeg 0) = b1.toInt64 := hq3
  replace hP : va_P D vwCl (wLW cy ad hh aa pa h a ho F2 M f2) H := hP
  replace hD : va_D A (wLW cy ad hh aa pa h a ho F2 M f2) := hD
  refine lv_istore (lv' := [(5, .int r), (0, .ref b), (1, .ref (ad 0)), (2, .ref h), (3, .ref ho), (4, .int i)]) hx hb dL_law_1355 hl (by decide) rfl (fun ls hl => ?_)
  refine lv_aload_n hx hb dL_law_1357 rfl (lv_at hl 3 rfl) ?_
  refine lv_aload_n hx hb dL_law_1358 rfl (lv_at hl 1 rfl) ?_
  refine lv_iload hx hb dL_law_1359 (lv_at hl 5 rfl) ?_
  refine lv_iconst (v := 1) hx hb dL_law_1361 rfl ?_
  refine lv_iadd hx hb dL_law_1362 ?_
  refine va_sld hx hb hX hbl hbA hS hi1 dL_law_1363 ?_
  refine lw_MI e2 (As := [.int (xs (i + 1).toNatClampNeg)]) (rest := []) ⟨hx, hb, hml, hown, hts⟩ (cX10_easyInM l D cy h a H.size M ((xs (i + 1).toNatClampNeg))) (cwV 1 hts gL_law_X10_easyIn rfl rfl rfl hlX10_easyIn ⟨Nat.le_of_ble_eq_true rfl, Nat.le_of_ble_eq_true rfl⟩) hK hP hD hS hA rfl hl.1 rfl (Nat.le_of_ble_eq_true rfl) dL_law_1364 hf (fun H locs hP hD hS => ?_)
  refine lv_istore (lv' := [(6, .int b1), (5, .int r), (0, .ref b), (1, .ref (ad 0)), (2, .ref h), (3, .ref ho), (4, .int i)]) hx hb dL_law_1367 hl (by decide) rfl (fun ls hl => ?_)
  refine lv_aload_n hx hb dL_law_1369 rfl (lv_at hl 4 rfl) ?_
  refine lw_MR (o := fX10_thrown M1) (r0 := mTh M1) rfl (As := []) (rest := []) ⟨hx, hb, hml, hown, hts⟩ (cX10_thrownM l D cy h a H.size M1) (cwV 0 hts gL_law_X10_thrown rfl rfl rfl hlX10_thrown ⟨Nat.le_of_ble_eq_true rfl, Nat.le_of_ble_eq_true rfl⟩) hK hP hD hS hA rfl hl.1 rfl (Nat.le_of_ble_eq_true rfl) dL_law_1370 hf (fun H locs hP hD hS => ?_)
  refine lv_iload hx hb dL_law_1373 (lv_at hl 1 rfl) ?_
  refine lv_icmp_eq (tgt := 1380) hx hb dL_law_1375 (by decide) (fun _ => ?_) (fun c => absurd hq1.symm c)
  refine lv_iload hx hb dL_law_1380 (lv_at hl 1 rfl) ?_
  refine lv_if_ne (tgt := 1397) hx hb dL_law_1382 (by decide) (fun c1382 => ?_) (fun c1382 => ?_)
  · refine lv_goto (tgt := 2200) hx hb dL_law_1397 (by decide) ?_
    exact kk d0 hd0 F2 M1 f2 H locs ls hAl2 (lv_sub hl [2, 3, 4, 5, 6] rfl) hP hD hS
  · refine lv_aload_n hx hb dL_law_1385 rfl (lv_at hl 5 rfl) ?_
    refine lv_iconst (v := 0) hx hb dL_law_1386 rfl ?_
    refine va_lald (ws := wLW cy ad hh aa pa h a ho F2 M1 f2) (cA := cy 3) (n := 1) (f := f2) hx hb hK.1 hP 0 3 rfl rfl (inb_vp (by decide)) dL_law_1387 ?_
    refine lv_iload hx hb dL_law_1388 (lv_at hl 0 rfl) ?_
    refine lv_i2l (v := b1.toInt64) hx hb dL_law_1390 rfl ?_
    refine W.lcmp hx hb dL_law_1391 ?_
    refine lv_if_eq (tgt := 1397) hx hb dL_law_1392 (by decide) (fun _ => ?_) (fun c => absurd (by rw [hq3 c1382]; exact lg_cmp_self _) c)
    refine lv_goto (tgt := 2200) hx hb dL_law_1397 (by decide) ?_
    exact kk d0 hd0 F2 M1 f2 H locs ls hAl2 (lv_sub hl [2, 3, 4, 5, 6] rfl) hP hD hS
set_option maxHeartbeats 4000000 in
set_option maxRecDepth 100000 in
theorem lk28 (l : Launch) (hfl : l.stackTraces = false) : lGo l 1400 := by
  intro p e s m args below meth c D cy A za zv ad hh aa pa h a ho b L xs d0 E0 hd0 B F M f i hAl hB hi1 hi2 hi3 H locs ls cells slots Q hf hl hP hD hS kk
  obtain ⟨hx, hb, hml, hown, hts, hK, hA, hZ, hN, hX, hbl, hbA⟩ := E0.draw d0
  refine lv_aload_n hx hb dL_law_1400 rfl (lv_at hl 1 rfl) ?_
  refine lv_aload_n hx hb dL_law_1401 rfl (lv_at hl 0 rfl) ?_
  refine lv_iload hx hb dL_law_1402 (lv_at hl 4 rfl) ?_
  refine lv_iconst (v := 1) hx hb dL_law_1404 rfl ?_
  refine lv_iadd hx hb dL_law_1405 ?_
  refine va_sld hx hb hX hbl hbA hS hi1 dL_law_1406 ?_
  refine lv_aload_n hx hb dL_law_1407 rfl (lv_at hl 3 rfl) ?_
  obtain ⟨F1, M1, b1, hAl1, e2, h1⟩ := lz_1 (c_bestFirst hAl (by omega) ((xs (i + 1).toNatClampNeg))) f
  have hAl2 := hAl1.mono (B' := B + 16400) (by omega) (by omega)
  refine lw_H (As := [.ref (ad 0), .int (xs (i + 1).toNatClampNeg), .ref ho]) (rest := []) ⟨hx, hb, hml, hown, hts⟩ (cL_bestFirstM l hfl D cy za zv ad hh aa pa ho H.size F f ((xs (i + 1).toNatClampNeg)) _ h1) (vx_cwSW 3 hts gL_law_L_bestFirst rfl rfl rfl hlL_bestFirst ⟨Nat.le_of_ble_eq_true rfl, Nat.le_of_ble_eq_true rfl⟩) hN hZ hK hP hD hS hA rfl hl.1 rfl (Nat.le_of_ble_eq_true rfl) dL_law_1408 hf (fun r q H locs hq hP hD hS => ?_)
  obtain ⟨F2, f2⟩ := q
  obtain ⟨hq1, hq2, hq3⟩ := hq
  replace hq2 : F2 = F1 := hq2
  subst hq2
  replace hq3 : r = 0 → f2 (Int32.toNatClampNeg 0) = b1.toInt64 := hq3
  replace hP : va_P D vwCl (wLW cy ad hh aa pa h a ho F2 M f2) H := hP
  replace hD : va_D A (wLW cy ad hh aa pa h a ho F2 M f2) := hD
  refine lv_istore (lv' := [(5, .int r), (0, .ref b), (1, .ref (ad 0)), (2, .ref h), (3, .ref ho), (4, .int i)]) hx hb dL_law_1411 hl (by decide) rfl (fun ls hl => ?_)
  refine lv_aload_n hx hb dL_law_1413 rfl (lv_at hl 3 rfl) ?_
  refine lv_aload_n hx hb dL_law_1414 rfl (lv_at hl 1 rfl) ?_
  refine lv_iload hx hb dL_law_1415 (lv_at hl 5 rfl) ?_
  refine lv_iconst (v := 1) hx hb dL_law_1417 rfl ?_
  refine lv_iadd hx hb dL_law_1418 ?_
  refine va_sld hx hb hX hbl hbA hS hi1 dL_law_1419 ?_
  refine lw_MI e2 (As := [.int (xs (i + 1).toNatClampNeg)]) (rest := []) ⟨hx, hb, hml, hown, hts⟩ (cX10_bestFirstM l D cy h a H.size M ((xs (i + 1).toNatClampNeg))) (cwV 1 hts gL_law_X10_bestFirst rfl rfl rfl hlX10_bestFirst ⟨Nat.le_of_ble_eq_true rfl, Nat.le_of_ble_eq_true rfl⟩) hK hP hD hS hA rfl hl.1 rfl (Nat.le_of_ble_eq_true rfl) dL_law_1420 hf (fun H locs hP hD hS => ?_)
  refine lv_istore (lv' := [(6, .int b1), (5, .int r), (0, .ref b), (1, .ref (ad 0)), (2, .ref h), (3, .ref ho), (4, .int i)]) hx hb dL_law_1423 hl (by decide) rfl (fun ls hl => ?_)
  refine lv_aload_n hx hb dL_law_1425 rfl (lv_at hl 4 rfl) ?_
  refine lw_MR (o := fX10_thrown M1) (r0 := mTh M1) rfl (As := []) (rest := []) ⟨hx, hb, hml, hown, hts⟩ (cX10_thrownM l D cy h a H.size M1) (cwV 0 hts gL_law_X10_thrown rfl rfl rfl hlX10_thrown ⟨Nat.le_of_ble_eq_true rfl, Nat.le_of_ble_eq_true rfl⟩) hK hP hD hS hA rfl hl.1 rfl (Nat.le_of_ble_eq_true rfl) dL_law_1426 hf (fun H locs hP hD hS => ?_)
  refine lv_iload hx hb dL_law_1429 (lv_at hl 1 rfl) ?_
  refine lv_icmp_eq (tgt := 1436) hx hb dL_law_1431 (by decide) (fun _ => ?_) (fun c => absurd hq1.symm c)
  refine lv_iload hx hb dL_law_1436 (lv_at hl 1 rfl) ?_
  refine lv_if_ne (tgt := 1453) hx hb dL_law_1438 (by decide) (fun c1438 => ?_) (fun c1438 => ?_)
  · refine lv_goto (tgt := 2200) hx hb dL_law_1453 (by decide) ?_
    exact kk d0 hd0 F2 M1 f2 H locs ls hAl2 (lv_sub hl [2, 3, 4, 5, 6] rfl) hP hD hS
  · refine lv_aload_n hx hb dL_law_1441 rfl (lv_at hl 5 rfl) ?_
    refine lv_iconst (v := 0) hx hb dL_law_1442 rfl ?_
    refine va_lald (ws := wLW cy ad hh aa pa h a ho F2 M1 f2) (cA := cy 3) (n := 1) (f := f2) hx hb hK.1 hP 0 3 rfl rfl (inb_vp (by decide)) dL_law_1443 ?_
    refine lv_iload hx hb dL_law_1444 (lv_at hl 0 rfl) ?_
    refine lv_i2l (v := b1.toInt64) hx hb dL_law_1446 rfl ?_
    refine W.lcmp hx hb dL_law_1447 ?_
    refine lv_if_eq (tgt := 1453) hx hb dL_law_1448 (by decide) (fun _ => ?_) (fun c => absurd (by rw [hq3 c1438]; exact lg_cmp_self _) c)
    refine lv_goto (tgt := 2200) hx hb dL_law_1453 (by decide) ?_
    exact kk d0 hd0 F2 M1 f2 H locs ls hAl2 (lv_sub hl [2, 3, 4, 5, 6] rfl) hP hD hS
set_option maxHeartbeats 4000000 in
set_option maxRecDepth 100000 in
theorem lk31 (l : Launch) (hfl : l.stackTraces = false) : lGo l 1540 := by
  intro p e s m args below meth c D cy A za zv ad hh aa pa h a ho b L xs d0 E0 hd0 B F M f i hAl hB hi1 hi2 hi3 H locs ls cells slots Q hf hl hP hD hS kk
  obtain ⟨hx, hb, hml, hown, hts, hK, hA, hZ, hN, hX, hbl, hbA⟩ := E0.draw d0
  refine lv_aload_n hx hb dL_law_1540 rfl (lv_at hl 1 rfl) ?_
  refine lv_aload_n hx hb dL_law_1541 rfl (lv_at hl 0 rfl) ?_
  refine lv_iload hx hb dL_law_1542 (lv_at hl 4 rfl) ?_
  refine lv_iconst (v := 1) hx hb dL_law_1544 rfl ?_
  refine lv_iadd hx hb dL_law_1545 ?_
  refine va_sld hx hb hX hbl hbA hS hi1 dL_law_1546 ?_
  refine lv_aload_n hx hb dL_law_1547 rfl (lv_at hl 3 rfl) ?_
  obtain ⟨F1, M1, b1, hAl1, e2, h1⟩ := lz_1 (c_tick hAl (by omega) ((xs (i + 1).toNatClampNeg))) f
  have hAl2 := hAl1.mono (B' := B + 16400) (by omega) (by omega)
  refine lw_H (As := [.ref (ad 0), .int (xs (i + 1).toNatClampNeg), .ref ho]) (rest := []) ⟨hx, hb, hml, hown, hts⟩ (cL_tickM l hfl D cy za zv ad hh aa pa ho H.size F f ((xs (i + 1).toNatClampNeg)) _ h1) (vx_cwSW 3 hts gL_law_L_tick rfl rfl rfl hlL_tick ⟨Nat.le_of_ble_eq_true rfl, Nat.le_of_ble_eq_true rfl⟩) hN hZ hK hP hD hS hA rfl hl.1 rfl (Nat.le_of_ble_eq_true rfl) dL_law_1548 hf (fun r q H locs hq hP hD hS => ?_)
  obtain ⟨F2, f2⟩ := q
  obtain ⟨hq1, hq2, hq3⟩ := hq
  replace hq2 : F2 = F1 := hq2
  subst hq2
  replace hq3 : r = 0 → f2 (Int32.toNatClampNeg 0) = b1.toInt64 := hq3
  replace hP : va_P D vwCl (wLW cy ad hh aa pa h a ho F2 M f2) H := hP
  replace hD : va_D A (wLW cy ad hh aa pa h a ho F2 M f2) := hD
  refine lv_istore (lv' := [(5, .int r), (0, .ref b), (1, .ref (ad 0)), (2, .ref h), (3, .ref ho), (4, .int i)]) hx hb dL_law_1551 hl (by decide) rfl (fun ls hl => ?_)
  refine lv_aload_n hx hb dL_law_1553 rfl (lv_at hl 3 rfl) ?_
  refine lv_aload_n hx hb dL_law_1554 rfl (lv_at hl 1 rfl) ?_
  refine lv_iload hx hb dL_law_1555 (lv_at hl 5 rfl) ?_
  refine lv_iconst (v := 1) hx hb dL_law_1557 rfl ?_
  refine lv_iadd hx hb dL_law_1558 ?_
  refine va_sld hx hb hX hbl hbA hS hi1 dL_law_1559 ?_
  refine lw_MI e2 (As := [.int (xs (i + 1).toNatClampNeg)]) (rest := []) ⟨hx, hb, hml, hown, hts⟩ (cX10_tickM l D cy h a H.size M ((xs (i + 1).toNatClampNeg))) (cwV 1 hts gL_law_X10_tick rfl rfl rfl hlX10_tick ⟨Nat.le_of_ble_eq_true rfl, Nat.le_of_ble_eq_true rfl⟩) hK hP hD hS hA rfl hl.1 rfl (Nat.le_of_ble_eq_true rfl) dL_law_1560 hf (fun H locs hP hD hS => ?_)
  refine lv_istore (lv' := [(6, .int b1), (5, .int r), (0, .ref b), (1, .ref (ad 0)), (2, .ref h), (3, .ref ho), (4, .int i)]) hx hb dL_law_1563 hl (by decide) rfl (fun ls hl => ?_)
  refine lv_aload_n hx hb dL_law_1565 rfl (lv_at hl 4 rfl) ?_
  refine lw_MR (o := fX10_thrown M1) (r0 := mTh M1) rfl (As := []) (rest := []) ⟨hx, hb, hml, hown, hts⟩ (cX10_thrownM l D cy h a H.size M1) (cwV 0 hts gL_law_X10_thrown rfl rfl rfl hlX10_thrown ⟨Nat.le_of_ble_eq_true rfl, Nat.le_of_ble_eq_true rfl⟩) hK hP hD hS hA rfl hl.1 rfl (Nat.le_of_ble_eq_true rfl) dL_law_1566 hf (fun H locs hP hD hS => ?_)
  refine lv_iload hx hb dL_law_1569 (lv_at hl 1 rfl) ?_
  refine lv_icmp_eq (tgt := 1576) hx hb dL_law_1571 (by decide) (fun _ => ?_) (fun c => absurd hq1.symm c)
  refine lv_iload hx hb dL_law_1576 (lv_at hl 1 rfl) ?_
  refine lv_if_ne (tgt := 1593) hx hb dL_law_1578 (by decide) (fun c1578 => ?_) (fun c1578 => ?_)
  · refine lv_goto (tgt := 2200) hx hb dL_law_1593 (by decide) ?_
    exact kk d0 hd0 F2 M1 f2 H locs ls hAl2 (lv_sub hl [2, 3, 4, 5, 6] rfl) hP hD hS
  · refine lv_aload_n hx hb dL_law_1581 rfl (lv_at hl 5 rfl) ?_
    refine lv_iconst (v := 0) hx hb dL_law_1582 rfl ?_
    refine va_lald (ws := wLW cy ad hh aa pa h a ho F2 M1 f2) (cA := cy 3) (n := 1) (f := f2) hx hb hK.1 hP 0 3 rfl rfl (inb_vp (by decide)) dL_law_1583 ?_
    refine lv_iload hx hb dL_law_1584 (lv_at hl 0 rfl) ?_
    refine lv_i2l (v := b1.toInt64) hx hb dL_law_1586 rfl ?_
    refine W.lcmp hx hb dL_law_1587 ?_
    refine lv_if_eq (tgt := 1593) hx hb dL_law_1588 (by decide) (fun _ => ?_) (fun c => absurd (by rw [hq3 c1578]; exact lg_cmp_self _) c)
    refine lv_goto (tgt := 2200) hx hb dL_law_1593 (by decide) ?_
    exact kk d0 hd0 F2 M1 f2 H locs ls hAl2 (lv_sub hl [2, 3, 4, 5, 6] rfl) hP hD hS
set_option maxHeartbeats 4000000 in
set_option maxRecDepth 100000 in
theorem lk32 (l : Launch) (hfl : l.stackTraces = false) : lGo l 1596 := by
  intro p e s m args below meth c D cy A za zv ad hh aa pa h a ho b L xs d0 E0 hd0 B F M f i hAl hB hi1 hi2 hi3 H locs ls cells slots Q hf hl hP hD hS kk
  obtain ⟨hx, hb, hml, hown, hts, hK, hA, hZ, hN, hX, hbl, hbA⟩ := E0.draw d0
  refine lv_aload_n hx hb dL_law_1596 rfl (lv_at hl 1 rfl) ?_
  refine lv_aload_n hx hb dL_law_1597 rfl (lv_at hl 0 rfl) ?_
  refine lv_iload hx hb dL_law_1598 (lv_at hl 4 rfl) ?_
  refine lv_iconst (v := 1) hx hb dL_law_1600 rfl ?_
  refine lv_iadd hx hb dL_law_1601 ?_
  refine va_sld hx hb hX hbl hbA hS hi1 dL_law_1602 ?_
  refine lv_aload_n hx hb dL_law_1603 rfl (lv_at hl 0 rfl) ?_
  refine lv_iload hx hb dL_law_1604 (lv_at hl 4 rfl) ?_
  refine lv_iconst (v := 2) hx hb dL_law_1606 rfl ?_
  refine lv_iadd hx hb dL_law_1607 ?_
  refine va_sld hx hb hX hbl hbA hS hi2 dL_law_1608 ?_
  refine lv_aload_n hx hb dL_law_1609 rfl (lv_at hl 3 rfl) ?_
  obtain ⟨F1, M1, b1, hAl1, e2, h1⟩ := lz_2 (c_arrive hAl (by omega) ((xs (i + 1).toNatClampNeg)) ((xs (i + 2).toNatClampNeg))) f
  have hAl2 := hAl1.mono (B' := B + 16400) (by omega) (by omega)
  refine lw_H (As := [.ref (ad 0), .int (xs (i + 1).toNatClampNeg), .int (xs (i + 2).toNatClampNeg), .ref ho]) (rest := []) ⟨hx, hb, hml, hown, hts⟩ (cL_arriveM l hfl D cy za zv ad hh aa pa ho H.size F f ((xs (i + 1).toNatClampNeg)) ((xs (i + 2).toNatClampNeg)) _ h1) (vx_cwSW 4 hts gL_law_L_arrive rfl rfl rfl hlL_arrive ⟨Nat.le_of_ble_eq_true rfl, Nat.le_of_ble_eq_true rfl⟩) hN hZ hK hP hD hS hA rfl hl.1 rfl (Nat.le_of_ble_eq_true rfl) dL_law_1610 hf (fun r q H locs hq hP hD hS => ?_)
  obtain ⟨F2, f2⟩ := q
  obtain ⟨hq1, hq2, hq3⟩ := hq
  replace hq2 : F2 = F1 := hq2
  subst hq2
  replace hq3 : r = 0 → f2 (Int32.toNatClampNeg 0) = b1.toInt64 := hq3
  replace hP : va_P D vwCl (wLW cy ad hh aa pa h a ho F2 M f2) H := hP
  replace hD : va_D A (wLW cy ad hh aa pa h a ho F2 M f2) := hD
  refine lv_istore (lv' := [(5, .int r), (0, .ref b), (1, .ref (ad 0)), (2, .ref h), (3, .ref ho), (4, .int i)]) hx hb dL_law_1613 hl (by decide) rfl (fun ls hl => ?_)
  refine lv_aload_n hx hb dL_law_1615 rfl (lv_at hl 3 rfl) ?_
  refine lv_aload_n hx hb dL_law_1616 rfl (lv_at hl 1 rfl) ?_
  refine lv_iload hx hb dL_law_1617 (lv_at hl 5 rfl) ?_
  refine lv_iconst (v := 1) hx hb dL_law_1619 rfl ?_
  refine lv_iadd hx hb dL_law_1620 ?_
  refine va_sld hx hb hX hbl hbA hS hi1 dL_law_1621 ?_
  refine lv_aload_n hx hb dL_law_1622 rfl (lv_at hl 1 rfl) ?_
  refine lv_iload hx hb dL_law_1623 (lv_at hl 5 rfl) ?_
  refine lv_iconst (v := 2) hx hb dL_law_1625 rfl ?_
  refine lv_iadd hx hb dL_law_1626 ?_
  refine va_sld hx hb hX hbl hbA hS hi2 dL_law_1627 ?_
  refine lw_MI e2 (As := [.int (xs (i + 1).toNatClampNeg), .int (xs (i + 2).toNatClampNeg)]) (rest := []) ⟨hx, hb, hml, hown, hts⟩ (cX10_arriveM l D cy h a H.size M ((xs (i + 1).toNatClampNeg)) ((xs (i + 2).toNatClampNeg))) (cwV 2 hts gL_law_X10_arrive rfl rfl rfl hlX10_arrive ⟨Nat.le_of_ble_eq_true rfl, Nat.le_of_ble_eq_true rfl⟩) hK hP hD hS hA rfl hl.1 rfl (Nat.le_of_ble_eq_true rfl) dL_law_1628 hf (fun H locs hP hD hS => ?_)
  refine lv_istore (lv' := [(6, .int b1), (5, .int r), (0, .ref b), (1, .ref (ad 0)), (2, .ref h), (3, .ref ho), (4, .int i)]) hx hb dL_law_1631 hl (by decide) rfl (fun ls hl => ?_)
  refine lv_aload_n hx hb dL_law_1633 rfl (lv_at hl 4 rfl) ?_
  refine lw_MR (o := fX10_thrown M1) (r0 := mTh M1) rfl (As := []) (rest := []) ⟨hx, hb, hml, hown, hts⟩ (cX10_thrownM l D cy h a H.size M1) (cwV 0 hts gL_law_X10_thrown rfl rfl rfl hlX10_thrown ⟨Nat.le_of_ble_eq_true rfl, Nat.le_of_ble_eq_true rfl⟩) hK hP hD hS hA rfl hl.1 rfl (Nat.le_of_ble_eq_true rfl) dL_law_1634 hf (fun H locs hP hD hS => ?_)
  refine lv_iload hx hb dL_law_1637 (lv_at hl 1 rfl) ?_
  refine lv_icmp_eq (tgt := 1644) hx hb dL_law_1639 (by decide) (fun _ => ?_) (fun c => absurd hq1.symm c)
  refine lv_iload hx hb dL_law_1644 (lv_at hl 1 rfl) ?_
  refine lv_if_ne (tgt := 1661) hx hb dL_law_1646 (by decide) (fun c1646 => ?_) (fun c1646 => ?_)
  · refine lv_goto (tgt := 2200) hx hb dL_law_1661 (by decide) ?_
    exact kk d0 hd0 F2 M1 f2 H locs ls hAl2 (lv_sub hl [2, 3, 4, 5, 6] rfl) hP hD hS
  · refine lv_aload_n hx hb dL_law_1649 rfl (lv_at hl 5 rfl) ?_
    refine lv_iconst (v := 0) hx hb dL_law_1650 rfl ?_
    refine va_lald (ws := wLW cy ad hh aa pa h a ho F2 M1 f2) (cA := cy 3) (n := 1) (f := f2) hx hb hK.1 hP 0 3 rfl rfl (inb_vp (by decide)) dL_law_1651 ?_
    refine lv_iload hx hb dL_law_1652 (lv_at hl 0 rfl) ?_
    refine lv_i2l (v := b1.toInt64) hx hb dL_law_1654 rfl ?_
    refine W.lcmp hx hb dL_law_1655 ?_
    refine lv_if_eq (tgt := 1661) hx hb dL_law_1656 (by decide) (fun _ => ?_) (fun c => absurd (by rw [hq3 c1646]; exact lg_cmp_self _) c)
    refine lv_goto (tgt := 2200) hx hb dL_law_1661 (by decide) ?_
    exact kk d0 hd0 F2 M1 f2 H locs ls hAl2 (lv_sub hl [2, 3, 4, 5, 6] rfl) hP hD hS
set_option maxHeartbeats 4000000 in
set_option maxRecDepth 100000 in
theorem lk33 (l : Launch) (hfl : l.stackTraces = false) : lGo l 1664 := by
  intro p e s m args below meth c D cy A za zv ad hh aa pa h a ho b L xs d0 E0 hd0 B F M f i hAl hB hi1 hi2 hi3 H locs ls cells slots Q hf hl hP hD hS kk
  obtain ⟨hx, hb, hml, hown, hts, hK, hA, hZ, hN, hX, hbl, hbA⟩ := E0.draw d0
  refine lv_aload_n hx hb dL_law_1664 rfl (lv_at hl 1 rfl) ?_
  refine lv_aload_n hx hb dL_law_1665 rfl (lv_at hl 0 rfl) ?_
  refine lv_iload hx hb dL_law_1666 (lv_at hl 4 rfl) ?_
  refine lv_iconst (v := 1) hx hb dL_law_1668 rfl ?_
  refine lv_iadd hx hb dL_law_1669 ?_
  refine va_sld hx hb hX hbl hbA hS hi1 dL_law_1670 ?_
  refine lv_aload_n hx hb dL_law_1671 rfl (lv_at hl 3 rfl) ?_
  obtain ⟨F1, M1, b1, hAl1, e2, h1⟩ := lz_1 (c_wave hAl (by omega) ((xs (i + 1).toNatClampNeg))) f
  have hAl2 := hAl1.mono (B' := B + 16400) (by omega) (by omega)
  refine lw_H (As := [.ref (ad 0), .int (xs (i + 1).toNatClampNeg), .ref ho]) (rest := []) ⟨hx, hb, hml, hown, hts⟩ (cL_waveM l hfl D cy za zv ad hh aa pa ho H.size F f ((xs (i + 1).toNatClampNeg)) _ h1) (vx_cwSW 3 hts gL_law_L_wave rfl rfl rfl hlL_wave ⟨Nat.le_of_ble_eq_true rfl, Nat.le_of_ble_eq_true rfl⟩) hN hZ hK hP hD hS hA rfl hl.1 rfl (Nat.le_of_ble_eq_true rfl) dL_law_1672 hf (fun r q H locs hq hP hD hS => ?_)
  obtain ⟨F2, f2⟩ := q
  obtain ⟨hq1, hq2, hq3⟩ := hq
  replace hq2 : F2 = F1 := hq2
  subst hq2
  replace hq3 : r = 0 → f2 (Int32.toNatClampNeg 0) = b1.toInt64 := hq3
  replace hP : va_P D vwCl (wLW cy ad hh aa pa h a ho F2 M f2) H := hP
  replace hD : va_D A (wLW cy ad hh aa pa h a ho F2 M f2) := hD
  refine lv_istore (lv' := [(5, .int r), (0, .ref b), (1, .ref (ad 0)), (2, .ref h), (3, .ref ho), (4, .int i)]) hx hb dL_law_1675 hl (by decide) rfl (fun ls hl => ?_)
  refine lv_aload_n hx hb dL_law_1677 rfl (lv_at hl 3 rfl) ?_
  refine lv_aload_n hx hb dL_law_1678 rfl (lv_at hl 1 rfl) ?_
  refine lv_iload hx hb dL_law_1679 (lv_at hl 5 rfl) ?_
  refine lv_iconst (v := 1) hx hb dL_law_1681 rfl ?_
  refine lv_iadd hx hb dL_law_1682 ?_
  refine va_sld hx hb hX hbl hbA hS hi1 dL_law_1683 ?_
  refine lw_MI e2 (As := [.int (xs (i + 1).toNatClampNeg)]) (rest := []) ⟨hx, hb, hml, hown, hts⟩ (cX10_waveM l D cy h a H.size M ((xs (i + 1).toNatClampNeg))) (cwV 1 hts gL_law_X10_wave rfl rfl rfl hlX10_wave ⟨Nat.le_of_ble_eq_true rfl, Nat.le_of_ble_eq_true rfl⟩) hK hP hD hS hA rfl hl.1 rfl (Nat.le_of_ble_eq_true rfl) dL_law_1684 hf (fun H locs hP hD hS => ?_)
  refine lv_istore (lv' := [(6, .int b1), (5, .int r), (0, .ref b), (1, .ref (ad 0)), (2, .ref h), (3, .ref ho), (4, .int i)]) hx hb dL_law_1687 hl (by decide) rfl (fun ls hl => ?_)
  refine lv_aload_n hx hb dL_law_1689 rfl (lv_at hl 4 rfl) ?_
  refine lw_MR (o := fX10_thrown M1) (r0 := mTh M1) rfl (As := []) (rest := []) ⟨hx, hb, hml, hown, hts⟩ (cX10_thrownM l D cy h a H.size M1) (cwV 0 hts gL_law_X10_thrown rfl rfl rfl hlX10_thrown ⟨Nat.le_of_ble_eq_true rfl, Nat.le_of_ble_eq_true rfl⟩) hK hP hD hS hA rfl hl.1 rfl (Nat.le_of_ble_eq_true rfl) dL_law_1690 hf (fun H locs hP hD hS => ?_)
  refine lv_iload hx hb dL_law_1693 (lv_at hl 1 rfl) ?_
  refine lv_icmp_eq (tgt := 1700) hx hb dL_law_1695 (by decide) (fun _ => ?_) (fun c => absurd hq1.symm c)
  refine lv_iload hx hb dL_law_1700 (lv_at hl 1 rfl) ?_
  refine lv_if_ne (tgt := 1717) hx hb dL_law_1702 (by decide) (fun c1702 => ?_) (fun c1702 => ?_)
  · refine lv_goto (tgt := 2200) hx hb dL_law_1717 (by decide) ?_
    exact kk d0 hd0 F2 M1 f2 H locs ls hAl2 (lv_sub hl [2, 3, 4, 5, 6] rfl) hP hD hS
  · refine lv_aload_n hx hb dL_law_1705 rfl (lv_at hl 5 rfl) ?_
    refine lv_iconst (v := 0) hx hb dL_law_1706 rfl ?_
    refine va_lald (ws := wLW cy ad hh aa pa h a ho F2 M1 f2) (cA := cy 3) (n := 1) (f := f2) hx hb hK.1 hP 0 3 rfl rfl (inb_vp (by decide)) dL_law_1707 ?_
    refine lv_iload hx hb dL_law_1708 (lv_at hl 0 rfl) ?_
    refine lv_i2l (v := b1.toInt64) hx hb dL_law_1710 rfl ?_
    refine W.lcmp hx hb dL_law_1711 ?_
    refine lv_if_eq (tgt := 1717) hx hb dL_law_1712 (by decide) (fun _ => ?_) (fun c => absurd (by rw [hq3 c1702]; exact lg_cmp_self _) c)
    refine lv_goto (tgt := 2200) hx hb dL_law_1717 (by decide) ?_
    exact kk d0 hd0 F2 M1 f2 H locs ls hAl2 (lv_sub hl [2, 3, 4, 5, 6] rfl) hP hD hS
set_option maxHeartbeats 4000000 in
set_option maxRecDepth 100000 in
theorem lk34 (l : Launch) (hfl : l.stackTraces = false) : lGo l 1720 := by
  intro p e s m args below meth c D cy A za zv ad hh aa pa h a ho b L xs d0 E0 hd0 B F M f i hAl hB hi1 hi2 hi3 H locs ls cells slots Q hf hl hP hD hS kk
  obtain ⟨hx, hb, hml, hown, hts, hK, hA, hZ, hN, hX, hbl, hbA⟩ := E0.draw d0
  refine lv_aload_n hx hb dL_law_1720 rfl (lv_at hl 1 rfl) ?_
  refine lv_aload_n hx hb dL_law_1721 rfl (lv_at hl 0 rfl) ?_
  refine lv_iload hx hb dL_law_1722 (lv_at hl 4 rfl) ?_
  refine lv_iconst (v := 1) hx hb dL_law_1724 rfl ?_
  refine lv_iadd hx hb dL_law_1725 ?_
  refine va_sld hx hb hX hbl hbA hS hi1 dL_law_1726 ?_
  refine lv_aload_n hx hb dL_law_1727 rfl (lv_at hl 3 rfl) ?_
  obtain ⟨F1, M1, b1, hAl1, e2, h1⟩ := lz_1 (c_dismiss hAl (by omega) ((xs (i + 1).toNatClampNeg))) f
  have hAl2 := hAl1.mono (B' := B + 16400) (by omega) (by omega)
  refine lw_H (As := [.ref (ad 0), .int (xs (i + 1).toNatClampNeg), .ref ho]) (rest := []) ⟨hx, hb, hml, hown, hts⟩ (cL_dismissM l hfl D cy za zv ad hh aa pa ho H.size F f ((xs (i + 1).toNatClampNeg)) _ h1) (vx_cwSW 3 hts gL_law_L_dismiss rfl rfl rfl hlL_dismiss ⟨Nat.le_of_ble_eq_true rfl, Nat.le_of_ble_eq_true rfl⟩) hN hZ hK hP hD hS hA rfl hl.1 rfl (Nat.le_of_ble_eq_true rfl) dL_law_1728 hf (fun r q H locs hq hP hD hS => ?_)
  obtain ⟨F2, f2⟩ := q
  obtain ⟨hq1, hq2, hq3⟩ := hq
  replace hq2 : F2 = F1 := hq2
  subst hq2
  replace hq3 : r = 0 → f2 (Int32.toNatClampNeg 0) = b1.toInt64 := hq3
  replace hP : va_P D vwCl (wLW cy ad hh aa pa h a ho F2 M f2) H := hP
  replace hD : va_D A (wLW cy ad hh aa pa h a ho F2 M f2) := hD
  refine lv_istore (lv' := [(5, .int r), (0, .ref b), (1, .ref (ad 0)), (2, .ref h), (3, .ref ho), (4, .int i)]) hx hb dL_law_1731 hl (by decide) rfl (fun ls hl => ?_)
  refine lv_aload_n hx hb dL_law_1733 rfl (lv_at hl 3 rfl) ?_
  refine lv_aload_n hx hb dL_law_1734 rfl (lv_at hl 1 rfl) ?_
  refine lv_iload hx hb dL_law_1735 (lv_at hl 5 rfl) ?_
  refine lv_iconst (v := 1) hx hb dL_law_1737 rfl ?_
  refine lv_iadd hx hb dL_law_1738 ?_
  refine va_sld hx hb hX hbl hbA hS hi1 dL_law_1739 ?_
  refine lw_MI e2 (As := [.int (xs (i + 1).toNatClampNeg)]) (rest := []) ⟨hx, hb, hml, hown, hts⟩ (cX10_dismissM l D cy h a H.size M ((xs (i + 1).toNatClampNeg))) (cwV 1 hts gL_law_X10_dismiss rfl rfl rfl hlX10_dismiss ⟨Nat.le_of_ble_eq_true rfl, Nat.le_of_ble_eq_true rfl⟩) hK hP hD hS hA rfl hl.1 rfl (Nat.le_of_ble_eq_true rfl) dL_law_1740 hf (fun H locs hP hD hS => ?_)
  refine lv_istore (lv' := [(6, .int b1), (5, .int r), (0, .ref b), (1, .ref (ad 0)), (2, .ref h), (3, .ref ho), (4, .int i)]) hx hb dL_law_1743 hl (by decide) rfl (fun ls hl => ?_)
  refine lv_aload_n hx hb dL_law_1745 rfl (lv_at hl 4 rfl) ?_
  refine lw_MR (o := fX10_thrown M1) (r0 := mTh M1) rfl (As := []) (rest := []) ⟨hx, hb, hml, hown, hts⟩ (cX10_thrownM l D cy h a H.size M1) (cwV 0 hts gL_law_X10_thrown rfl rfl rfl hlX10_thrown ⟨Nat.le_of_ble_eq_true rfl, Nat.le_of_ble_eq_true rfl⟩) hK hP hD hS hA rfl hl.1 rfl (Nat.le_of_ble_eq_true rfl) dL_law_1746 hf (fun H locs hP hD hS => ?_)
  refine lv_iload hx hb dL_law_1749 (lv_at hl 1 rfl) ?_
  refine lv_icmp_eq (tgt := 1756) hx hb dL_law_1751 (by decide) (fun _ => ?_) (fun c => absurd hq1.symm c)
  refine lv_iload hx hb dL_law_1756 (lv_at hl 1 rfl) ?_
  refine lv_if_ne (tgt := 1773) hx hb dL_law_1758 (by decide) (fun c1758 => ?_) (fun c1758 => ?_)
  · refine lv_goto (tgt := 2200) hx hb dL_law_1773 (by decide) ?_
    exact kk d0 hd0 F2 M1 f2 H locs ls hAl2 (lv_sub hl [2, 3, 4, 5, 6] rfl) hP hD hS
  · refine lv_aload_n hx hb dL_law_1761 rfl (lv_at hl 5 rfl) ?_
    refine lv_iconst (v := 0) hx hb dL_law_1762 rfl ?_
    refine va_lald (ws := wLW cy ad hh aa pa h a ho F2 M1 f2) (cA := cy 3) (n := 1) (f := f2) hx hb hK.1 hP 0 3 rfl rfl (inb_vp (by decide)) dL_law_1763 ?_
    refine lv_iload hx hb dL_law_1764 (lv_at hl 0 rfl) ?_
    refine lv_i2l (v := b1.toInt64) hx hb dL_law_1766 rfl ?_
    refine W.lcmp hx hb dL_law_1767 ?_
    refine lv_if_eq (tgt := 1773) hx hb dL_law_1768 (by decide) (fun _ => ?_) (fun c => absurd (by rw [hq3 c1758]; exact lg_cmp_self _) c)
    refine lv_goto (tgt := 2200) hx hb dL_law_1773 (by decide) ?_
    exact kk d0 hd0 F2 M1 f2 H locs ls hAl2 (lv_sub hl [2, 3, 4, 5, 6] rfl) hP hD hS
