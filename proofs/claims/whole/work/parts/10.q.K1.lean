set_option maxHeartbeats 4000000 in
set_option maxRecDepth 100000 in
theorem lk1 (l : Launch) (hfl : l.stackTraces = false) : lGo l 288 := by
  intro p e s m args below meth c D cy A za zv ad hh aa pa h a ho b L xs d0 E0 hd0 B F M f i hAl hB hi1 hi2 hi3 H locs ls cells slots Q hf hl hP hD hS kk
  obtain ⟨hx, hb, hml, hown, hts, hK, hA, hZ, hN, hX, hbl, hbA⟩ := E0.draw d0
  refine lv_aload_n hx hb dL_law_288 rfl (lv_at hl 1 rfl) ?_
  refine lv_aload_n hx hb dL_law_289 rfl (lv_at hl 0 rfl) ?_
  refine lv_iload hx hb dL_law_290 (lv_at hl 4 rfl) ?_
  refine lv_iconst (v := 1) hx hb dL_law_292 rfl ?_
  refine lv_iadd hx hb dL_law_293 ?_
  refine va_sld hx hb hX hbl hbA hS hi1 dL_law_294 ?_
  refine lv_aload_n hx hb dL_law_295 rfl (lv_at hl 3 rfl) ?_
  obtain ⟨F1, M1, b1, hAl1, e2, h1⟩ := lz_1 (c_truncateText hAl ((xs (i + 1).toNatClampNeg))) f
  have hAl2 := hAl1.mono (B' := B + 16400) (by omega) (by omega)
  refine lw_H (As := [.ref (ad 0), .int (xs (i + 1).toNatClampNeg), .ref ho]) (rest := []) ⟨hx, hb, hml, hown, hts⟩ (cL_truncateTextM l hfl D cy za zv ad hh aa pa ho H.size F f ((xs (i + 1).toNatClampNeg)) _ h1) (vx_cwSW 3 hts gL_law_L_truncateText rfl rfl rfl hlL_truncateText ⟨Nat.le_of_ble_eq_true rfl, Nat.le_of_ble_eq_true rfl⟩) hN hZ hK hP hD hS hA rfl hl.1 rfl (Nat.le_of_ble_eq_true rfl) dL_law_296 hf (fun r q H locs hq hP hD hS => ?_)
  obtain ⟨F2, f2⟩ := q
  obtain ⟨hq1, hq2, hq3⟩ := hq
  replace hq2 : F2 = F1 := hq2
  subst hq2
  replace hq3 : r = 0 → f2 (Int32.toNatClampNeg 0) = b1.toInt64 := hq3
  replace hP : va_P D vwCl (wLW cy ad hh aa pa h a ho F2 M f2) H := hP
  replace hD : va_D A (wLW cy ad hh aa pa h a ho F2 M f2) := hD
  refine lv_istore (lv' := [(5, .int r), (0, .ref b), (1, .ref (ad 0)), (2, .ref h), (3, .ref ho), (4, .int i)]) hx hb dL_law_299 hl (by decide) rfl (fun ls hl => ?_)
  refine lv_aload_n hx hb dL_law_301 rfl (lv_at hl 3 rfl) ?_
  refine lv_aload_n hx hb dL_law_302 rfl (lv_at hl 1 rfl) ?_
  refine lv_iload hx hb dL_law_303 (lv_at hl 5 rfl) ?_
  refine lv_iconst (v := 1) hx hb dL_law_305 rfl ?_
  refine lv_iadd hx hb dL_law_306 ?_
  refine va_sld hx hb hX hbl hbA hS hi1 dL_law_307 ?_
  refine lw_MI e2 (As := [.int (xs (i + 1).toNatClampNeg)]) (rest := []) ⟨hx, hb, hml, hown, hts⟩ (cX10_truncateTextM l D cy h a H.size M ((xs (i + 1).toNatClampNeg))) (cwV 1 hts gL_law_X10_truncateText rfl rfl rfl hlX10_truncateText ⟨Nat.le_of_ble_eq_true rfl, Nat.le_of_ble_eq_true rfl⟩) hK hP hD hS hA rfl hl.1 rfl (Nat.le_of_ble_eq_true rfl) dL_law_308 hf (fun H locs hP hD hS => ?_)
  refine lv_istore (lv' := [(6, .int b1), (5, .int r), (0, .ref b), (1, .ref (ad 0)), (2, .ref h), (3, .ref ho), (4, .int i)]) hx hb dL_law_311 hl (by decide) rfl (fun ls hl => ?_)
  refine lv_aload_n hx hb dL_law_313 rfl (lv_at hl 4 rfl) ?_
  refine lw_MR (o := fX10_thrown M1) (r0 := mTh M1) rfl (As := []) (rest := []) ⟨hx, hb, hml, hown, hts⟩ (cX10_thrownM l D cy h a H.size M1) (cwV 0 hts gL_law_X10_thrown rfl rfl rfl hlX10_thrown ⟨Nat.le_of_ble_eq_true rfl, Nat.le_of_ble_eq_true rfl⟩) hK hP hD hS hA rfl hl.1 rfl (Nat.le_of_ble_eq_true rfl) dL_law_314 hf (fun H locs hP hD hS => ?_)
  refine lv_iload hx hb dL_law_317 (lv_at hl 1 rfl) ?_
  refine lv_icmp_eq (tgt := 324) hx hb dL_law_319 (by decide) (fun _ => ?_) (fun c => absurd hq1.symm c)
  refine lv_iload hx hb dL_law_324 (lv_at hl 1 rfl) ?_
  refine lv_if_ne (tgt := 341) hx hb dL_law_326 (by decide) (fun c326 => ?_) (fun c326 => ?_)
  · refine lv_goto (tgt := 2200) hx hb dL_law_341 (by decide) ?_
    exact kk d0 hd0 F2 M1 f2 H locs ls hAl2 (lv_sub hl [2, 3, 4, 5, 6] rfl) hP hD hS
  · refine lv_aload_n hx hb dL_law_329 rfl (lv_at hl 5 rfl) ?_
    refine lv_iconst (v := 0) hx hb dL_law_330 rfl ?_
    refine va_lald (ws := wLW cy ad hh aa pa h a ho F2 M1 f2) (cA := cy 3) (n := 1) (f := f2) hx hb hK.1 hP 0 3 rfl rfl (inb_vp (by decide)) dL_law_331 ?_
    refine lv_iload hx hb dL_law_332 (lv_at hl 0 rfl) ?_
    refine lv_i2l (v := b1.toInt64) hx hb dL_law_334 rfl ?_
    refine W.lcmp hx hb dL_law_335 ?_
    refine lv_if_eq (tgt := 341) hx hb dL_law_336 (by decide) (fun _ => ?_) (fun c => absurd (by rw [hq3 c326]; exact lg_cmp_self _) c)
    refine lv_goto (tgt := 2200) hx hb dL_law_341 (by decide) ?_
    exact kk d0 hd0 F2 M1 f2 H locs ls hAl2 (lv_sub hl [2, 3, 4, 5, 6] rfl) hP hD hS
set_option maxHeartbeats 4000000 in
set_option maxRecDepth 100000 in
theorem lk3 (l : Launch) (hfl : l.stackTraces = false) : lGo l 357 := by
  intro p e s m args below meth c D cy A za zv ad hh aa pa h a ho b L xs d0 E0 hd0 B F M f i hAl hB hi1 hi2 hi3 H locs ls cells slots Q hf hl hP hD hS kk
  obtain ⟨hx, hb, hml, hown, hts, hK, hA, hZ, hN, hX, hbl, hbA⟩ := E0.draw d0
  have hf0 : cells ≤ room_1.cells ∧ slots ≤ room_1.slots := ⟨Nat.le_trans (Nat.le_add_right _ _) hf.1, Nat.le_trans (Nat.le_add_right _ _) hf.2⟩
  refine lv_aload_n hx hb dL_law_357 rfl (lv_at hl 1 rfl) ?_
  obtain ⟨r1, F1, M1, e1, e2, hAl1⟩ := c_play hAl (by omega) 
  have hAl2 := hAl1.mono (B' := B + 16400) (by omega) (by omega)
  refine lw_XZ e1 (As := []) (rest := []) ⟨hx, hb, hml, hown, hts⟩ (cX9_playM l D cy za zv ad hh aa pa H.size F ) (cwV 0 hts gL_law_X9_play rfl rfl rfl hlX9_play ⟨Nat.le_of_ble_eq_true rfl, Nat.le_of_ble_eq_true rfl⟩) hZ hK hP hD hS hA rfl hl.1 rfl (Nat.le_of_ble_eq_true rfl) dL_law_358 hf0 (fun H locs hP hD hS => ?_)
  refine lv_aload_n hx hb dL_law_361 rfl (lv_at hl 2 rfl) ?_
  refine lw_MZ e2 (As := []) (rest := [.int r1]) ⟨hx, hb, hml, hown, hts⟩ (cX10_playM l D cy za zv h a H.size M ) (cwV 0 hts gL_law_X10_play rfl rfl rfl hlX10_play ⟨Nat.le_of_ble_eq_true rfl, Nat.le_of_ble_eq_true rfl⟩) hZ hK hP hD hS hA rfl hl.1 rfl (Nat.le_of_ble_eq_true rfl) dL_law_362 hf0 (fun H locs hP hD hS => ?_)
  refine lv_icmp_eq (tgt := 2200) hx hb dL_law_365 (by decide) (fun _ => ?_) (fun c => absurd rfl c)
  refine W.widen (k := cells + 1) (n := slots + 6) (Nat.le_add_right _ _) (Nat.le_add_right _ _) ?_
  exact kk d0 hd0 F1 M1 f H locs ls hAl2 (lv_sub hl [0, 1, 2, 3, 4] rfl) hP hD hS
set_option maxHeartbeats 4000000 in
set_option maxRecDepth 100000 in
theorem lk5 (l : Launch) (hfl : l.stackTraces = false) : lGo l 383 := by
  intro p e s m args below meth c D cy A za zv ad hh aa pa h a ho b L xs d0 E0 hd0 B F M f i hAl hB hi1 hi2 hi3 H locs ls cells slots Q hf hl hP hD hS kk
  obtain ⟨hx, hb, hml, hown, hts, hK, hA, hZ, hN, hX, hbl, hbA⟩ := E0.draw d0
  have hf0 : cells ≤ room_1.cells ∧ slots ≤ room_1.slots := ⟨Nat.le_trans (Nat.le_add_right _ _) hf.1, Nat.le_trans (Nat.le_add_right _ _) hf.2⟩
  refine lv_aload_n hx hb dL_law_383 rfl (lv_at hl 1 rfl) ?_
  obtain ⟨r1, M1, e1, e2, hAl1⟩ := c_errorPosition hAl 
  have hAl2 := hAl1.mono (B' := B + 16400) (by omega) (by omega)
  refine lw_XR e1 (As := []) (rest := []) ⟨hx, hb, hml, hown, hts⟩ (cX9_errorPositionM l D cy ad hh aa pa H.size F ) (cwV 0 hts gL_law_X9_errorPosition rfl rfl rfl hlX9_errorPosition ⟨Nat.le_of_ble_eq_true rfl, Nat.le_of_ble_eq_true rfl⟩) hK hP hD hS hA rfl hl.1 rfl (Nat.le_of_ble_eq_true rfl) dL_law_384 hf0 (fun H locs hP hD hS => ?_)
  refine lv_aload_n hx hb dL_law_387 rfl (lv_at hl 2 rfl) ?_
  refine lw_MI e2 (As := []) (rest := [.int r1]) ⟨hx, hb, hml, hown, hts⟩ (cX10_errorPositionM l D cy h a H.size M ) (cwV 0 hts gL_law_X10_errorPosition rfl rfl rfl hlX10_errorPosition ⟨Nat.le_of_ble_eq_true rfl, Nat.le_of_ble_eq_true rfl⟩) hK hP hD hS hA rfl hl.1 rfl (Nat.le_of_ble_eq_true rfl) dL_law_388 hf0 (fun H locs hP hD hS => ?_)
  refine lv_icmp_eq (tgt := 2200) hx hb dL_law_391 (by decide) (fun _ => ?_) (fun c => absurd rfl c)
  refine W.widen (k := cells + 1) (n := slots + 6) (Nat.le_add_right _ _) (Nat.le_add_right _ _) ?_
  exact kk d0 hd0 F M1 f H locs ls hAl2 (lv_sub hl [0, 1, 2, 3, 4] rfl) hP hD hS
set_option maxHeartbeats 4000000 in
set_option maxRecDepth 100000 in
theorem lk6 (l : Launch) (hfl : l.stackTraces = false) : lGo l 396 := by
  intro p e s m args below meth c D cy A za zv ad hh aa pa h a ho b L xs d0 E0 hd0 B F M f i hAl hB hi1 hi2 hi3 H locs ls cells slots Q hf hl hP hD hS kk
  obtain ⟨hx, hb, hml, hown, hts, hK, hA, hZ, hN, hX, hbl, hbA⟩ := E0.draw d0
  refine lv_aload_n hx hb dL_law_396 rfl (lv_at hl 1 rfl) ?_
  refine lv_aload_n hx hb dL_law_397 rfl (lv_at hl 0 rfl) ?_
  refine lv_iload hx hb dL_law_398 (lv_at hl 4 rfl) ?_
  refine lv_iconst (v := 1) hx hb dL_law_400 rfl ?_
  refine lv_iadd hx hb dL_law_401 ?_
  refine va_sld hx hb hX hbl hbA hS hi1 dL_law_402 ?_
  refine lv_aload_n hx hb dL_law_403 rfl (lv_at hl 3 rfl) ?_
  obtain ⟨F1, M1, b1, hAl1, e2, h1⟩ := lz_1 (c_count hAl ((xs (i + 1).toNatClampNeg))) f
  have hAl2 := hAl1.mono (B' := B + 16400) (by omega) (by omega)
  refine lw_H (As := [.ref (ad 0), .int (xs (i + 1).toNatClampNeg), .ref ho]) (rest := []) ⟨hx, hb, hml, hown, hts⟩ (cL_countM l hfl D cy za zv ad hh aa pa ho H.size F f ((xs (i + 1).toNatClampNeg)) _ h1) (vx_cwSW 3 hts gL_law_L_count rfl rfl rfl hlL_count ⟨Nat.le_of_ble_eq_true rfl, Nat.le_of_ble_eq_true rfl⟩) hN hZ hK hP hD hS hA rfl hl.1 rfl (Nat.le_of_ble_eq_true rfl) dL_law_404 hf (fun r q H locs hq hP hD hS => ?_)
  obtain ⟨F2, f2⟩ := q
  obtain ⟨hq1, hq2, hq3⟩ := hq
  replace hq2 : F2 = F1 := hq2
  subst hq2
  replace hq3 : r = 0 → f2 (Int32.toNatClampNeg 0) = b1.toInt64 := hq3
  replace hP : va_P D vwCl (wLW cy ad hh aa pa h a ho F2 M f2) H := hP
  replace hD : va_D A (wLW cy ad hh aa pa h a ho F2 M f2) := hD
  refine lv_istore (lv' := [(5, .int r), (0, .ref b), (1, .ref (ad 0)), (2, .ref h), (3, .ref ho), (4, .int i)]) hx hb dL_law_407 hl (by decide) rfl (fun ls hl => ?_)
  refine lv_aload_n hx hb dL_law_409 rfl (lv_at hl 3 rfl) ?_
  refine lv_aload_n hx hb dL_law_410 rfl (lv_at hl 1 rfl) ?_
  refine lv_iload hx hb dL_law_411 (lv_at hl 5 rfl) ?_
  refine lv_iconst (v := 1) hx hb dL_law_413 rfl ?_
  refine lv_iadd hx hb dL_law_414 ?_
  refine va_sld hx hb hX hbl hbA hS hi1 dL_law_415 ?_
  refine lw_MI e2 (As := [.int (xs (i + 1).toNatClampNeg)]) (rest := []) ⟨hx, hb, hml, hown, hts⟩ (cX10_countM l D cy h a H.size M ((xs (i + 1).toNatClampNeg))) (cwV 1 hts gL_law_X10_count rfl rfl rfl hlX10_count ⟨Nat.le_of_ble_eq_true rfl, Nat.le_of_ble_eq_true rfl⟩) hK hP hD hS hA rfl hl.1 rfl (Nat.le_of_ble_eq_true rfl) dL_law_416 hf (fun H locs hP hD hS => ?_)
  refine lv_istore (lv' := [(6, .int b1), (5, .int r), (0, .ref b), (1, .ref (ad 0)), (2, .ref h), (3, .ref ho), (4, .int i)]) hx hb dL_law_419 hl (by decide) rfl (fun ls hl => ?_)
  refine lv_aload_n hx hb dL_law_421 rfl (lv_at hl 4 rfl) ?_
  refine lw_MR (o := fX10_thrown M1) (r0 := mTh M1) rfl (As := []) (rest := []) ⟨hx, hb, hml, hown, hts⟩ (cX10_thrownM l D cy h a H.size M1) (cwV 0 hts gL_law_X10_thrown rfl rfl rfl hlX10_thrown ⟨Nat.le_of_ble_eq_true rfl, Nat.le_of_ble_eq_true rfl⟩) hK hP hD hS hA rfl hl.1 rfl (Nat.le_of_ble_eq_true rfl) dL_law_422 hf (fun H locs hP hD hS => ?_)
  refine lv_iload hx hb dL_law_425 (lv_at hl 1 rfl) ?_
  refine lv_icmp_eq (tgt := 432) hx hb dL_law_427 (by decide) (fun _ => ?_) (fun c => absurd hq1.symm c)
  refine lv_iload hx hb dL_law_432 (lv_at hl 1 rfl) ?_
  refine lv_if_ne (tgt := 449) hx hb dL_law_434 (by decide) (fun c434 => ?_) (fun c434 => ?_)
  · refine lv_goto (tgt := 2200) hx hb dL_law_449 (by decide) ?_
    exact kk d0 hd0 F2 M1 f2 H locs ls hAl2 (lv_sub hl [2, 3, 4, 5, 6] rfl) hP hD hS
  · refine lv_aload_n hx hb dL_law_437 rfl (lv_at hl 5 rfl) ?_
    refine lv_iconst (v := 0) hx hb dL_law_438 rfl ?_
    refine va_lald (ws := wLW cy ad hh aa pa h a ho F2 M1 f2) (cA := cy 3) (n := 1) (f := f2) hx hb hK.1 hP 0 3 rfl rfl (inb_vp (by decide)) dL_law_439 ?_
    refine lv_iload hx hb dL_law_440 (lv_at hl 0 rfl) ?_
    refine lv_i2l (v := b1.toInt64) hx hb dL_law_442 rfl ?_
    refine W.lcmp hx hb dL_law_443 ?_
    refine lv_if_eq (tgt := 449) hx hb dL_law_444 (by decide) (fun _ => ?_) (fun c => absurd (by rw [hq3 c434]; exact lg_cmp_self _) c)
    refine lv_goto (tgt := 2200) hx hb dL_law_449 (by decide) ?_
    exact kk d0 hd0 F2 M1 f2 H locs ls hAl2 (lv_sub hl [2, 3, 4, 5, 6] rfl) hP hD hS
set_option maxHeartbeats 4000000 in
set_option maxRecDepth 100000 in
theorem lk7 (l : Launch) (hfl : l.stackTraces = false) : lGo l 452 := by
  intro p e s m args below meth c D cy A za zv ad hh aa pa h a ho b L xs d0 E0 hd0 B F M f i hAl hB hi1 hi2 hi3 H locs ls cells slots Q hf hl hP hD hS kk
  obtain ⟨hx, hb, hml, hown, hts, hK, hA, hZ, hN, hX, hbl, hbA⟩ := E0.draw d0
  refine lv_aload_n hx hb dL_law_452 rfl (lv_at hl 1 rfl) ?_
  refine lv_aload_n hx hb dL_law_453 rfl (lv_at hl 0 rfl) ?_
  refine lv_iload hx hb dL_law_454 (lv_at hl 4 rfl) ?_
  refine lv_iconst (v := 1) hx hb dL_law_456 rfl ?_
  refine lv_iadd hx hb dL_law_457 ?_
  refine va_sld hx hb hX hbl hbA hS hi1 dL_law_458 ?_
  refine lv_aload_n hx hb dL_law_459 rfl (lv_at hl 3 rfl) ?_
  obtain ⟨F1, M1, b1, hAl1, e2, h1⟩ := lz_1 (c_setting hAl ((xs (i + 1).toNatClampNeg))) f
  have hAl2 := hAl1.mono (B' := B + 16400) (by omega) (by omega)
  refine lw_H (As := [.ref (ad 0), .int (xs (i + 1).toNatClampNeg), .ref ho]) (rest := []) ⟨hx, hb, hml, hown, hts⟩ (cL_settingM l hfl D cy za zv ad hh aa pa ho H.size F f ((xs (i + 1).toNatClampNeg)) _ h1) (vx_cwSW 3 hts gL_law_L_setting rfl rfl rfl hlL_setting ⟨Nat.le_of_ble_eq_true rfl, Nat.le_of_ble_eq_true rfl⟩) hN hZ hK hP hD hS hA rfl hl.1 rfl (Nat.le_of_ble_eq_true rfl) dL_law_460 hf (fun r q H locs hq hP hD hS => ?_)
  obtain ⟨F2, f2⟩ := q
  obtain ⟨hq1, hq2, hq3⟩ := hq
  replace hq2 : F2 = F1 := hq2
  subst hq2
  replace hq3 : r = 0 → f2 (Int32.toNatClampNeg 0) = b1.toInt64 := hq3
  replace hP : va_P D vwCl (wLW cy ad hh aa pa h a ho F2 M f2) H := hP
  replace hD : va_D A (wLW cy ad hh aa pa h a ho F2 M f2) := hD
  refine lv_istore (lv' := [(5, .int r), (0, .ref b), (1, .ref (ad 0)), (2, .ref h), (3, .ref ho), (4, .int i)]) hx hb dL_law_463 hl (by decide) rfl (fun ls hl => ?_)
  refine lv_aload_n hx hb dL_law_465 rfl (lv_at hl 3 rfl) ?_
  refine lv_aload_n hx hb dL_law_466 rfl (lv_at hl 1 rfl) ?_
  refine lv_iload hx hb dL_law_467 (lv_at hl 5 rfl) ?_
  refine lv_iconst (v := 1) hx hb dL_law_469 rfl ?_
  refine lv_iadd hx hb dL_law_470 ?_
  refine va_sld hx hb hX hbl hbA hS hi1 dL_law_471 ?_
  refine lw_MI e2 (As := [.int (xs (i + 1).toNatClampNeg)]) (rest := []) ⟨hx, hb, hml, hown, hts⟩ (cX10_settingM l D cy h a H.size M ((xs (i + 1).toNatClampNeg))) (cwV 1 hts gL_law_X10_setting rfl rfl rfl hlX10_setting ⟨Nat.le_of_ble_eq_true rfl, Nat.le_of_ble_eq_true rfl⟩) hK hP hD hS hA rfl hl.1 rfl (Nat.le_of_ble_eq_true rfl) dL_law_472 hf (fun H locs hP hD hS => ?_)
  refine lv_istore (lv' := [(6, .int b1), (5, .int r), (0, .ref b), (1, .ref (ad 0)), (2, .ref h), (3, .ref ho), (4, .int i)]) hx hb dL_law_475 hl (by decide) rfl (fun ls hl => ?_)
  refine lv_aload_n hx hb dL_law_477 rfl (lv_at hl 4 rfl) ?_
  refine lw_MR (o := fX10_thrown M1) (r0 := mTh M1) rfl (As := []) (rest := []) ⟨hx, hb, hml, hown, hts⟩ (cX10_thrownM l D cy h a H.size M1) (cwV 0 hts gL_law_X10_thrown rfl rfl rfl hlX10_thrown ⟨Nat.le_of_ble_eq_true rfl, Nat.le_of_ble_eq_true rfl⟩) hK hP hD hS hA rfl hl.1 rfl (Nat.le_of_ble_eq_true rfl) dL_law_478 hf (fun H locs hP hD hS => ?_)
  refine lv_iload hx hb dL_law_481 (lv_at hl 1 rfl) ?_
  refine lv_icmp_eq (tgt := 488) hx hb dL_law_483 (by decide) (fun _ => ?_) (fun c => absurd hq1.symm c)
  refine lv_iload hx hb dL_law_488 (lv_at hl 1 rfl) ?_
  refine lv_if_ne (tgt := 505) hx hb dL_law_490 (by decide) (fun c490 => ?_) (fun c490 => ?_)
  · refine lv_goto (tgt := 2200) hx hb dL_law_505 (by decide) ?_
    exact kk d0 hd0 F2 M1 f2 H locs ls hAl2 (lv_sub hl [2, 3, 4, 5, 6] rfl) hP hD hS
  · refine lv_aload_n hx hb dL_law_493 rfl (lv_at hl 5 rfl) ?_
    refine lv_iconst (v := 0) hx hb dL_law_494 rfl ?_
    refine va_lald (ws := wLW cy ad hh aa pa h a ho F2 M1 f2) (cA := cy 3) (n := 1) (f := f2) hx hb hK.1 hP 0 3 rfl rfl (inb_vp (by decide)) dL_law_495 ?_
    refine lv_iload hx hb dL_law_496 (lv_at hl 0 rfl) ?_
    refine lv_i2l (v := b1.toInt64) hx hb dL_law_498 rfl ?_
    refine W.lcmp hx hb dL_law_499 ?_
    refine lv_if_eq (tgt := 505) hx hb dL_law_500 (by decide) (fun _ => ?_) (fun c => absurd (by rw [hq3 c490]; exact lg_cmp_self _) c)
    refine lv_goto (tgt := 2200) hx hb dL_law_505 (by decide) ?_
    exact kk d0 hd0 F2 M1 f2 H locs ls hAl2 (lv_sub hl [2, 3, 4, 5, 6] rfl) hP hD hS
set_option maxHeartbeats 4000000 in
set_option maxRecDepth 100000 in
theorem lk8 (l : Launch) (hfl : l.stackTraces = false) : lGo l 508 := by
  intro p e s m args below meth c D cy A za zv ad hh aa pa h a ho b L xs d0 E0 hd0 B F M f i hAl hB hi1 hi2 hi3 H locs ls cells slots Q hf hl hP hD hS kk
  obtain ⟨hx, hb, hml, hown, hts, hK, hA, hZ, hN, hX, hbl, hbA⟩ := E0.draw d0
  refine lv_aload_n hx hb dL_law_508 rfl (lv_at hl 1 rfl) ?_
  refine lv_aload_n hx hb dL_law_509 rfl (lv_at hl 0 rfl) ?_
  refine lv_iload hx hb dL_law_510 (lv_at hl 4 rfl) ?_
  refine lv_iconst (v := 1) hx hb dL_law_512 rfl ?_
  refine lv_iadd hx hb dL_law_513 ?_
  refine va_sld hx hb hX hbl hbA hS hi1 dL_law_514 ?_
  refine lv_aload_n hx hb dL_law_515 rfl (lv_at hl 0 rfl) ?_
  refine lv_iload hx hb dL_law_516 (lv_at hl 4 rfl) ?_
  refine lv_iconst (v := 2) hx hb dL_law_518 rfl ?_
  refine lv_iadd hx hb dL_law_519 ?_
  refine va_sld hx hb hX hbl hbA hS hi2 dL_law_520 ?_
  refine lv_aload_n hx hb dL_law_521 rfl (lv_at hl 3 rfl) ?_
  obtain ⟨F1, M1, b1, hAl1, e2, h1⟩ := lz_2 (c_kind hAl ((xs (i + 1).toNatClampNeg)) ((xs (i + 2).toNatClampNeg))) f
  have hAl2 := hAl1.mono (B' := B + 16400) (by omega) (by omega)
  refine lw_H (As := [.ref (ad 0), .int (xs (i + 1).toNatClampNeg), .int (xs (i + 2).toNatClampNeg), .ref ho]) (rest := []) ⟨hx, hb, hml, hown, hts⟩ (cL_kindM l hfl D cy za zv ad hh aa pa ho H.size F f ((xs (i + 1).toNatClampNeg)) ((xs (i + 2).toNatClampNeg)) _ h1) (vx_cwSW 4 hts gL_law_L_kind rfl rfl rfl hlL_kind ⟨Nat.le_of_ble_eq_true rfl, Nat.le_of_ble_eq_true rfl⟩) hN hZ hK hP hD hS hA rfl hl.1 rfl (Nat.le_of_ble_eq_true rfl) dL_law_522 hf (fun r q H locs hq hP hD hS => ?_)
  obtain ⟨F2, f2⟩ := q
  obtain ⟨hq1, hq2, hq3⟩ := hq
  replace hq2 : F2 = F1 := hq2
  subst hq2
  replace hq3 : r = 0 → f2 (Int32.toNatClampNeg 0) = b1.toInt64 := hq3
  replace hP : va_P D vwCl (wLW cy ad hh aa pa h a ho F2 M f2) H := hP
  replace hD : va_D A (wLW cy ad hh aa pa h a ho F2 M f2) := hD
  refine lv_istore (lv' := [(5, .int r), (0, .ref b), (1, .ref (ad 0)), (2, .ref h), (3, .ref ho), (4, .int i)]) hx hb dL_law_525 hl (by decide) rfl (fun ls hl => ?_)
  refine lv_aload_n hx hb dL_law_527 rfl (lv_at hl 3 rfl) ?_
  refine lv_aload_n hx hb dL_law_528 rfl (lv_at hl 1 rfl) ?_
  refine lv_iload hx hb dL_law_529 (lv_at hl 5 rfl) ?_
  refine lv_iconst (v := 1) hx hb dL_law_531 rfl ?_
  refine lv_iadd hx hb dL_law_532 ?_
  refine va_sld hx hb hX hbl hbA hS hi1 dL_law_533 ?_
  refine lv_aload_n hx hb dL_law_534 rfl (lv_at hl 1 rfl) ?_
  refine lv_iload hx hb dL_law_535 (lv_at hl 5 rfl) ?_
  refine lv_iconst (v := 2) hx hb dL_law_537 rfl ?_
  refine lv_iadd hx hb dL_law_538 ?_
  refine va_sld hx hb hX hbl hbA hS hi2 dL_law_539 ?_
  refine lw_MI e2 (As := [.int (xs (i + 1).toNatClampNeg), .int (xs (i + 2).toNatClampNeg)]) (rest := []) ⟨hx, hb, hml, hown, hts⟩ (cX10_kindM l D cy h a H.size M ((xs (i + 1).toNatClampNeg)) ((xs (i + 2).toNatClampNeg))) (cwV 2 hts gL_law_X10_kind rfl rfl rfl hlX10_kind ⟨Nat.le_of_ble_eq_true rfl, Nat.le_of_ble_eq_true rfl⟩) hK hP hD hS hA rfl hl.1 rfl (Nat.le_of_ble_eq_true rfl) dL_law_540 hf (fun H locs hP hD hS => ?_)
  refine lv_istore (lv' := [(6, .int b1), (5, .int r), (0, .ref b), (1, .ref (ad 0)), (2, .ref h), (3, .ref ho), (4, .int i)]) hx hb dL_law_543 hl (by decide) rfl (fun ls hl => ?_)
  refine lv_aload_n hx hb dL_law_545 rfl (lv_at hl 4 rfl) ?_
  refine lw_MR (o := fX10_thrown M1) (r0 := mTh M1) rfl (As := []) (rest := []) ⟨hx, hb, hml, hown, hts⟩ (cX10_thrownM l D cy h a H.size M1) (cwV 0 hts gL_law_X10_thrown rfl rfl rfl hlX10_thrown ⟨Nat.le_of_ble_eq_true rfl, Nat.le_of_ble_eq_true rfl⟩) hK hP hD hS hA rfl hl.1 rfl (Nat.le_of_ble_eq_true rfl) dL_law_546 hf (fun H locs hP hD hS => ?_)
  refine lv_iload hx hb dL_law_549 (lv_at hl 1 rfl) ?_
  refine lv_icmp_eq (tgt := 556) hx hb dL_law_551 (by decide) (fun _ => ?_) (fun c => absurd hq1.symm c)
  refine lv_iload hx hb dL_law_556 (lv_at hl 1 rfl) ?_
  refine lv_if_ne (tgt := 573) hx hb dL_law_558 (by decide) (fun c558 => ?_) (fun c558 => ?_)
  · refine lv_goto (tgt := 2200) hx hb dL_law_573 (by decide) ?_
    exact kk d0 hd0 F2 M1 f2 H locs ls hAl2 (lv_sub hl [2, 3, 4, 5, 6] rfl) hP hD hS
  · refine lv_aload_n hx hb dL_law_561 rfl (lv_at hl 5 rfl) ?_
    refine lv_iconst (v := 0) hx hb dL_law_562 rfl ?_
    refine va_lald (ws := wLW cy ad hh aa pa h a ho F2 M1 f2) (cA := cy 3) (n := 1) (f := f2) hx hb hK.1 hP 0 3 rfl rfl (inb_vp (by decide)) dL_law_563 ?_
    refine lv_iload hx hb dL_law_564 (lv_at hl 0 rfl) ?_
    refine lv_i2l (v := b1.toInt64) hx hb dL_law_566 rfl ?_
    refine W.lcmp hx hb dL_law_567 ?_
    refine lv_if_eq (tgt := 573) hx hb dL_law_568 (by decide) (fun _ => ?_) (fun c => absurd (by rw [hq3 c558]; exact lg_cmp_self _) c)
    refine lv_goto (tgt := 2200) hx hb dL_law_573 (by decide) ?_
    exact kk d0 hd0 F2 M1 f2 H locs ls hAl2 (lv_sub hl [2, 3, 4, 5, 6] rfl) hP hD hS
set_option maxHeartbeats 4000000 in
set_option maxRecDepth 100000 in
theorem lk9 (l : Launch) (hfl : l.stackTraces = false) : lGo l 576 := by
  intro p e s m args below meth c D cy A za zv ad hh aa pa h a ho b L xs d0 E0 hd0 B F M f i hAl hB hi1 hi2 hi3 H locs ls cells slots Q hf hl hP hD hS kk
  obtain ⟨hx, hb, hml, hown, hts, hK, hA, hZ, hN, hX, hbl, hbA⟩ := E0.draw d0
  refine lv_aload_n hx hb dL_law_576 rfl (lv_at hl 1 rfl) ?_
  refine lv_aload_n hx hb dL_law_577 rfl (lv_at hl 0 rfl) ?_
  refine lv_iload hx hb dL_law_578 (lv_at hl 4 rfl) ?_
  refine lv_iconst (v := 1) hx hb dL_law_580 rfl ?_
  refine lv_iadd hx hb dL_law_581 ?_
  refine va_sld hx hb hX hbl hbA hS hi1 dL_law_582 ?_
  refine lv_aload_n hx hb dL_law_583 rfl (lv_at hl 0 rfl) ?_
  refine lv_iload hx hb dL_law_584 (lv_at hl 4 rfl) ?_
  refine lv_iconst (v := 2) hx hb dL_law_586 rfl ?_
  refine lv_iadd hx hb dL_law_587 ?_
  refine va_sld hx hb hX hbl hbA hS hi2 dL_law_588 ?_
  refine lv_aload_n hx hb dL_law_589 rfl (lv_at hl 3 rfl) ?_
  obtain ⟨F1, M1, b1, hAl1, e2, h1⟩ := lz_2 (c_car hAl ((xs (i + 1).toNatClampNeg)) ((xs (i + 2).toNatClampNeg))) f
  have hAl2 := hAl1.mono (B' := B + 16400) (by omega) (by omega)
  refine lw_H (As := [.ref (ad 0), .int (xs (i + 1).toNatClampNeg), .int (xs (i + 2).toNatClampNeg), .ref ho]) (rest := []) ⟨hx, hb, hml, hown, hts⟩ (cL_carM l hfl D cy za zv ad hh aa pa ho H.size F f ((xs (i + 1).toNatClampNeg)) ((xs (i + 2).toNatClampNeg)) _ h1) (vx_cwSW 4 hts gL_law_L_car rfl rfl rfl hlL_car ⟨Nat.le_of_ble_eq_true rfl, Nat.le_of_ble_eq_true rfl⟩) hN hZ hK hP hD hS hA rfl hl.1 rfl (Nat.le_of_ble_eq_true rfl) dL_law_590 hf (fun r q H locs hq hP hD hS => ?_)
  obtain ⟨F2, f2⟩ := q
  obtain ⟨hq1, hq2, hq3⟩ := hq
  replace hq2 : F2 = F1 := hq2
  subst hq2
  replace hq3 : r = 0 → f2 (Int32.toNatClampNeg 0) = b1.toInt64 := hq3
  replace hP : va_P D vwCl (wLW cy ad hh aa pa h a ho F2 M f2) H := hP
  replace hD : va_D A (wLW cy ad hh aa pa h a ho F2 M f2) := hD
  refine lv_istore (lv' := [(5, .int r), (0, .ref b), (1, .ref (ad 0)), (2, .ref h), (3, .ref ho), (4, .int i)]) hx hb dL_law_593 hl (by decide) rfl (fun ls hl => ?_)
  refine lv_aload_n hx hb dL_law_595 rfl (lv_at hl 3 rfl) ?_
  refine lv_aload_n hx hb dL_law_596 rfl (lv_at hl 1 rfl) ?_
  refine lv_iload hx hb dL_law_597 (lv_at hl 5 rfl) ?_
  refine lv_iconst (v := 1) hx hb dL_law_599 rfl ?_
  refine lv_iadd hx hb dL_law_600 ?_
  refine va_sld hx hb hX hbl hbA hS hi1 dL_law_601 ?_
  refine lv_aload_n hx hb dL_law_602 rfl (lv_at hl 1 rfl) ?_
  refine lv_iload hx hb dL_law_603 (lv_at hl 5 rfl) ?_
  refine lv_iconst (v := 2) hx hb dL_law_605 rfl ?_
  refine lv_iadd hx hb dL_law_606 ?_
  refine va_sld hx hb hX hbl hbA hS hi2 dL_law_607 ?_
  refine lw_MI e2 (As := [.int (xs (i + 1).toNatClampNeg), .int (xs (i + 2).toNatClampNeg)]) (rest := []) ⟨hx, hb, hml, hown, hts⟩ (cX10_carM l D cy h a H.size M ((xs (i + 1).toNatClampNeg)) ((xs (i + 2).toNatClampNeg))) (cwV 2 hts gL_law_X10_car rfl rfl rfl hlX10_car ⟨Nat.le_of_ble_eq_true rfl, Nat.le_of_ble_eq_true rfl⟩) hK hP hD hS hA rfl hl.1 rfl (Nat.le_of_ble_eq_true rfl) dL_law_608 hf (fun H locs hP hD hS => ?_)
  refine lv_istore (lv' := [(6, .int b1), (5, .int r), (0, .ref b), (1, .ref (ad 0)), (2, .ref h), (3, .ref ho), (4, .int i)]) hx hb dL_law_611 hl (by decide) rfl (fun ls hl => ?_)
  refine lv_aload_n hx hb dL_law_613 rfl (lv_at hl 4 rfl) ?_
  refine lw_MR (o := fX10_thrown M1) (r0 := mTh M1) rfl (As := []) (rest := []) ⟨hx, hb, hml, hown, hts⟩ (cX10_thrownM l D cy h a H.size M1) (cwV 0 hts gL_law_X10_thrown rfl rfl rfl hlX10_thrown ⟨Nat.le_of_ble_eq_true rfl, Nat.le_of_ble_eq_true rfl⟩) hK hP hD hS hA rfl hl.1 rfl (Nat.le_of_ble_eq_true rfl) dL_law_614 hf (fun H locs hP hD hS => ?_)
  refine lv_iload hx hb dL_law_617 (lv_at hl 1 rfl) ?_
  refine lv_icmp_eq (tgt := 624) hx hb dL_law_619 (by decide) (fun _ => ?_) (fun c => absurd hq1.symm c)
  refine lv_iload hx hb dL_law_624 (lv_at hl 1 rfl) ?_
  refine lv_if_ne (tgt := 641) hx hb dL_law_626 (by decide) (fun c626 => ?_) (fun c626 => ?_)
  · refine lv_goto (tgt := 2200) hx hb dL_law_641 (by decide) ?_
    exact kk d0 hd0 F2 M1 f2 H locs ls hAl2 (lv_sub hl [2, 3, 4, 5, 6] rfl) hP hD hS
  · refine lv_aload_n hx hb dL_law_629 rfl (lv_at hl 5 rfl) ?_
    refine lv_iconst (v := 0) hx hb dL_law_630 rfl ?_
    refine va_lald (ws := wLW cy ad hh aa pa h a ho F2 M1 f2) (cA := cy 3) (n := 1) (f := f2) hx hb hK.1 hP 0 3 rfl rfl (inb_vp (by decide)) dL_law_631 ?_
    refine lv_iload hx hb dL_law_632 (lv_at hl 0 rfl) ?_
    refine lv_i2l (v := b1.toInt64) hx hb dL_law_634 rfl ?_
    refine W.lcmp hx hb dL_law_635 ?_
    refine lv_if_eq (tgt := 641) hx hb dL_law_636 (by decide) (fun _ => ?_) (fun c => absurd (by rw [hq3 c626]; exact lg_cmp_self _) c)
    refine lv_goto (tgt := 2200) hx hb dL_law_641 (by decide) ?_
    exact kk d0 hd0 F2 M1 f2 H locs ls hAl2 (lv_sub hl [2, 3, 4, 5, 6] rfl) hP hD hS
set_option maxHeartbeats 4000000 in
set_option maxRecDepth 100000 in
theorem lk10 (l : Launch) (hfl : l.stackTraces = false) : lGo l 644 := by
  intro p e s m args below meth c D cy A za zv ad hh aa pa h a ho b L xs d0 E0 hd0 B F M f i hAl hB hi1 hi2 hi3 H locs ls cells slots Q hf hl hP hD hS kk
  obtain ⟨hx, hb, hml, hown, hts, hK, hA, hZ, hN, hX, hbl, hbA⟩ := E0.draw d0
  have hf0 : cells ≤ room_1.cells ∧ slots ≤ room_1.slots := ⟨Nat.le_trans (Nat.le_add_right _ _) hf.1, Nat.le_trans (Nat.le_add_right _ _) hf.2⟩
  refine lv_aload_n hx hb dL_law_644 rfl (lv_at hl 1 rfl) ?_
  refine lv_aload_n hx hb dL_law_645 rfl (lv_at hl 0 rfl) ?_
  refine lv_iload hx hb dL_law_646 (lv_at hl 4 rfl) ?_
  refine lv_iconst (v := 1) hx hb dL_law_648 rfl ?_
  refine lv_iadd hx hb dL_law_649 ?_
  refine va_sld hx hb hX hbl hbA hS hi1 dL_law_650 ?_
  obtain ⟨r1, M1, e1, e2, hAl1⟩ := c_queued hAl ((xs (i + 1).toNatClampNeg))
  have hAl2 := hAl1.mono (B' := B + 16400) (by omega) (by omega)
  refine lw_XR e1 (As := [.int (xs (i + 1).toNatClampNeg)]) (rest := []) ⟨hx, hb, hml, hown, hts⟩ (cX9_queuedM l D cy ad hh aa pa H.size F ((xs (i + 1).toNatClampNeg))) (cwV 1 hts gL_law_X9_queued rfl rfl rfl hlX9_queued ⟨Nat.le_of_ble_eq_true rfl, Nat.le_of_ble_eq_true rfl⟩) hK hP hD hS hA rfl hl.1 rfl (Nat.le_of_ble_eq_true rfl) dL_law_651 hf0 (fun H locs hP hD hS => ?_)
  refine lv_aload_n hx hb dL_law_654 rfl (lv_at hl 2 rfl) ?_
  refine lv_aload_n hx hb dL_law_655 rfl (lv_at hl 0 rfl) ?_
  refine lv_iload hx hb dL_law_656 (lv_at hl 4 rfl) ?_
  refine lv_iconst (v := 1) hx hb dL_law_658 rfl ?_
  refine lv_iadd hx hb dL_law_659 ?_
  refine va_sld hx hb hX hbl hbA hS hi1 dL_law_660 ?_
  refine lw_MI e2 (As := [.int (xs (i + 1).toNatClampNeg)]) (rest := [.int r1]) ⟨hx, hb, hml, hown, hts⟩ (cX10_queuedM l D cy h a H.size M ((xs (i + 1).toNatClampNeg))) (cwV 1 hts gL_law_X10_queued rfl rfl rfl hlX10_queued ⟨Nat.le_of_ble_eq_true rfl, Nat.le_of_ble_eq_true rfl⟩) hK hP hD hS hA rfl hl.1 rfl (Nat.le_of_ble_eq_true rfl) dL_law_661 hf0 (fun H locs hP hD hS => ?_)
  refine lv_icmp_eq (tgt := 2200) hx hb dL_law_664 (by decide) (fun _ => ?_) (fun c => absurd rfl c)
  refine W.widen (k := cells + 1) (n := slots + 6) (Nat.le_add_right _ _) (Nat.le_add_right _ _) ?_
  exact kk d0 hd0 F M1 f H locs ls hAl2 (lv_sub hl [0, 1, 2, 3, 4] rfl) hP hD hS
set_option maxHeartbeats 4000000 in
set_option maxRecDepth 100000 in
theorem lk11 (l : Launch) (hfl : l.stackTraces = false) : lGo l 669 := by
  intro p e s m args below meth c D cy A za zv ad hh aa pa h a ho b L xs d0 E0 hd0 B F M f i hAl hB hi1 hi2 hi3 H locs ls cells slots Q hf hl hP hD hS kk
  obtain ⟨hx, hb, hml, hown, hts, hK, hA, hZ, hN, hX, hbl, hbA⟩ := E0.draw d0
  refine lv_aload_n hx hb dL_law_669 rfl (lv_at hl 1 rfl) ?_
  refine lv_aload_n hx hb dL_law_670 rfl (lv_at hl 0 rfl) ?_
  refine lv_iload hx hb dL_law_671 (lv_at hl 4 rfl) ?_
  refine lv_iconst (v := 1) hx hb dL_law_673 rfl ?_
  refine lv_iadd hx hb dL_law_674 ?_
  refine va_sld hx hb hX hbl hbA hS hi1 dL_law_675 ?_
  refine lv_aload_n hx hb dL_law_676 rfl (lv_at hl 0 rfl) ?_
  refine lv_iload hx hb dL_law_677 (lv_at hl 4 rfl) ?_
  refine lv_iconst (v := 2) hx hb dL_law_679 rfl ?_
  refine lv_iadd hx hb dL_law_680 ?_
  refine va_sld hx hb hX hbl hbA hS hi2 dL_law_681 ?_
  refine lv_aload_n hx hb dL_law_682 rfl (lv_at hl 3 rfl) ?_
  obtain ⟨F1, M1, b1, hAl1, e2, h1⟩ := lz_1 (c_standing hAl ((xs (i + 1).toNatClampNeg)) ((xs (i + 2).toNatClampNeg))) f
  have hAl2 := hAl1.mono (B' := B + 16400) (by omega) (by omega)
  refine lw_H (As := [.ref (ad 0), .int (xs (i + 1).toNatClampNeg), .int (xs (i + 2).toNatClampNeg), .ref ho]) (rest := []) ⟨hx, hb, hml, hown, hts⟩ (cL_standingM l hfl D cy za zv ad hh aa pa ho H.size F f ((xs (i + 1).toNatClampNeg)) ((xs (i + 2).toNatClampNeg)) _ h1) (vx_cwSW 4 hts gL_law_L_standing rfl rfl rfl hlL_standing ⟨Nat.le_of_ble_eq_true rfl, Nat.le_of_ble_eq_true rfl⟩) hN hZ hK hP hD hS hA rfl hl.1 rfl (Nat.le_of_ble_eq_true rfl) dL_law_683 hf (fun r q H locs hq hP hD hS => ?_)
  obtain ⟨F2, f2⟩ := q
  obtain ⟨hq1, hq2, hq3⟩ := hq
  replace hq2 : F2 = F1 := hq2
  subst hq2
  replace hq3 : r = 0 → f2 (Int32.toNatClampNeg 0) = b1.toInt64 := hq3
  replace hP : va_P D vwCl (wLW cy ad hh aa pa h a ho F2 M f2) H := hP
  replace hD : va_D A (wLW cy ad hh aa pa h a ho F2 M f2) := hD
  refine lv_istore (lv' := [(5, .int r), (0, .ref b), (1, .ref (ad 0)), (2, .ref h), (3, .ref ho), (4, .int i)]) hx hb dL_law_686 hl (by decide) rfl (fun ls hl => ?_)
  refine lv_aload_n hx hb dL_law_688 rfl (lv_at hl 3 rfl) ?_
  refine lv_aload_n hx hb dL_law_689 rfl (lv_at hl 1 rfl) ?_
  refine lv_iload hx hb dL_law_690 (lv_at hl 5 rfl) ?_
  refine lv_iconst (v := 1) hx hb dL_law_692 rfl ?_
  refine lv_iadd hx hb dL_law_693 ?_
  refine va_sld hx hb hX hbl hbA hS hi1 dL_law_694 ?_
  refine lv_aload_n hx hb dL_law_695 rfl (lv_at hl 1 rfl) ?_
  refine lv_iload hx hb dL_law_696 (lv_at hl 5 rfl) ?_
  refine lv_iconst (v := 2) hx hb dL_law_698 rfl ?_
  refine lv_iadd hx hb dL_law_699 ?_
  refine va_sld hx hb hX hbl hbA hS hi2 dL_law_700 ?_
  refine lw_MI e2 (As := [.int (xs (i + 1).toNatClampNeg), .int (xs (i + 2).toNatClampNeg)]) (rest := []) ⟨hx, hb, hml, hown, hts⟩ (cX10_standingM l D cy h a H.size M ((xs (i + 1).toNatClampNeg)) ((xs (i + 2).toNatClampNeg))) (cwV 2 hts gL_law_X10_standing rfl rfl rfl hlX10_standing ⟨Nat.le_of_ble_eq_true rfl, Nat.le_of_ble_eq_true rfl⟩) hK hP hD hS hA rfl hl.1 rfl (Nat.le_of_ble_eq_true rfl) dL_law_701 hf (fun H locs hP hD hS => ?_)
  refine lv_istore (lv' := [(6, .int b1), (5, .int r), (0, .ref b), (1, .ref (ad 0)), (2, .ref h), (3, .ref ho), (4, .int i)]) hx hb dL_law_704 hl (by decide) rfl (fun ls hl => ?_)
  refine lv_aload_n hx hb dL_law_706 rfl (lv_at hl 4 rfl) ?_
  refine lw_MR (o := fX10_thrown M1) (r0 := mTh M1) rfl (As := []) (rest := []) ⟨hx, hb, hml, hown, hts⟩ (cX10_thrownM l D cy h a H.size M1) (cwV 0 hts gL_law_X10_thrown rfl rfl rfl hlX10_thrown ⟨Nat.le_of_ble_eq_true rfl, Nat.le_of_ble_eq_true rfl⟩) hK hP hD hS hA rfl hl.1 rfl (Nat.le_of_ble_eq_true rfl) dL_law_707 hf (fun H locs hP hD hS => ?_)
  refine lv_iload hx hb dL_law_710 (lv_at hl 1 rfl) ?_
  refine lv_icmp_eq (tgt := 717) hx hb dL_law_712 (by decide) (fun _ => ?_) (fun c => absurd hq1.symm c)
  refine lv_iload hx hb dL_law_717 (lv_at hl 1 rfl) ?_
  refine lv_if_ne (tgt := 734) hx hb dL_law_719 (by decide) (fun c719 => ?_) (fun c719 => ?_)
  · refine lv_goto (tgt := 2200) hx hb dL_law_734 (by decide) ?_
    exact kk d0 hd0 F2 M1 f2 H locs ls hAl2 (lv_sub hl [2, 3, 4, 5, 6] rfl) hP hD hS
  · refine lv_aload_n hx hb dL_law_722 rfl (lv_at hl 5 rfl) ?_
    refine lv_iconst (v := 0) hx hb dL_law_723 rfl ?_
    refine va_lald (ws := wLW cy ad hh aa pa h a ho F2 M1 f2) (cA := cy 3) (n := 1) (f := f2) hx hb hK.1 hP 0 3 rfl rfl (inb_vp (by decide)) dL_law_724 ?_
    refine lv_iload hx hb dL_law_725 (lv_at hl 0 rfl) ?_
    refine lv_i2l (v := b1.toInt64) hx hb dL_law_727 rfl ?_
    refine W.lcmp hx hb dL_law_728 ?_
    refine lv_if_eq (tgt := 734) hx hb dL_law_729 (by decide) (fun _ => ?_) (fun c => absurd (by rw [hq3 c719]; exact lg_cmp_self _) c)
    refine lv_goto (tgt := 2200) hx hb dL_law_734 (by decide) ?_
    exact kk d0 hd0 F2 M1 f2 H locs ls hAl2 (lv_sub hl [2, 3, 4, 5, 6] rfl) hP hD hS
