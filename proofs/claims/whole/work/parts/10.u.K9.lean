theorem hlX9_meanWait : yX9_meanWait.cls = RX9 ∧ yX9_meanWait.cls ≠ "java/lang/invoke/MethodHandle" ∧ yX9_meanWait.cls ≠ "java/lang/invoke/VarHandle" ∧ (parseMethodDescriptor yX9_meanWait.desc).map (fun d => d.parameters.length) = some 0 := by decide +kernel
theorem hlX9_fullness : yX9_fullness.cls = RX9 ∧ yX9_fullness.cls ≠ "java/lang/invoke/MethodHandle" ∧ yX9_fullness.cls ≠ "java/lang/invoke/VarHandle" ∧ (parseMethodDescriptor yX9_fullness.desc).map (fun d => d.parameters.length) = some 0 := by decide +kernel
theorem hlX10_meanWait : yX10_meanWait.cls = RX10 ∧ yX10_meanWait.cls ≠ "java/lang/invoke/MethodHandle" ∧ yX10_meanWait.cls ≠ "java/lang/invoke/VarHandle" ∧ (parseMethodDescriptor yX10_meanWait.desc).map (fun d => d.parameters.length) = some 0 := by decide +kernel
theorem hlX10_fullness : yX10_fullness.cls = RX10 ∧ yX10_fullness.cls ≠ "java/lang/invoke/MethodHandle" ∧ yX10_fullness.cls ≠ "java/lang/invoke/VarHandle" ∧ (parseMethodDescriptor yX10_fullness.desc).map (fun d => d.parameters.length) = some 0 := by decide +kernel
set_option maxHeartbeats 4000000 in
set_option maxRecDepth 100000 in
theorem lk29 (l : Launch) (hfl : l.stackTraces = false) : lGo l 1456 := by
  intro p e s m args below meth c D cy A za zv ad hh aa pa h a ho b L xs d0 E0 hd0 B F M f i hAl hB hi1 hi2 hi3 H locs ls cells slots Q hf hl hP hD hS kk
  obtain ⟨hx, hb, hml, hown, hts, hK, hA, -, -, -, -, -⟩ := E0.draw d0
  have hf0 : cells ≤ room_1.cells ∧ slots ≤ room_1.slots := ⟨Nat.le_trans (Nat.le_add_right _ _) hf.1, Nat.le_trans (Nat.le_add_right _ _) hf.2⟩
  have hAl2 : eAll (B + 16400) F (nTh M 0) := eAll.mono (M := nTh M 0) hAl (by omega) (by omega)
  refine lv_aload_n hx hb dL_law_1456 rfl (lv_at hl 1 rfl) ?_
  refine lw_Xd (rest := []) hd0 ⟨hx, hb, hml, hown, hts⟩ (cX9_meanWaitD l D cy ad hh aa pa H.size F (g := mSt M) hAl.1.1 hAl.2.1.2.1 hAl.2.1.2.2 (by omega)) (cwV 0 hts gL_law_X9_meanWait rfl rfl rfl hlX9_meanWait ⟨Nat.le_of_ble_eq_true rfl, Nat.le_of_ble_eq_true rfl⟩) hK hP hD hS hA hl.1 rfl (Nat.le_of_ble_eq_true rfl) dL_law_1457 hf0 (fun pv d1 H locs hd1 hpv hP hS => ?_)
  obtain ⟨-, -, -, hown1, hts1, hK1, hA1, -, -, -, -, -⟩ := E0.draw d1
  refine lv_dstore (lv' := [(5, .double pv), (0, .ref b), (1, .ref (ad 0)), (2, .ref h), (3, .ref ho), (4, .int i)]) hx hb dL_law_1460 hl (by decide) rfl (fun ls hl => ?_)
  refine lv_aload_n hx hb dL_law_1462 rfl (lv_at hl 3 rfl) ?_
  refine lw_Md (rest := []) (M' := nTh M 0) hd1 ⟨hx, hb, hml, hown1, hts1⟩ (cX10_meanWaitD l D cy h a H.size M hAl.2.1.2.1 hAl.2.1.2.2) (cwV 0 hts1 gL_law_X10_meanWait rfl rfl rfl hlX10_meanWait ⟨Nat.le_of_ble_eq_true rfl, Nat.le_of_ble_eq_true rfl⟩) hK1 hP hD hS hA1 hl.1 rfl (Nat.le_of_ble_eq_true rfl) dL_law_1463 hf0 (fun qv d2 H locs hd2 hqv hP hD hS => ?_)
  refine lv_dstore (lv' := [(7, .double qv), (5, .double pv), (0, .ref b), (1, .ref (ad 0)), (2, .ref h), (3, .ref ho), (4, .int i)]) hx hb dL_law_1466 hl (by decide) rfl (fun ls hl => ?_)
  have fin : W p l e room_1 (s.setDrawn d2) m args below meth c H locs cells slots Q (F0 m 1494 ls []) := by
    refine lv_goto (tgt := 2200) hx hb dL_law_1494 (by decide) ?_
    refine W.widen (k := cells + 1) (n := slots + 6) (Nat.le_add_right _ _) (Nat.le_add_right _ _) ?_
    exact kk d2 hd2 F (nTh M 0) f H locs ls hAl2 (lv_sub hl [2, 3, 4, 5, 6] rfl) hP hD hS
  refine lv_dload hx hb dL_law_1468 (lv_at hl 1 rfl) ?_
  refine lv_dload hx hb dL_law_1470 (lv_at hl 0 rfl) ?_
  refine lv_dcmp hx hb dL_law_1472 ?_
  refine lv_if_eq (tgt := 1494) hx hb dL_law_1473 (by decide) (fun _ => fin) (fun c9 => ?_)
  obtain ⟨cp, cq⟩ := fp_law hpv hqv c9
  refine lv_dload hx hb dL_law_1476 (lv_at hl 1 rfl) ?_
  refine lv_dload hx hb dL_law_1478 (lv_at hl 1 rfl) ?_
  refine lv_dcmp hx hb dL_law_1480 ?_
  refine lv_if_eq (tgt := 1492) hx hb dL_law_1481 (by decide) (fun c8 => absurd c8 cp) (fun _ => ?_)
  refine lv_dload hx hb dL_law_1484 (lv_at hl 0 rfl) ?_
  refine lv_dload hx hb dL_law_1486 (lv_at hl 0 rfl) ?_
  refine lv_dcmp hx hb dL_law_1488 ?_
  exact lv_if_ne (tgt := 1494) hx hb dL_law_1489 (by decide) (fun _ => fin) (fun c7 => absurd c7 cq)
set_option maxHeartbeats 4000000 in
set_option maxRecDepth 100000 in
theorem lk30 (l : Launch) (hfl : l.stackTraces = false) : lGo l 1497 := by
  intro p e s m args below meth c D cy A za zv ad hh aa pa h a ho b L xs d0 E0 hd0 B F M f i hAl hB hi1 hi2 hi3 H locs ls cells slots Q hf hl hP hD hS kk
  obtain ⟨hx, hb, hml, hown, hts, hK, hA, -, -, -, -, -⟩ := E0.draw d0
  have hf0 : cells ≤ room_1.cells ∧ slots ≤ room_1.slots := ⟨Nat.le_trans (Nat.le_add_right _ _) hf.1, Nat.le_trans (Nat.le_add_right _ _) hf.2⟩
  have hAl2 : eAll (B + 16400) F (nTh M 0) := eAll.mono (M := nTh M 0) hAl (by omega) (by omega)
  refine lv_aload_n hx hb dL_law_1497 rfl (lv_at hl 1 rfl) ?_
  refine lw_Xf (rest := []) hd0 ⟨hx, hb, hml, hown, hts⟩ (cX9_fullnessD l D cy ad hh aa pa H.size F (g := mSt M) hAl.1.1 hAl.1.2.1 hAl.2.1.1) (cwV 0 hts gL_law_X9_fullness rfl rfl rfl hlX9_fullness ⟨Nat.le_of_ble_eq_true rfl, Nat.le_of_ble_eq_true rfl⟩) hK hP hD hS hA hl.1 rfl (Nat.le_of_ble_eq_true rfl) dL_law_1498 hf0 (fun pr d1 H locs hd1 hpr hP hS => ?_)
  refine lv_f2d_any hd1 lw_bits hx hb dL_law_1501 (fun pv d2 halp hd2 => ?_)
  have hpv : alike64 pv (FP.f2d (fuQ (mSt M))) = true := fp_tr halp (fp_f2d hpr)
  obtain ⟨-, -, -, hown1, hts1, hK1, hA1, -, -, -, -, -⟩ := E0.draw d2
  refine lv_dstore (lv' := [(5, .double pv), (0, .ref b), (1, .ref (ad 0)), (2, .ref h), (3, .ref ho), (4, .int i)]) hx hb dL_law_1502 hl (by decide) rfl (fun ls hl => ?_)
  refine lv_aload_n hx hb dL_law_1504 rfl (lv_at hl 3 rfl) ?_
  refine lw_Mf (rest := []) (M' := nTh M 0) hd2 ⟨hx, hb, hml, hown1, hts1⟩ (cX10_fullnessD l D cy h a H.size M hAl.2.1.2.1.1) (cwV 0 hts1 gL_law_X10_fullness rfl rfl rfl hlX10_fullness ⟨Nat.le_of_ble_eq_true rfl, Nat.le_of_ble_eq_true rfl⟩) hK1 hP hD hS hA1 hl.1 rfl (Nat.le_of_ble_eq_true rfl) dL_law_1505 hf0 (fun qr d3 H locs hd3 hqr hP hD hS => ?_)
  refine lv_f2d_any hd3 lw_bits hx hb dL_law_1508 (fun qv d4 halq hd4 => ?_)
  have hqv : alike64 qv (FP.f2d (fuQ (mSt M))) = true := fp_tr halq (fp_f2d hqr)
  refine lv_dstore (lv' := [(7, .double qv), (5, .double pv), (0, .ref b), (1, .ref (ad 0)), (2, .ref h), (3, .ref ho), (4, .int i)]) hx hb dL_law_1509 hl (by decide) rfl (fun ls hl => ?_)
  have fin : W p l e room_1 (s.setDrawn d4) m args below meth c H locs cells slots Q (F0 m 1537 ls []) := by
    refine lv_goto (tgt := 2200) hx hb dL_law_1537 (by decide) ?_
    refine W.widen (k := cells + 1) (n := slots + 6) (Nat.le_add_right _ _) (Nat.le_add_right _ _) ?_
    exact kk d4 hd4 F (nTh M 0) f H locs ls hAl2 (lv_sub hl [2, 3, 4, 5, 6] rfl) hP hD hS
  refine lv_dload hx hb dL_law_1511 (lv_at hl 1 rfl) ?_
  refine lv_dload hx hb dL_law_1513 (lv_at hl 0 rfl) ?_
  refine lv_dcmp hx hb dL_law_1515 ?_
  refine lv_if_eq (tgt := 1537) hx hb dL_law_1516 (by decide) (fun _ => fin) (fun c9 => ?_)
  obtain ⟨cp, cq⟩ := fp_law hpv hqv c9
  refine lv_dload hx hb dL_law_1519 (lv_at hl 1 rfl) ?_
  refine lv_dload hx hb dL_law_1521 (lv_at hl 1 rfl) ?_
  refine lv_dcmp hx hb dL_law_1523 ?_
  refine lv_if_eq (tgt := 1535) hx hb dL_law_1524 (by decide) (fun c8 => absurd c8 cp) (fun _ => ?_)
  refine lv_dload hx hb dL_law_1527 (lv_at hl 0 rfl) ?_
  refine lv_dload hx hb dL_law_1529 (lv_at hl 0 rfl) ?_
  refine lv_dcmp hx hb dL_law_1531 ?_
  exact lv_if_ne (tgt := 1537) hx hb dL_law_1532 (by decide) (fun _ => fin) (fun c7 => absurd c7 cq)
