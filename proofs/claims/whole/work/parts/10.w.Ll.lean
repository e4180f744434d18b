/-! THE LAW's loop -/
theorem lw_msk (x : Int32) : 0 ≤ (x &&& 63).toInt ∧ (x &&& 63).toInt ≤ 63 := by
  have h : (x &&& 63).toBitVec.toNat ≤ 63 := by
    rw [Int32.toBitVec_and, BitVec.toNat_and]
    exact Nat.and_le_right
  have h2 : (x &&& 63).toInt = ((x &&& 63).toBitVec.toNat : Int) := by
    show (x &&& 63).toBitVec.toInt = _
    rw [BitVec.toInt_eq_toNat_of_lt (by omega)]
  omega
theorem lw_of4 : (Int32.ofInt 4).toInt = 4 := by decide
theorem lw_i4 {k : Nat} (h : k < 1000) : nI (4 * k) + Int32.ofInt 4 = nI (4 * (k + 1)) := by
  have h1 : (nI (4 * k)).toInt = ((4 * k : Nat) : Int) := qa_nI (by omega)
  have h2 : (nI (4 * (k + 1))).toInt = ((4 * (k + 1) : Nat) : Int) := qa_nI (by omega)
  refine qa_eq.mpr ?_
  rw [qa_add (by rw [h1, lw_of4]; omega) (by rw [h1, lw_of4]; omega), h1, h2, lw_of4]
  omega
theorem lw_ip {k L : Nat} {j : Int32} {d : Nat} (hj : j.toInt = (d : Int)) (hL : L ≤ 2048) (h : 4 * k + d < L) : vp_in (nI (4 * k) + j) L := by
  have h1 : (nI (4 * k)).toInt = ((4 * k : Nat) : Int) := qa_nI (by omega)
  have h2 : (nI (4 * k) + j).toInt = ((4 * k + d : Nat) : Int) := by
    rw [qa_add (by rw [h1, hj]; omega) (by rw [h1, hj]; omega), h1, hj]
    omega
  exact vp_in_iff.mpr ⟨by omega, by omega⟩
set_option maxHeartbeats 4000000 in
set_option maxRecDepth 100000 in
theorem law_loop {p : Program} {l : Launch} {e : Env} {s : State} {m : MethodId} {below : List Frame} {meth : Method} {c : Code} {D : va_G} {cy : Nat → ClassId} {za zv ad hh : Nat → Nat} {aa : Nat → Nat → Nat} {pa : Nat → Nat} {h : Nat} {a : Nat → Nat} {ho b L : Nat} {xs : Nat → Int32} (hfl : l.stackTraces = false) (hL : L ≤ 2048) (hr : meth.sig.returnType = ret) (hlocks : meth.locks = false) (E0 : lE D cy za zv (fun q : Nat => s.heap.size ≤ q) b L xs p s m #[Value.ref b] meth c) (h29 : lGo l 1456) (h30 : lGo l 1497) :
    ∀ (n k : Nat), 513 ≤ k + n → 4 * k ≤ 2048 → ∀ (d0 : Drawn), s.drawn.sameBut d0 lw_cs → ∀ (F : FS) (M : RS) (f : Nat → Int64) (H : Heap) (locs : List Loc) (ls : Array Slot), eAll (61000 + 16400 * (k : Int)) F M → lv_has ls 9 [(0, .ref b), (1, .ref (ad 0)), (2, .ref h), (3, .ref ho), (4, .int (nI (4 * k)))] → va_P D vwCl (wLW cy ad hh aa pa h a ho F M f) H → va_D (fun q : Nat => s.heap.size ≤ q) (wLW cy ad hh aa pa h a ho F M f) → va_S (fun q : Nat => s.heap.size ≤ q) s.heap H locs → W p l e room_1 (s.setDrawn d0) m #[Value.ref b] below meth c H locs (1000 + k) (20000 + 6 * k) (lw_Z below #[Value.ref b] s) (F0 m 23 ls []) := by
  intro n
  induction n with
  | zero =>
    intro k h1 h2
    exact absurd h2 (by omega)
  | succ n ih =>
    intro k hkn hk4 d0 hd0 F M f H locs ls hAl hl hP hD hS
    obtain ⟨hx, hb, hml, hown, hts, hK, hA, hZ, hN, hX, hbl, hbA⟩ := E0.draw d0
    have eL : (Int32.ofNat L - 4).toInt = (L : Int) - 4 := by
      have h1 : (Int32.ofNat L).toInt = (L : Int) := qa_nI (n := L) (by omega)
      rw [qa_sub (by rw [h1, qa_4]; omega) (by rw [h1, qa_4]; omega), h1, qa_4]
    have e4 : (nI (4 * k)).toInt = ((4 * k : Nat) : Int) := qa_nI (by omega)
    refine lv_iload hx hb dL_law_23 (lv_at hl 4 rfl) ?_
    refine lv_aload_n hx hb dL_law_25 rfl (lv_at hl 0 rfl) ?_
    refine va_slen hx hb hX hbl hbA hS dL_law_26 ?_
    refine lv_iconst (v := 4) hx hb dL_law_27 rfl ?_
    refine lv_isub hx hb dL_law_28 ?_
    refine lv_icmp_gt (tgt := 2206) hx hb dL_law_29 (by decide) (fun c29 => ?_) (fun c29 => ?_)
    · refine lv_iconst (v := 1) hx hb dL_law_2206 rfl ?_
      refine va_forget (fun q hq => hS.2.2 q hq) ?_
      refine W.widen (k := 601024) (n := 7293034) (by omega) (by omega) ?_
      exact lw_ret hd0 hx hb hr hlocks dL_law_2207
    · have hkL : 4 * k + 4 ≤ L := by
        have c30 : ¬ ((Int32.ofNat L - 4).toInt < (nI (4 * k)).toInt) := fun q => c29 (qa_lt.mpr q)
        rw [eL, e4] at c30
        omega
      have hi0 : vp_in (nI (4 * k)) L := vp_in_iff.mpr ⟨by omega, by omega⟩
      have hi1 : vp_in (nI (4 * k) + 1) L := lw_ip (d := 1) (by decide) hL (by omega)
      have hi2 : vp_in (nI (4 * k) + 2) L := lw_ip (d := 2) (by decide) hL (by omega)
      have hi3 : vp_in (nI (4 * k) + 3) L := lw_ip (d := 3) (by decide) hL (by omega)
      refine lv_aload_n hx hb dL_law_32 rfl (lv_at hl 0 rfl) ?_
      refine lv_iload hx hb dL_law_33 (lv_at hl 4 rfl) ?_
      refine va_sld hx hb hX hbl hbA hS hi0 dL_law_35 ?_
      refine lv_bipush (v := 63) hx hb dL_law_36 rfl ?_
      refine lv_iand hx hb dL_law_38 ?_
      have hm := lw_msk (xs (nI (4 * k)).toNatClampNeg)
      generalize (xs (nI (4 * k)).toNatClampNeg) &&& 63 = v at hm ⊢
      have kk : ∀ (d1 : Drawn), s.drawn.sameBut d1 lw_cs → ∀ (F' : FS) (M' : RS) (f' : Nat → Int64) (H1 : Heap) (locs1 : List Loc) (ls1 : Array Slot), eAll (61000 + 16400 * (k : Int) + 16400) F' M' → lv_has ls1 9 [(0, .ref b), (1, .ref (ad 0)), (2, .ref h), (3, .ref ho), (4, .int (nI (4 * k)))] → va_P D vwCl (wLW cy ad hh aa pa h a ho F' M' f') H1 → va_D (fun q : Nat => s.heap.size ≤ q) (wLW cy ad hh aa pa h a ho F' M' f') → va_S (fun q : Nat => s.heap.size ≤ q) s.heap H1 locs1 → W p l e room_1 (s.setDrawn d1) m #[Value.ref b] below meth c H1 locs1 (1000 + k + 1) (20000 + 6 * k + 6) (lw_Z below #[Value.ref b] s) (F0 m 2200 ls1 []) := by
        intro d1 hd1 F' M' f' H1 locs1 ls1 hAl' hl' hP' hD' hS'
        refine lv_iinc (v := nI (4 * (k + 1))) (lv' := [(4, .int (nI (4 * (k + 1)))), (0, .ref b), (1, .ref (ad 0)), (2, .ref h), (3, .ref ho)]) hx hb dL_law_2200 hl' (k := 4) rfl (lw_i4 (by omega)) (by decide) rfl (fun ls hl => ?_)
        refine lv_goto (tgt := 23) hx hb dL_law_2203 (by decide) ?_
        refine W.widen (k := 1000 + (k + 1)) (n := 20000 + 6 * (k + 1)) (by omega) (by omega) ?_
        exact ih (k + 1) (by omega) (by omega) d1 hd1 F' M' f' H1 locs1 ls (by
          have e1 : (61000 + 16400 * (k : Int) + 16400) = 61000 + 16400 * ((k + 1 : Nat) : Int) := by omega
          rw [← e1]
          exact hAl') (lv_sub hl [1, 2, 3, 4, 0] rfl) hP' hD' hS'
      have go : ∀ pc', lGo l pc' → W p l e room_1 (s.setDrawn d0) m #[Value.ref b] below meth c H locs (1000 + k) (20000 + 6 * k) (lw_Z below #[Value.ref b] s) (F0 m pc' ls []) := fun pc' g => g p e s m _ below meth c D cy _ za zv ad hh aa pa h a ho b L xs d0 E0 hd0 (61000 + 16400 * (k : Int)) F M f (nI (4 * k)) hAl (by omega) hi1 hi2 hi3 H locs ls (1000 + k) (20000 + 6 * k) _ ⟨by show 1000 + k + 1 ≤ 601024; omega, by show 20000 + 6 * k + 6 ≤ 7293034; omega⟩ hl hP hD hS kk
      by_cases ho9 : 44 < v.toInt
      · refine lv_tableOut (tgt := 2200) hx hb dL_law_39 (Or.inr ho9) (by decide) ?_
        refine W.widen (k := 1000 + k + 1) (n := 20000 + 6 * k + 6) (by omega) (by omega) ?_
        exact kk d0 hd0 F M f H locs ls (hAl.mono (by omega) (by omega)) hl hP hD hS
      obtain ⟨t, ht, et⟩ : ∃ t : Nat, t < 45 ∧ v.toInt = (t : Int) := ⟨v.toInt.toNat, by omega, by omega⟩
      match t, ht, et with
      | 0, _, et => exact lv_tableIn (off := 193) (tgt := 232) hx hb dL_law_39 (by rw [et]; decide) (by rw [et]; decide) (by rw [et]; decide) (by decide) (go 232 (lk0 l hfl))
      | 1, _, et => exact lv_tableIn (off := 249) (tgt := 288) hx hb dL_law_39 (by rw [et]; decide) (by rw [et]; decide) (by rw [et]; decide) (by decide) (go 288 (lk1 l hfl))
      | 2, _, et => exact lv_tableIn (off := 305) (tgt := 344) hx hb dL_law_39 (by rw [et]; decide) (by rw [et]; decide) (by rw [et]; decide) (by decide) (go 344 (lk2 l hfl))
      | 3, _, et => exact lv_tableIn (off := 318) (tgt := 357) hx hb dL_law_39 (by rw [et]; decide) (by rw [et]; decide) (by rw [et]; decide) (by decide) (go 357 (lk3 l hfl))
      | 4, _, et => exact lv_tableIn (off := 331) (tgt := 370) hx hb dL_law_39 (by rw [et]; decide) (by rw [et]; decide) (by rw [et]; decide) (by decide) (go 370 (lk4 l hfl))
      | 5, _, et => exact lv_tableIn (off := 344) (tgt := 383) hx hb dL_law_39 (by rw [et]; decide) (by rw [et]; decide) (by rw [et]; decide) (by decide) (go 383 (lk5 l hfl))
      | 6, _, et => exact lv_tableIn (off := 357) (tgt := 396) hx hb dL_law_39 (by rw [et]; decide) (by rw [et]; decide) (by rw [et]; decide) (by decide) (go 396 (lk6 l hfl))
      | 7, _, et => exact lv_tableIn (off := 413) (tgt := 452) hx hb dL_law_39 (by rw [et]; decide) (by rw [et]; decide) (by rw [et]; decide) (by decide) (go 452 (lk7 l hfl))
      | 8, _, et => exact lv_tableIn (off := 469) (tgt := 508) hx hb dL_law_39 (by rw [et]; decide) (by rw [et]; decide) (by rw [et]; decide) (by decide) (go 508 (lk8 l hfl))
      | 9, _, et => exact lv_tableIn (off := 537) (tgt := 576) hx hb dL_law_39 (by rw [et]; decide) (by rw [et]; decide) (by rw [et]; decide) (by decide) (go 576 (lk9 l hfl))
      | 10, _, et => exact lv_tableIn (off := 605) (tgt := 644) hx hb dL_law_39 (by rw [et]; decide) (by rw [et]; decide) (by rw [et]; decide) (by decide) (go 644 (lk10 l hfl))
      | 11, _, et => exact lv_tableIn (off := 630) (tgt := 669) hx hb dL_law_39 (by rw [et]; decide) (by rw [et]; decide) (by rw [et]; decide) (by decide) (go 669 (lk11 l hfl))
      | 12, _, et => exact lv_tableIn (off := 698) (tgt := 737) hx hb dL_law_39 (by rw [et]; decide) (by rw [et]; decide) (by rw [et]; decide) (by decide) (go 737 (lk12 l hfl))
      | 13, _, et => exact lv_tableIn (off := 782) (tgt := 821) hx hb dL_law_39 (by rw [et]; decide) (by rw [et]; decide) (by rw [et]; decide) (by decide) (go 821 (lk13 l hfl))
      | 14, _, et => exact lv_tableIn (off := 850) (tgt := 889) hx hb dL_law_39 (by rw [et]; decide) (by rw [et]; decide) (by rw [et]; decide) (by decide) (go 889 (lk14 l hfl))
      | 15, _, et => exact lv_tableIn (off := 906) (tgt := 945) hx hb dL_law_39 (by rw [et]; decide) (by rw [et]; decide) (by rw [et]; decide) (by decide) (go 945 (lk15 l hfl))
      | 16, _, et => exact lv_tableIn (off := 962) (tgt := 1001) hx hb dL_law_39 (by rw [et]; decide) (by rw [et]; decide) (by rw [et]; decide) (by decide) (go 1001 (lk16 l hfl))
      | 17, _, et => exact lv_tableIn (off := 1018) (tgt := 1057) hx hb dL_law_39 (by rw [et]; decide) (by rw [et]; decide) (by rw [et]; decide) (by decide) (go 1057 (lk17 l hfl))
      | 18, _, et => exact lv_tableIn (off := 1031) (tgt := 1070) hx hb dL_law_39 (by rw [et]; decide) (by rw [et]; decide) (by rw [et]; decide) (by decide) (go 1070 (lk18 l hfl))
      | 19, _, et => exact lv_tableIn (off := 1044) (tgt := 1083) hx hb dL_law_39 (by rw [et]; decide) (by rw [et]; decide) (by rw [et]; decide) (by decide) (go 1083 (lk19 l hfl))
      | 20, _, et => exact lv_tableIn (off := 1085) (tgt := 1124) hx hb dL_law_39 (by rw [et]; decide) (by rw [et]; decide) (by rw [et]; decide) (by decide) (go 1124 (lk20 l hfl))
      | 21, _, et => exact lv_tableIn (off := 1098) (tgt := 1137) hx hb dL_law_39 (by rw [et]; decide) (by rw [et]; decide) (by rw [et]; decide) (by decide) (go 1137 (lk21 l hfl))
      | 22, _, et => exact lv_tableIn (off := 1111) (tgt := 1150) hx hb dL_law_39 (by rw [et]; decide) (by rw [et]; decide) (by rw [et]; decide) (by decide) (go 1150 (lk22 l hfl))
      | 23, _, et => exact lv_tableIn (off := 1167) (tgt := 1206) hx hb dL_law_39 (by rw [et]; decide) (by rw [et]; decide) (by rw [et]; decide) (by decide) (go 1206 (lk23 l hfl))
      | 24, _, et => exact lv_tableIn (off := 1223) (tgt := 1262) hx hb dL_law_39 (by rw [et]; decide) (by rw [et]; decide) (by rw [et]; decide) (by decide) (go 1262 (lk24 l hfl))
      | 25, _, et => exact lv_tableIn (off := 1236) (tgt := 1275) hx hb dL_law_39 (by rw [et]; decide) (by rw [et]; decide) (by rw [et]; decide) (by decide) (go 1275 (lk25 l hfl))
      | 26, _, et => exact lv_tableIn (off := 1292) (tgt := 1331) hx hb dL_law_39 (by rw [et]; decide) (by rw [et]; decide) (by rw [et]; decide) (by decide) (go 1331 (lk26 l hfl))
      | 27, _, et => exact lv_tableIn (off := 1305) (tgt := 1344) hx hb dL_law_39 (by rw [et]; decide) (by rw [et]; decide) (by rw [et]; decide) (by decide) (go 1344 (lk27 l hfl))
      | 28, _, et => exact lv_tableIn (off := 1361) (tgt := 1400) hx hb dL_law_39 (by rw [et]; decide) (by rw [et]; decide) (by rw [et]; decide) (by decide) (go 1400 (lk28 l hfl))
      | 29, _, et => exact lv_tableIn (off := 1417) (tgt := 1456) hx hb dL_law_39 (by rw [et]; decide) (by rw [et]; decide) (by rw [et]; decide) (by decide) (go 1456 (h29))
      | 30, _, et => exact lv_tableIn (off := 1458) (tgt := 1497) hx hb dL_law_39 (by rw [et]; decide) (by rw [et]; decide) (by rw [et]; decide) (by decide) (go 1497 (h30))
      | 31, _, et => exact lv_tableIn (off := 1501) (tgt := 1540) hx hb dL_law_39 (by rw [et]; decide) (by rw [et]; decide) (by rw [et]; decide) (by decide) (go 1540 (lk31 l hfl))
      | 32, _, et => exact lv_tableIn (off := 1557) (tgt := 1596) hx hb dL_law_39 (by rw [et]; decide) (by rw [et]; decide) (by rw [et]; decide) (by decide) (go 1596 (lk32 l hfl))
      | 33, _, et => exact lv_tableIn (off := 1625) (tgt := 1664) hx hb dL_law_39 (by rw [et]; decide) (by rw [et]; decide) (by rw [et]; decide) (by decide) (go 1664 (lk33 l hfl))
      | 34, _, et => exact lv_tableIn (off := 1681) (tgt := 1720) hx hb dL_law_39 (by rw [et]; decide) (by rw [et]; decide) (by rw [et]; decide) (by decide) (go 1720 (lk34 l hfl))
      | 35, _, et => exact lv_tableIn (off := 1737) (tgt := 1776) hx hb dL_law_39 (by rw [et]; decide) (by rw [et]; decide) (by rw [et]; decide) (by decide) (go 1776 (lk35 l hfl))
      | 36, _, et => exact lv_tableIn (off := 1793) (tgt := 1832) hx hb dL_law_39 (by rw [et]; decide) (by rw [et]; decide) (by rw [et]; decide) (by decide) (go 1832 (lk36 l hfl))
      | 37, _, et => exact lv_tableIn (off := 1834) (tgt := 1873) hx hb dL_law_39 (by rw [et]; decide) (by rw [et]; decide) (by rw [et]; decide) (by decide) (go 1873 (lk37 l hfl))
      | 38, _, et => exact lv_tableIn (off := 1890) (tgt := 1929) hx hb dL_law_39 (by rw [et]; decide) (by rw [et]; decide) (by rw [et]; decide) (by decide) (go 1929 (lk38 l hfl))
      | 39, _, et => exact lv_tableIn (off := 1970) (tgt := 2009) hx hb dL_law_39 (by rw [et]; decide) (by rw [et]; decide) (by rw [et]; decide) (by decide) (go 2009 (lk39 l hfl))
      | 40, _, et => exact lv_tableIn (off := 2038) (tgt := 2077) hx hb dL_law_39 (by rw [et]; decide) (by rw [et]; decide) (by rw [et]; decide) (by decide) (go 2077 (lk40 l hfl))
      | 41, _, et => exact lv_tableIn (off := 2051) (tgt := 2090) hx hb dL_law_39 (by rw [et]; decide) (by rw [et]; decide) (by rw [et]; decide) (by decide) (go 2090 (lk41 l hfl))
      | 42, _, et => exact lv_tableIn (off := 2076) (tgt := 2115) hx hb dL_law_39 (by rw [et]; decide) (by rw [et]; decide) (by rw [et]; decide) (by decide) (go 2115 (lk42 l hfl))
      | 43, _, et => exact lv_tableIn (off := 2089) (tgt := 2128) hx hb dL_law_39 (by rw [et]; decide) (by rw [et]; decide) (by rw [et]; decide) (by decide) (go 2128 (lk43 l hfl))
      | 44, _, et => exact lv_tableIn (off := 2125) (tgt := 2164) hx hb dL_law_39 (by rw [et]; decide) (by rw [et]; decide) (by rw [et]; decide) (by decide) (go 2164 (lk44 l hfl))
      | t + 45, ht, _ => exact absurd ht (by omega)
