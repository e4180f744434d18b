set_option maxHeartbeats 4000000 in
set_option maxRecDepth 100000 in
theorem lk13 (l : Launch) (hfl : l.stackTraces = false) : lGo l 821 := by
  intro p e s m args below meth c D cy A za zv ad hh aa pa h a ho b L xs d0 E0 hd0 B F M f i hAl hB hi1 hi2 hi3 H locs ls cells slots Q hf hl hP hD hS kk
  obtain ⟨hx, hb, hml, hown, hts, hK, hA, hZ, hN, hX, hbl, hbA⟩ := E0.draw d0
  refine lv_aload_n hx hb dL_law_821 rfl (lv_at hl 1 rfl) ?_
  refine lv_aload_n hx hb dL_law_822 rfl (lv_at hl 0 rfl) ?_
  refine lv_iload hx hb dL_law_823 (lv_at hl 4 rfl) ?_
  refine lv_iconst (v := 1) hx hb dL_law_825 rfl ?_
  refine lv_iadd hx hb dL_law_826 ?_
  refine va_sld hx hb hX hbl hbA hS hi1 dL_law_827 ?_
  refine lv_aload_n hx hb dL_law_828 rfl (lv_at hl 0 rfl) ?_
  refine lv_iload hx hb dL_law_829 (lv_at hl 4 rfl) ?_
  refine lv_iconst (v := 2) hx hb dL_law_831 rfl ?_
  refine lv_iadd hx hb dL_law_832 ?_
  refine va_sld hx hb hX hbl hbA hS hi2 dL_law_833 ?_
  refine lv_aload_n hx hb dL_law_834 rfl (lv_at hl 3 rfl) ?_
  obtain ⟨F1, M1, b1, hAl1, e2, h1⟩ := lz_2 (c_call hAl ((xs (i + 1).toNatClampNeg)) ((xs (i + 2).toNatClampNeg))) f
  have hAl2 := hAl1.mono (B' := B + 16400) (by omega) (by omega)
  refine lw_H (As := [.ref (ad 0), .int (xs (i + 1).toNatClampNeg), .int (xs (i + 2).toNatClampNeg), .ref ho]) (rest := []) ⟨hx, hb, hml, hown, hts⟩ (cL_callM l hfl D cy za zv ad hh aa pa ho H.size F f ((xs (i + 1).toNatClampNeg)) ((xs (i + 2).toNatClampNeg)) _ h1) (vx_cwSW 4 hts gL_law_L_call rfl rfl rfl hlL_call ⟨Nat.le_of_ble_eq_true rfl, Nat.le_of_ble_eq_true rfl⟩) hN hZ hK hP hD hS hA rfl hl.1 rfl (Nat.le_of_ble_eq_true rfl) dL_law_835 hf (fun r q H locs hq hP hD hS => ?_)
  obtain ⟨F2, f2⟩ := q
  obtain ⟨hq1, hq2, hq3⟩ := hq
  replace hq2 : F2 = F1 := hq2
  subst hq2
  replace hq3 : r = 0 → f2 (Int32.toNatClampNeg 0) = b1.toInt64 := hq3
  replace hP : va_P D vwCl (wLW cy ad hh aa pa h a ho F2 M f2) H := hP
  replace hD : va_D A (wLW cy ad hh aa pa h a ho F2 M f2) := hD
  refine lv_istore (lv' := [(5, .int r), (0, .ref b), (1, .ref (ad 0)), (2, .ref h), (3, .ref ho), (4, .int i)]) hx hb dL_law_838 hl (by decide) rfl (fun ls hl => ?_)
  refine lv_aload_n hx hb dL_law_840 rfl (lv_at hl 3 rfl) ?_
  refine lv_aload_n hx hb dL_law_841 rfl (lv_at hl 1 rfl) ?_
  refine lv_iload hx hb dL_law_842 (lv_at hl 5 rfl) ?_
  refine lv_iconst (v := 1) hx hb dL_law_844 rfl ?_
  refine lv_iadd hx hb dL_law_845 ?_
  refine va_sld hx hb hX hbl hbA hS hi1 dL_law_846 ?_
  refine lv_aload_n hx hb dL_law_847 rfl (lv_at hl 1 rfl) ?_
  refine lv_iload hx hb dL_law_848 (lv_at hl 5 rfl) ?_
  refine lv_iconst (v := 2) hx hb dL_law_850 rfl ?_
  refine lv_iadd hx hb dL_law_851 ?_
  refine va_sld hx hb hX hbl hbA hS hi2 dL_law_852 ?_
  refine lw_MI e2 (As := [.int (xs (i + 1).toNatClampNeg), .int (xs (i + 2).toNatClampNeg)]) (rest := []) ⟨hx, hb, hml, hown, hts⟩ (cX10_callM l D cy h a H.size M ((xs (i + 1).toNatClampNeg)) ((xs (i + 2).toNatClampNeg))) (cwV 2 hts gL_law_X10_call rfl rfl rfl hlX10_call ⟨Nat.le_of_ble_eq_true rfl, Nat.le_of_ble_eq_true rfl⟩) hK hP hD hS hA rfl hl.1 rfl (Nat.le_of_ble_eq_true rfl) dL_law_853 hf (fun H locs hP hD hS => ?_)
  refine lv_istore (lv' := [(6, .int b1), (5, .int r), (0, .ref b), (1, .ref (ad 0)), (2, .ref h), (3, .ref ho), (4, .int i)]) hx hb dL_law_856 hl (by decide) rfl (fun ls hl => ?_)
  refine lv_aload_n hx hb dL_law_858 rfl (lv_at hl 4 rfl) ?_
  refine lw_MR (o := fX10_thrown M1) (r0 := mTh M1) rfl (As := []) (rest := []) ⟨hx, hb, hml, hown, hts⟩ (cX10_thrownM l D cy h a H.size M1) (cwV 0 hts gL_law_X10_thrown rfl rfl rfl hlX10_thrown ⟨Nat.le_of_ble_eq_true rfl, Nat.le_of_ble_eq_true rfl⟩) hK hP hD hS hA rfl hl.1 rfl (Nat.le_of_ble_eq_true rfl) dL_law_859 hf (fun H locs hP hD hS => ?_)
  refine lv_iload hx hb dL_law_862 (lv_at hl 1 rfl) ?_
  refine lv_icmp_eq (tgt := 869) hx hb dL_law_864 (by decide) (fun _ => ?_) (fun c => absurd hq1.symm c)
  refine lv_iload hx hb dL_law_869 (lv_at hl 1 rfl) ?_
  refine lv_if_ne (tgt := 886) hx hb dL_law_871 (by decide) (fun c871 => ?_) (fun c871 => ?_)
  · refine lv_goto (tgt := 2200) hx hb dL_law_886 (by decide) ?_
    exact kk d0 hd0 F2 M1 f2 H locs ls hAl2 (lv_sub hl [2, 3, 4, 5, 6] rfl) hP hD hS
  · refine lv_aload_n hx hb dL_law_874 rfl (lv_at hl 5 rfl) ?_
    refine lv_iconst (v := 0) hx hb dL_law_875 rfl ?_
    refine va_lald (ws := wLW cy ad hh aa pa h a ho F2 M1 f2) (cA := cy 3) (n := 1) (f := f2) hx hb hK.1 hP 0 3 rfl rfl (inb_vp (by decide)) dL_law_876 ?_
    refine lv_iload hx hb dL_law_877 (lv_at hl 0 rfl) ?_
    refine lv_i2l (v := b1.toInt64) hx hb dL_law_879 rfl ?_
    refine W.lcmp hx hb dL_law_880 ?_
    refine lv_if_eq (tgt := 886) hx hb dL_law_881 (by decide) (fun _ => ?_) (fun c => absurd (by rw [hq3 c871]; exact lg_cmp_self _) c)
    refine lv_goto (tgt := 2200) hx hb dL_law_886 (by decide) ?_
    exact kk d0 hd0 F2 M1 f2 H locs ls hAl2 (lv_sub hl [2, 3, 4, 5, 6] rfl) hP hD hS
set_option maxHeartbeats 4000000 in
set_option maxRecDepth 100000 in
theorem lk14 (l : Launch) (hfl : l.stackTraces = false) : lGo l 889 := by
  intro p e s m args below meth c D cy A za zv ad hh aa pa h a ho b L xs d0 E0 hd0 B F M f i hAl hB hi1 hi2 hi3 H locs ls cells slots Q hf hl hP hD hS kk
  obtain ⟨hx, hb, hml, hown, hts, hK, hA, hZ, hN, hX, hbl, hbA⟩ := E0.draw d0
  refine lv_aload_n hx hb dL_law_889 rfl (lv_at hl 1 rfl) ?_
  refine lv_aload_n hx hb dL_law_890 rfl (lv_at hl 0 rfl) ?_
  refine lv_iload hx hb dL_law_891 (lv_at hl 4 rfl) ?_
  refine lv_iconst (v := 1) hx hb dL_law_893 rfl ?_
  refine lv_iadd hx hb dL_law_894 ?_
  refine va_sld hx hb hX hbl hbA hS hi1 dL_law_895 ?_
  refine lv_aload_n hx hb dL_law_896 rfl (lv_at hl 3 rfl) ?_
  obtain ⟨F1, M1, b1, hAl1, e2, h1⟩ := lz_1 (c_account hAl ((xs (i + 1).toNatClampNeg))) f
  have hAl2 := hAl1.mono (B' := B + 16400) (by omega) (by omega)
  refine lw_H (As := [.ref (ad 0), .int (xs (i + 1).toNatClampNeg), .ref ho]) (rest := []) ⟨hx, hb, hml, hown, hts⟩ (cL_accountM l hfl D cy za zv ad hh aa pa ho H.size F f ((xs (i + 1).toNatClampNeg)) _ h1) (vx_cwSW 3 hts gL_law_L_account rfl rfl rfl hlL_account ⟨Nat.le_of_ble_eq_true rfl, Nat.le_of_ble_eq_true rfl⟩) hN hZ hK hP hD hS hA rfl hl.1 rfl (Nat.le_of_ble_eq_true rfl) dL_law_897 hf (fun r q H locs hq hP hD hS => ?_)
  obtain ⟨F2, f2⟩ := q
  obtain ⟨hq1, hq2, hq3⟩ := hq
  replace hq2 : F2 = F1 := hq2
  subst hq2
  replace hq3 : r = 0 → f2 (Int32.toNatClampNeg 0) = b1.toInt64 := hq3
  replace hP : va_P D vwCl (wLW cy ad hh aa pa h a ho F2 M f2) H := hP
  replace hD : va_D A (wLW cy ad hh aa pa h a ho F2 M f2) := hD
  refine lv_istore (lv' := [(5, .int r), (0, .ref b), (1, .ref (ad 0)), (2, .ref h), (3, .ref ho), (4, .int i)]) hx hb dL_law_900 hl (by decide) rfl (fun ls hl => ?_)
  refine lv_aload_n hx hb dL_law_902 rfl (lv_at hl 3 rfl) ?_
  refine lv_aload_n hx hb dL_law_903 rfl (lv_at hl 1 rfl) ?_
  refine lv_iload hx hb dL_law_904 (lv_at hl 5 rfl) ?_
  refine lv_iconst (v := 1) hx hb dL_law_906 rfl ?_
  refine lv_iadd hx hb dL_law_907 ?_
  refine va_sld hx hb hX hbl hbA hS hi1 dL_law_908 ?_
  refine lw_MI e2 (As := [.int (xs (i + 1).toNatClampNeg)]) (rest := []) ⟨hx, hb, hml, hown, hts⟩ (cX10_accountM l D cy h a H.size M ((xs (i + 1).toNatClampNeg))) (cwV 1 hts gL_law_X10_account rfl rfl rfl hlX10_account ⟨Nat.le_of_ble_eq_true rfl, Nat.le_of_ble_eq_true rfl⟩) hK hP hD hS hA rfl hl.1 rfl (Nat.le_of_ble_eq_true rfl) dL_law_909 hf (fun H locs hP hD hS => ?_)
  refine lv_istore (lv' := [(6, .int b1), (5, .int r), (0, .ref b), (1, .ref (ad 0)), (2, .ref h), (3, .ref ho), (4, .int i)]) hx hb dL_law_912 hl (by decide) rfl (fun ls hl => ?_)
  refine lv_aload_n hx hb dL_law_914 rfl (lv_at hl 4 rfl) ?_
  refine lw_MR (o := fX10_thrown M1) (r0 := mTh M1) rfl (As := []) (rest := []) ⟨hx, hb, hml, hown, hts⟩ (cX10_thrownM l D cy h a H.size M1) (cwV 0 hts gL_law_X10_thrown rfl rfl rfl hlX10_thrown ⟨Nat.le_of_ble_eq_true rfl, Nat.le_of_ble_eq_true rfl⟩) hK hP hD hS hA rfl hl.1 rfl (Nat.le_of_ble_eq_true rfl) dL_law_915 hf (fun H locs hP hD hS => ?_)
  refine lv_iload hx hb dL_law_918 (lv_at hl 1 rfl) ?_
  refine lv_icmp_eq (tgt := 925) hx hb dL_law_920 (by decide) (fun _ => ?_) (fun c => absurd hq1.symm c)
  refine lv_iload hx hb dL_law_925 (lv_at hl 1 rfl) ?_
  refine lv_if_ne (tgt := 942) hx hb dL_law_927 (by decide) (fun c927 => ?_) (fun c927 => ?_)
  · refine lv_goto (tgt := 2200) hx hb dL_law_942 (by decide) ?_
    exact kk d0 hd0 F2 M1 f2 H locs ls hAl2 (lv_sub hl [2, 3, 4, 5, 6] rfl) hP hD hS
  · refine lv_aload_n hx hb dL_law_930 rfl (lv_at hl 5 rfl) ?_
    refine lv_iconst (v := 0) hx hb dL_law_931 rfl ?_
    refine va_lald (ws := wLW cy ad hh aa pa h a ho F2 M1 f2) (cA := cy 3) (n := 1) (f := f2) hx hb hK.1 hP 0 3 rfl rfl (inb_vp (by decide)) dL_law_932 ?_
    refine lv_iload hx hb dL_law_933 (lv_at hl 0 rfl) ?_
    refine lv_i2l (v := b1.toInt64) hx hb dL_law_935 rfl ?_
    refine W.lcmp hx hb dL_law_936 ?_
    refine lv_if_eq (tgt := 942) hx hb dL_law_937 (by decide) (fun _ => ?_) (fun c => absurd (by rw [hq3 c927]; exact lg_cmp_self _) c)
    refine lv_goto (tgt := 2200) hx hb dL_law_942 (by decide) ?_
    exact kk d0 hd0 F2 M1 f2 H locs ls hAl2 (lv_sub hl [2, 3, 4, 5, 6] rfl) hP hD hS
set_option maxHeartbeats 4000000 in
set_option maxRecDepth 100000 in
theorem lk15 (l : Launch) (hfl : l.stackTraces = false) : lGo l 945 := by
  intro p e s m args below meth c D cy A za zv ad hh aa pa h a ho b L xs d0 E0 hd0 B F M f i hAl hB hi1 hi2 hi3 H locs ls cells slots Q hf hl hP hD hS kk
  obtain ⟨hx, hb, hml, hown, hts, hK, hA, hZ, hN, hX, hbl, hbA⟩ := E0.draw d0
  refine lv_aload_n hx hb dL_law_945 rfl (lv_at hl 1 rfl) ?_
  refine lv_aload_n hx hb dL_law_946 rfl (lv_at hl 0 rfl) ?_
  refine lv_iload hx hb dL_law_947 (lv_at hl 4 rfl) ?_
  refine lv_iconst (v := 1) hx hb dL_law_949 rfl ?_
  refine lv_iadd hx hb dL_law_950 ?_
  refine va_sld hx hb hX hbl hbA hS hi1 dL_law_951 ?_
  refine lv_aload_n hx hb dL_law_952 rfl (lv_at hl 3 rfl) ?_
  obtain ⟨F1, M1, b1, hAl1, e2, h1⟩ := lz_1 (c_tide hAl ((xs (i + 1).toNatClampNeg))) f
  have hAl2 := hAl1.mono (B' := B + 16400) (by omega) (by omega)
  refine lw_H (As := [.ref (ad 0), .int (xs (i + 1).toNatClampNeg), .ref ho]) (rest := []) ⟨hx, hb, hml, hown, hts⟩ (cL_tideM l hfl D cy za zv ad hh aa pa ho H.size F f ((xs (i + 1).toNatClampNeg)) _ h1) (vx_cwSW 3 hts gL_law_L_tide rfl rfl rfl hlL_tide ⟨Nat.le_of_ble_eq_true rfl, Nat.le_of_ble_eq_true rfl⟩) hN hZ hK hP hD hS hA rfl hl.1 rfl (Nat.le_of_ble_eq_true rfl) dL_law_953 hf (fun r q H locs hq hP hD hS => ?_)
  obtain ⟨F2, f2⟩ := q
  obtain ⟨hq1, hq2, hq3⟩ := hq
  replace hq2 : F2 = F1 := hq2
  subst hq2
  replace hq3 : r = 0 → f2 (Int32.toNatClampNeg 0) = b1.toInt64 := hq3
  replace hP : va_P D vwCl (wLW cy ad hh aa pa h a ho F2 M f2) H := hP
  replace hD : va_D A (wLW cy ad hh aa pa h a ho F2 M f2) := hD
  refine lv_istore (lv' := [(5, .int r), (0, .ref b), (1, .ref (ad 0)), (2, .ref h), (3, .ref ho), (4, .int i)]) hx hb dL_law_956 hl (by decide) rfl (fun ls hl => ?_)
  refine lv_aload_n hx hb dL_law_958 rfl (lv_at hl 3 rfl) ?_
  refine lv_aload_n hx hb dL_law_959 rfl (lv_at hl 1 rfl) ?_
  refine lv_iload hx hb dL_law_960 (lv_at hl 5 rfl) ?_
  refine lv_iconst (v := 1) hx hb dL_law_962 rfl ?_
  refine lv_iadd hx hb dL_law_963 ?_
  refine va_sld hx hb hX hbl hbA hS hi1 dL_law_964 ?_
  refine lw_MI e2 (As := [.int (xs (i + 1).toNatClampNeg)]) (rest := []) ⟨hx, hb, hml, hown, hts⟩ (cX10_tideM l D cy h a H.size M ((xs (i + 1).toNatClampNeg))) (cwV 1 hts gL_law_X10_tide rfl rfl rfl hlX10_tide ⟨Nat.le_of_ble_eq_true rfl, Nat.le_of_ble_eq_true rfl⟩) hK hP hD hS hA rfl hl.1 rfl (Nat.le_of_ble_eq_true rfl) dL_law_965 hf (fun H locs hP hD hS => ?_)
  refine lv_istore (lv' := [(6, .int b1), (5, .int r), (0, .ref b), (1, .ref (ad 0)), (2, .ref h), (3, .ref ho), (4, .int i)]) hx hb dL_law_968 hl (by decide) rfl (fun ls hl => ?_)
  refine lv_aload_n hx hb dL_law_970 rfl (lv_at hl 4 rfl) ?_
  refine lw_MR (o := fX10_thrown M1) (r0 := mTh M1) rfl (As := []) (rest := []) ⟨hx, hb, hml, hown, hts⟩ (cX10_thrownM l D cy h a H.size M1) (cwV 0 hts gL_law_X10_thrown rfl rfl rfl hlX10_thrown ⟨Nat.le_of_ble_eq_true rfl, Nat.le_of_ble_eq_true rfl⟩) hK hP hD hS hA rfl hl.1 rfl (Nat.le_of_ble_eq_true rfl) dL_law_971 hf (fun H locs hP hD hS => ?_)
  refine lv_iload hx hb dL_law_974 (lv_at hl 1 rfl) ?_
  refine lv_icmp_eq (tgt := 981) hx hb dL_law_976 (by decide) (fun _ => ?_) (fun c => absurd hq1.symm c)
  refine lv_iload hx hb dL_law_981 (lv_at hl 1 rfl) ?_
  refine lv_if_ne (tgt := 998) hx hb dL_law_983 (by decide) (fun c983 => ?_) (fun c983 => ?_)
  · refine lv_goto (tgt := 2200) hx hb dL_law_998 (by decide) ?_
    exact kk d0 hd0 F2 M1 f2 H locs ls hAl2 (lv_sub hl [2, 3, 4, 5, 6] rfl) hP hD hS
  · refine lv_aload_n hx hb dL_law_986 rfl (lv_at hl 5 rfl) ?_
    refine lv_iconst (v := 0) hx hb dL_law_987 rfl ?_
    refine va_lald (ws := wLW cy ad hh aa pa h a ho F2 M1 f2) (cA := cy 3) (n := 1) (f := f2) hx hb hK.1 hP 0 3 rfl rfl (inb_vp (by decide)) dL_law_988 ?_
    refine lv_iload hx hb dL_law_989 (lv_at hl 0 rfl) ?_
    refine lv_i2l (v := b1.toInt64) hx hb dL_law_991 rfl ?_
    refine W.lcmp hx hb dL_law_992 ?_
    refine lv_if_eq (tgt := 998) hx hb dL_law_993 (by decide) (fun _ => ?_) (fun c => absurd (by rw [hq3 c983]; exact lg_cmp_self _) c)
    refine lv_goto (tgt := 2200) hx hb dL_law_998 (by decide) ?_
    exact kk d0 hd0 F2 M1 f2 H locs ls hAl2 (lv_sub hl [2, 3, 4, 5, 6] rfl) hP hD hS
set_option maxHeartbeats 4000000 in
set_option maxRecDepth 100000 in
theorem lk16 (l : Launch) (hfl : l.stackTraces = false) : lGo l 1001 := by
  intro p e s m args below meth c D cy A za zv ad hh aa pa h a ho b L xs d0 E0 hd0 B F M f i hAl hB hi1 hi2 hi3 H locs ls cells slots Q hf hl hP hD hS kk
  obtain ⟨hx, hb, hml, hown, hts, hK, hA, hZ, hN, hX, hbl, hbA⟩ := E0.draw d0
  refine lv_aload_n hx hb dL_law_1001 rfl (lv_at hl 1 rfl) ?_
  refine lv_aload_n hx hb dL_law_1002 rfl (lv_at hl 0 rfl) ?_
  refine lv_iload hx hb dL_law_1003 (lv_at hl 4 rfl) ?_
  refine lv_iconst (v := 1) hx hb dL_law_1005 rfl ?_
  refine lv_iadd hx hb dL_law_1006 ?_
  refine va_sld hx hb hX hbl hbA hS hi1 dL_law_1007 ?_
  refine lv_aload_n hx hb dL_law_1008 rfl (lv_at hl 3 rfl) ?_
  obtain ⟨F1, M1, b1, hAl1, e2, h1⟩ := lz_1 (c_deck hAl ((xs (i + 1).toNatClampNeg))) f
  have hAl2 := hAl1.mono (B' := B + 16400) (by omega) (by omega)
  refine lw_H (As := [.ref (ad 0), .int (xs (i + 1).toNatClampNeg), .ref ho]) (rest := []) ⟨hx, hb, hml, hown, hts⟩ (cL_deckM l hfl D cy za zv ad hh aa pa ho H.size F f ((xs (i + 1).toNatClampNeg)) _ h1) (vx_cwSW 3 hts gL_law_L_deck rfl rfl rfl hlL_deck ⟨Nat.le_of_ble_eq_true rfl, Nat.le_of_ble_eq_true rfl⟩) hN hZ hK hP hD hS hA rfl hl.1 rfl (Nat.le_of_ble_eq_true rfl) dL_law_1009 hf (fun r q H locs hq hP hD hS => ?_)
  obtain ⟨F2, f2⟩ := q
  obtain ⟨hq1, hq2, hq3⟩ := hq
  replace hq2 : F2 = F1 := hq2
  subst hq2
  replace hq3 : r = 0 → f2 (Int32.toNatClampNeg 0) = b1.toInt64 := hq3
  replace hP : va_P D vwCl (wLW cy ad hh aa pa h a ho F2 M f2) H := hP
  replace hD : va_D A (wLW cy ad hh aa pa h a ho F2 M f2) := hD
  refine lv_istore (lv' := [(5, .int r), (0, .ref b), (1, .ref (ad 0)), (2, .ref h), (3, .ref ho), (4, .int i)]) hx hb dL_law_1012 hl (by decide) rfl (fun ls hl => ?_)
  refine lv_aload_n hx hb dL_law_1014 rfl (lv_at hl 3 rfl) ?_
  refine lv_aload_n hx hb dL_law_1015 rfl (lv_at hl 1 rfl) ?_
  refine lv_iload hx hb dL_law_1016 (lv_at hl 5 rfl) ?_
  refine lv_iconst (v := 1) hx hb dL_law_1018 rfl ?_
  refine lv_iadd hx hb dL_law_1019 ?_
  refine va_sld hx hb hX hbl hbA hS hi1 dL_law_1020 ?_
  refine lw_MI e2 (As := [.int (xs (i + 1).toNatClampNeg)]) (rest := []) ⟨hx, hb, hml, hown, hts⟩ (cX10_deckM l D cy h a H.size M ((xs (i + 1).toNatClampNeg))) (cwV 1 hts gL_law_X10_deck rfl rfl rfl hlX10_deck ⟨Nat.le_of_ble_eq_true rfl, Nat.le_of_ble_eq_true rfl⟩) hK hP hD hS hA rfl hl.1 rfl (Nat.le_of_ble_eq_true rfl) dL_law_1021 hf (fun H locs hP hD hS => ?_)
  refine lv_istore (lv' := [(6, .int b1), (5, .int r), (0, .ref b), (1, .ref (ad 0)), (2, .ref h), (3, .ref ho), (4, .int i)]) hx hb dL_law_1024 hl (by decide) rfl (fun ls hl => ?_)
  refine lv_aload_n hx hb dL_law_1026 rfl (lv_at hl 4 rfl) ?_
  refine lw_MR (o := fX10_thrown M1) (r0 := mTh M1) rfl (As := []) (rest := []) ⟨hx, hb, hml, hown, hts⟩ (cX10_thrownM l D cy h a H.size M1) (cwV 0 hts gL_law_X10_thrown rfl rfl rfl hlX10_thrown ⟨Nat.le_of_ble_eq_true rfl, Nat.le_of_ble_eq_true rfl⟩) hK hP hD hS hA rfl hl.1 rfl (Nat.le_of_ble_eq_true rfl) dL_law_1027 hf (fun H locs hP hD hS => ?_)
  refine lv_iload hx hb dL_law_1030 (lv_at hl 1 rfl) ?_
  refine lv_icmp_eq (tgt := 1037) hx hb dL_law_1032 (by decide) (fun _ => ?_) (fun c => absurd hq1.symm c)
  refine lv_iload hx hb dL_law_1037 (lv_at hl 1 rfl) ?_
  refine lv_if_ne (tgt := 1054) hx hb dL_law_1039 (by decide) (fun c1039 => ?_) (fun c1039 => ?_)
  · refine lv_goto (tgt := 2200) hx hb dL_law_1054 (by decide) ?_
    exact kk d0 hd0 F2 M1 f2 H locs ls hAl2 (lv_sub hl [2, 3, 4, 5, 6] rfl) hP hD hS
  · refine lv_aload_n hx hb dL_law_1042 rfl (lv_at hl 5 rfl) ?_
    refine lv_iconst (v := 0) hx hb dL_law_1043 rfl ?_
    refine va_lald (ws := wLW cy ad hh aa pa h a ho F2 M1 f2) (cA := cy 3) (n := 1) (f := f2) hx hb hK.1 hP 0 3 rfl rfl (inb_vp (by decide)) dL_law_1044 ?_
    refine lv_iload hx hb dL_law_1045 (lv_at hl 0 rfl) ?_
    refine lv_i2l (v := b1.toInt64) hx hb dL_law_1047 rfl ?_
    refine W.lcmp hx hb dL_law_1048 ?_
    refine lv_if_eq (tgt := 1054) hx hb dL_law_1049 (by decide) (fun _ => ?_) (fun c => absurd (by rw [hq3 c1039]; exact lg_cmp_self _) c)
    refine lv_goto (tgt := 2200) hx hb dL_law_1054 (by decide) ?_
    exact kk d0 hd0 F2 M1 f2 H locs ls hAl2 (lv_sub hl [2, 3, 4, 5, 6] rfl) hP hD hS
set_option maxHeartbeats 4000000 in
set_option maxRecDepth 100000 in
theorem lk17 (l : Launch) (hfl : l.stackTraces = false) : lGo l 1057 := by
  intro p e s m args below meth c D cy A za zv ad hh aa pa h a ho b L xs d0 E0 hd0 B F M f i hAl hB hi1 hi2 hi3 H locs ls cells slots Q hf hl hP hD hS kk
  obtain ⟨hx, hb, hml, hown, hts, hK, hA, hZ, hN, hX, hbl, hbA⟩ := E0.draw d0
  have hf0 : cells ≤ room_1.cells ∧ slots ≤ room_1.slots := ⟨Nat.le_trans (Nat.le_add_right _ _) hf.1, Nat.le_trans (Nat.le_add_right _ _) hf.2⟩
  refine lv_aload_n hx hb dL_law_1057 rfl (lv_at hl 1 rfl) ?_
  obtain ⟨r1, M1, e1, e2, hAl1⟩ := c_slope hAl 
  have hAl2 := hAl1.mono (B' := B + 16400) (by omega) (by omega)
  refine lw_XR e1 (As := []) (rest := []) ⟨hx, hb, hml, hown, hts⟩ (cX9_slopeM l D cy ad hh aa pa H.size F ) (cwV 0 hts gL_law_X9_slope rfl rfl rfl hlX9_slope ⟨Nat.le_of_ble_eq_true rfl, Nat.le_of_ble_eq_true rfl⟩) hK hP hD hS hA rfl hl.1 rfl (Nat.le_of_ble_eq_true rfl) dL_law_1058 hf0 (fun H locs hP hD hS => ?_)
  refine lv_aload_n hx hb dL_law_1061 rfl (lv_at hl 2 rfl) ?_
  refine lw_MI e2 (As := []) (rest := [.int r1]) ⟨hx, hb, hml, hown, hts⟩ (cX10_slopeM l D cy h a H.size M ) (cwV 0 hts gL_law_X10_slope rfl rfl rfl hlX10_slope ⟨Nat.le_of_ble_eq_true rfl, Nat.le_of_ble_eq_true rfl⟩) hK hP hD hS hA rfl hl.1 rfl (Nat.le_of_ble_eq_true rfl) dL_law_1062 hf0 (fun H locs hP hD hS => ?_)
  refine lv_icmp_eq (tgt := 2200) hx hb dL_law_1065 (by decide) (fun _ => ?_) (fun c => absurd rfl c)
  refine W.widen (k := cells + 1) (n := slots + 6) (Nat.le_add_right _ _) (Nat.le_add_right _ _) ?_
  exact kk d0 hd0 F M1 f H locs ls hAl2 (lv_sub hl [0, 1, 2, 3, 4] rfl) hP hD hS
set_option maxHeartbeats 4000000 in
set_option maxRecDepth 100000 in
theorem lk18 (l : Launch) (hfl : l.stackTraces = false) : lGo l 1070 := by
  intro p e s m args below meth c D cy A za zv ad hh aa pa h a ho b L xs d0 E0 hd0 B F M f i hAl hB hi1 hi2 hi3 H locs ls cells slots Q hf hl hP hD hS kk
  obtain ⟨hx, hb, hml, hown, hts, hK, hA, hZ, hN, hX, hbl, hbA⟩ := E0.draw d0
  have hf0 : cells ≤ room_1.cells ∧ slots ≤ room_1.slots := ⟨Nat.le_trans (Nat.le_add_right _ _) hf.1, Nat.le_trans (Nat.le_add_right _ _) hf.2⟩
  refine lv_aload_n hx hb dL_law_1070 rfl (lv_at hl 1 rfl) ?_
  obtain ⟨r1, M1, e1, e2, hAl1⟩ := c_lip hAl 
  have hAl2 := hAl1.mono (B' := B + 16400) (by omega) (by omega)
  refine lw_XR e1 (As := []) (rest := []) ⟨hx, hb, hml, hown, hts⟩ (cX9_lipM l D cy ad hh aa pa H.size F ) (cwV 0 hts gL_law_X9_lip rfl rfl rfl hlX9_lip ⟨Nat.le_of_ble_eq_true rfl, Nat.le_of_ble_eq_true rfl⟩) hK hP hD hS hA rfl hl.1 rfl (Nat.le_of_ble_eq_true rfl) dL_law_1071 hf0 (fun H locs hP hD hS => ?_)
  refine lv_aload_n hx hb dL_law_1074 rfl (lv_at hl 2 rfl) ?_
  refine lw_MI e2 (As := []) (rest := [.int r1]) ⟨hx, hb, hml, hown, hts⟩ (cX10_lipM l D cy h a H.size M ) (cwV 0 hts gL_law_X10_lip rfl rfl rfl hlX10_lip ⟨Nat.le_of_ble_eq_true rfl, Nat.le_of_ble_eq_true rfl⟩) hK hP hD hS hA rfl hl.1 rfl (Nat.le_of_ble_eq_true rfl) dL_law_1075 hf0 (fun H locs hP hD hS => ?_)
  refine lv_icmp_eq (tgt := 2200) hx hb dL_law_1078 (by decide) (fun _ => ?_) (fun c => absurd rfl c)
  refine W.widen (k := cells + 1) (n := slots + 6) (Nat.le_add_right _ _) (Nat.le_add_right _ _) ?_
  exact kk d0 hd0 F M1 f H locs ls hAl2 (lv_sub hl [0, 1, 2, 3, 4] rfl) hP hD hS
set_option maxHeartbeats 4000000 in
set_option maxRecDepth 100000 in
theorem lk19 (l : Launch) (hfl : l.stackTraces = false) : lGo l 1083 := by
  intro p e s m args below meth c D cy A za zv ad hh aa pa h a ho b L xs d0 E0 hd0 B F M f i hAl hB hi1 hi2 hi3 H locs ls cells slots Q hf hl hP hD hS kk
  obtain ⟨hx, hb, hml, hown, hts, hK, hA, hZ, hN, hX, hbl, hbA⟩ := E0.draw d0
  have hf0 : cells ≤ room_1.cells ∧ slots ≤ room_1.slots := ⟨Nat.le_trans (Nat.le_add_right _ _) hf.1, Nat.le_trans (Nat.le_add_right _ _) hf.2⟩
  refine lv_aload_n hx hb dL_law_1083 rfl (lv_at hl 1 rfl) ?_
  refine lv_aload_n hx hb dL_law_1084 rfl (lv_at hl 0 rfl) ?_
  refine lv_iload hx hb dL_law_1085 (lv_at hl 4 rfl) ?_
  refine lv_iconst (v := 1) hx hb dL_law_1087 rfl ?_
  refine lv_iadd hx hb dL_law_1088 ?_
  refine va_sld hx hb hX hbl hbA hS hi1 dL_law_1089 ?_
  refine lv_if_eq (tgt := 1097) hx hb dL_law_1090 (by decide) (fun c1090 => ?_) (fun c1090 => ?_)
  · refine lv_iconst (v := 0) hx hb dL_law_1097 rfl ?_
    obtain ⟨r1, M1, e1, e2, hAl1⟩ := c_waterIn hAl (0)
    have hAl2 := hAl1.mono (B' := B + 16400) (by omega) (by omega)
    refine lw_XR e1 (As := [.int 0]) (rest := []) ⟨hx, hb, hml, hown, hts⟩ (cX9_waterInM l D cy ad hh aa pa H.size F (0)) (cwV 1 hts gL_law_X9_waterIn rfl rfl rfl hlX9_waterIn ⟨Nat.le_of_ble_eq_true rfl, Nat.le_of_ble_eq_true rfl⟩) hK hP hD hS hA rfl hl.1 rfl (Nat.le_of_ble_eq_true rfl) dL_law_1098 hf0 (fun H locs hP hD hS => ?_)
    refine lv_aload_n hx hb dL_law_1101 rfl (lv_at hl 2 rfl) ?_
    refine lv_aload_n hx hb dL_law_1102 rfl (lv_at hl 0 rfl) ?_
    refine lv_iload hx hb dL_law_1103 (lv_at hl 4 rfl) ?_
    refine lv_iconst (v := 1) hx hb dL_law_1105 rfl ?_
    refine lv_iadd hx hb dL_law_1106 ?_
    refine va_sld hx hb hX hbl hbA hS hi1 dL_law_1107 ?_
    refine lv_if_eq (tgt := 1115) hx hb dL_law_1108 (by decide) (fun _ => ?_) (fun c => absurd c1090 c)
    refine lv_iconst (v := 0) hx hb dL_law_1115 rfl ?_
    refine lw_MI e2 (As := [.int 0]) (rest := [.int r1]) ⟨hx, hb, hml, hown, hts⟩ (cX10_waterInM l D cy h a H.size M (0)) (cwV 1 hts gL_law_X10_waterIn rfl rfl rfl hlX10_waterIn ⟨Nat.le_of_ble_eq_true rfl, Nat.le_of_ble_eq_true rfl⟩) hK hP hD hS hA rfl hl.1 rfl (Nat.le_of_ble_eq_true rfl) dL_law_1116 hf0 (fun H locs hP hD hS => ?_)
    refine lv_icmp_eq (tgt := 2200) hx hb dL_law_1119 (by decide) (fun _ => ?_) (fun c => absurd rfl c)
    refine W.widen (k := cells + 1) (n := slots + 6) (Nat.le_add_right _ _) (Nat.le_add_right _ _) ?_
    exact kk d0 hd0 F M1 f H locs ls hAl2 (lv_sub hl [0, 1, 2, 3, 4] rfl) hP hD hS
  · refine lv_iconst (v := 1) hx hb dL_law_1093 rfl ?_
    refine lv_goto (tgt := 1098) hx hb dL_law_1094 (by decide) ?_
    obtain ⟨r1, M1, e1, e2, hAl1⟩ := c_waterIn hAl (1)
    have hAl2 := hAl1.mono (B' := B + 16400) (by omega) (by omega)
    refine lw_XR e1 (As := [.int 1]) (rest := []) ⟨hx, hb, hml, hown, hts⟩ (cX9_waterInM l D cy ad hh aa pa H.size F (1)) (cwV 1 hts gL_law_X9_waterIn rfl rfl rfl hlX9_waterIn ⟨Nat.le_of_ble_eq_true rfl, Nat.le_of_ble_eq_true rfl⟩) hK hP hD hS hA rfl hl.1 rfl (Nat.le_of_ble_eq_true rfl) dL_law_1098 hf0 (fun H locs hP hD hS => ?_)
    refine lv_aload_n hx hb dL_law_1101 rfl (lv_at hl 2 rfl) ?_
    refine lv_aload_n hx hb dL_law_1102 rfl (lv_at hl 0 rfl) ?_
    refine lv_iload hx hb dL_law_1103 (lv_at hl 4 rfl) ?_
    refine lv_iconst (v := 1) hx hb dL_law_1105 rfl ?_
    refine lv_iadd hx hb dL_law_1106 ?_
    refine va_sld hx hb hX hbl hbA hS hi1 dL_law_1107 ?_
    refine lv_if_eq (tgt := 1115) hx hb dL_law_1108 (by decide) (fun c => absurd c c1090) (fun _ => ?_)
    refine lv_iconst (v := 1) hx hb dL_law_1111 rfl ?_
    refine lv_goto (tgt := 1116) hx hb dL_law_1112 (by decide) ?_
    refine lw_MI e2 (As := [.int 1]) (rest := [.int r1]) ⟨hx, hb, hml, hown, hts⟩ (cX10_waterInM l D cy h a H.size M (1)) (cwV 1 hts gL_law_X10_waterIn rfl rfl rfl hlX10_waterIn ⟨Nat.le_of_ble_eq_true rfl, Nat.le_of_ble_eq_true rfl⟩) hK hP hD hS hA rfl hl.1 rfl (Nat.le_of_ble_eq_true rfl) dL_law_1116 hf0 (fun H locs hP hD hS => ?_)
    refine lv_icmp_eq (tgt := 2200) hx hb dL_law_1119 (by decide) (fun _ => ?_) (fun c => absurd rfl c)
    refine W.widen (k := cells + 1) (n := slots + 6) (Nat.le_add_right _ _) (Nat.le_add_right _ _) ?_
    exact kk d0 hd0 F M1 f H locs ls hAl2 (lv_sub hl [0, 1, 2, 3, 4] rfl) hP hD hS
set_option maxHeartbeats 4000000 in
set_option maxRecDepth 100000 in
theorem lk20 (l : Launch) (hfl : l.stackTraces = false) : lGo l 1124 := by
  intro p e s m args below meth c D cy A za zv ad hh aa pa h a ho b L xs d0 E0 hd0 B F M f i hAl hB hi1 hi2 hi3 H locs ls cells slots Q hf hl hP hD hS kk
  obtain ⟨hx, hb, hml, hown, hts, hK, hA, hZ, hN, hX, hbl, hbA⟩ := E0.draw d0
  have hf0 : cells ≤ room_1.cells ∧ slots ≤ room_1.slots := ⟨Nat.le_trans (Nat.le_add_right _ _) hf.1, Nat.le_trans (Nat.le_add_right _ _) hf.2⟩
  refine lv_aload_n hx hb dL_law_1124 rfl (lv_at hl 1 rfl) ?_
  obtain ⟨r1, M1, e1, e2, hAl1⟩ := c_list hAl 
  have hAl2 := hAl1.mono (B' := B + 16400) (by omega) (by omega)
  refine lw_XR e1 (As := []) (rest := []) ⟨hx, hb, hml, hown, hts⟩ (cX9_listM l D cy ad hh aa pa H.size F ) (cwV 0 hts gL_law_X9_list rfl rfl rfl hlX9_list ⟨Nat.le_of_ble_eq_true rfl, Nat.le_of_ble_eq_true rfl⟩) hK hP hD hS hA rfl hl.1 rfl (Nat.le_of_ble_eq_true rfl) dL_law_1125 hf0 (fun H locs hP hD hS => ?_)
  refine lv_aload_n hx hb dL_law_1128 rfl (lv_at hl 2 rfl) ?_
  refine lw_MI e2 (As := []) (rest := [.int r1]) ⟨hx, hb, hml, hown, hts⟩ (cX10_listM l D cy h a H.size M ) (cwV 0 hts gL_law_X10_list rfl rfl rfl hlX10_list ⟨Nat.le_of_ble_eq_true rfl, Nat.le_of_ble_eq_true rfl⟩) hK hP hD hS hA rfl hl.1 rfl (Nat.le_of_ble_eq_true rfl) dL_law_1129 hf0 (fun H locs hP hD hS => ?_)
  refine lv_icmp_eq (tgt := 2200) hx hb dL_law_1132 (by decide) (fun _ => ?_) (fun c => absurd rfl c)
  refine W.widen (k := cells + 1) (n := slots + 6) (Nat.le_add_right _ _) (Nat.le_add_right _ _) ?_
  exact kk d0 hd0 F M1 f H locs ls hAl2 (lv_sub hl [0, 1, 2, 3, 4] rfl) hP hD hS
set_option maxHeartbeats 4000000 in
set_option maxRecDepth 100000 in
theorem lk21 (l : Launch) (hfl : l.stackTraces = false) : lGo l 1137 := by
  intro p e s m args below meth c D cy A za zv ad hh aa pa h a ho b L xs d0 E0 hd0 B F M f i hAl hB hi1 hi2 hi3 H locs ls cells slots Q hf hl hP hD hS kk
  obtain ⟨hx, hb, hml, hown, hts, hK, hA, hZ, hN, hX, hbl, hbA⟩ := E0.draw d0
  have hf0 : cells ≤ room_1.cells ∧ slots ≤ room_1.slots := ⟨Nat.le_trans (Nat.le_add_right _ _) hf.1, Nat.le_trans (Nat.le_add_right _ _) hf.2⟩
  refine lv_aload_n hx hb dL_law_1137 rfl (lv_at hl 1 rfl) ?_
  obtain ⟨r1, M1, e1, e2, hAl1⟩ := c_heaviest hAl 
  have hAl2 := hAl1.mono (B' := B + 16400) (by omega) (by omega)
  refine lw_XR e1 (As := []) (rest := []) ⟨hx, hb, hml, hown, hts⟩ (cX9_heaviestM l D cy ad hh aa pa H.size F ) (cwV 0 hts gL_law_X9_heaviest rfl rfl rfl hlX9_heaviest ⟨Nat.le_of_ble_eq_true rfl, Nat.le_of_ble_eq_true rfl⟩) hK hP hD hS hA rfl hl.1 rfl (Nat.le_of_ble_eq_true rfl) dL_law_1138 hf0 (fun H locs hP hD hS => ?_)
  refine lv_aload_n hx hb dL_law_1141 rfl (lv_at hl 2 rfl) ?_
  refine lw_MI e2 (As := []) (rest := [.int r1]) ⟨hx, hb, hml, hown, hts⟩ (cX10_heaviestM l D cy h a H.size M ) (cwV 0 hts gL_law_X10_heaviest rfl rfl rfl hlX10_heaviest ⟨Nat.le_of_ble_eq_true rfl, Nat.le_of_ble_eq_true rfl⟩) hK hP hD hS hA rfl hl.1 rfl (Nat.le_of_ble_eq_true rfl) dL_law_1142 hf0 (fun H locs hP hD hS => ?_)
  refine lv_icmp_eq (tgt := 2200) hx hb dL_law_1145 (by decide) (fun _ => ?_) (fun c => absurd rfl c)
  refine W.widen (k := cells + 1) (n := slots + 6) (Nat.le_add_right _ _) (Nat.le_add_right _ _) ?_
  exact kk d0 hd0 F M1 f H locs ls hAl2 (lv_sub hl [0, 1, 2, 3, 4] rfl) hP hD hS
set_option maxHeartbeats 4000000 in
set_option maxRecDepth 100000 in
theorem lk22 (l : Launch) (hfl : l.stackTraces = false) : lGo l 1150 := by
  intro p e s m args below meth c D cy A za zv ad hh aa pa h a ho b L xs d0 E0 hd0 B F M f i hAl hB hi1 hi2 hi3 H locs ls cells slots Q hf hl hP hD hS kk
  obtain ⟨hx, hb, hml, hown, hts, hK, hA, hZ, hN, hX, hbl, hbA⟩ := E0.draw d0
  refine lv_aload_n hx hb dL_law_1150 rfl (lv_at hl 1 rfl) ?_
  refine lv_aload_n hx hb dL_law_1151 rfl (lv_at hl 0 rfl) ?_
  refine lv_iload hx hb dL_law_1152 (lv_at hl 4 rfl) ?_
  refine lv_iconst (v := 1) hx hb dL_law_1154 rfl ?_
  refine lv_iadd hx hb dL_law_1155 ?_
  refine va_sld hx hb hX hbl hbA hS hi1 dL_law_1156 ?_
  refine lv_aload_n hx hb dL_law_1157 rfl (lv_at hl 3 rfl) ?_
  obtain ⟨F1, M1, b1, hAl1, e2, h1⟩ := lz_1 (c_whyNot hAl ((xs (i + 1).toNatClampNeg))) f
  have hAl2 := hAl1.mono (B' := B + 16400) (by omega) (by omega)
  refine lw_H (As := [.ref (ad 0), .int (xs (i + 1).toNatClampNeg), .ref ho]) (rest := []) ⟨hx, hb, hml, hown, hts⟩ (cL_whyNotM l hfl D cy za zv ad hh aa pa ho H.size F f ((xs (i + 1).toNatClampNeg)) _ h1) (vx_cwSW 3 hts gL_law_L_whyNot rfl rfl rfl hlL_whyNot ⟨Nat.le_of_ble_eq_true rfl, Nat.le_of_ble_eq_true rfl⟩) hN hZ hK hP hD hS hA rfl hl.1 rfl (Nat.le_of_ble_eq_true rfl) dL_law_1158 hf (fun r q H locs hq hP hD hS => ?_)
  obtain ⟨F2, f2⟩ := q
  obtain ⟨hq1, hq2, hq3⟩ := hq
  replace hq2 : F2 = F1 := hq2
  subst hq2
  replace hq3 : r = 0 → f2 (Int32.toNatClampNeg 0) = b1.toInt64 := hq3
  replace hP : va_P D vwCl (wLW cy ad hh aa pa h a ho F2 M f2) H := hP
  replace hD : va_D A (wLW cy ad hh aa pa h a ho F2 M f2) := hD
  refine lv_istore (lv' := [(5, .int r), (0, .ref b), (1, .ref (ad 0)), (2, .ref h), (3, .ref ho), (4, .int i)]) hx hb dL_law_1161 hl (by decide) rfl (fun ls hl => ?_)
  refine lv_aload_n hx hb dL_law_1163 rfl (lv_at hl 3 rfl) ?_
  refine lv_aload_n hx hb dL_law_1164 rfl (lv_at hl 1 rfl) ?_
  refine lv_iload hx hb dL_law_1165 (lv_at hl 5 rfl) ?_
  refine lv_iconst (v := 1) hx hb dL_law_1167 rfl ?_
  refine lv_iadd hx hb dL_law_1168 ?_
  refine va_sld hx hb hX hbl hbA hS hi1 dL_law_1169 ?_
  refine lw_MI e2 (As := [.int (xs (i + 1).toNatClampNeg)]) (rest := []) ⟨hx, hb, hml, hown, hts⟩ (cX10_whyNotM l D cy h a H.size M ((xs (i + 1).toNatClampNeg))) (cwV 1 hts gL_law_X10_whyNot rfl rfl rfl hlX10_whyNot ⟨Nat.le_of_ble_eq_true rfl, Nat.le_of_ble_eq_true rfl⟩) hK hP hD hS hA rfl hl.1 rfl (Nat.le_of_ble_eq_true rfl) dL_law_1170 hf (fun H locs hP hD hS => ?_)
  refine lv_istore (lv' := [(6, .int b1), (5, .int r), (0, .ref b), (1, .ref (ad 0)), (2, .ref h), (3, .ref ho), (4, .int i)]) hx hb dL_law_1173 hl (by decide) rfl (fun ls hl => ?_)
  refine lv_aload_n hx hb dL_law_1175 rfl (lv_at hl 4 rfl) ?_
  refine lw_MR (o := fX10_thrown M1) (r0 := mTh M1) rfl (As := []) (rest := []) ⟨hx, hb, hml, hown, hts⟩ (cX10_thrownM l D cy h a H.size M1) (cwV 0 hts gL_law_X10_thrown rfl rfl rfl hlX10_thrown ⟨Nat.le_of_ble_eq_true rfl, Nat.le_of_ble_eq_true rfl⟩) hK hP hD hS hA rfl hl.1 rfl (Nat.le_of_ble_eq_true rfl) dL_law_1176 hf (fun H locs hP hD hS => ?_)
  refine lv_iload hx hb dL_law_1179 (lv_at hl 1 rfl) ?_
  refine lv_icmp_eq (tgt := 1186) hx hb dL_law_1181 (by decide) (fun _ => ?_) (fun c => absurd hq1.symm c)
  refine lv_iload hx hb dL_law_1186 (lv_at hl 1 rfl) ?_
  refine lv_if_ne (tgt := 1203) hx hb dL_law_1188 (by decide) (fun c1188 => ?_) (fun c1188 => ?_)
  · refine lv_goto (tgt := 2200) hx hb dL_law_1203 (by decide) ?_
    exact kk d0 hd0 F2 M1 f2 H locs ls hAl2 (lv_sub hl [2, 3, 4, 5, 6] rfl) hP hD hS
  · refine lv_aload_n hx hb dL_law_1191 rfl (lv_at hl 5 rfl) ?_
    refine lv_iconst (v := 0) hx hb dL_law_1192 rfl ?_
    refine va_lald (ws := wLW cy ad hh aa pa h a ho F2 M1 f2) (cA := cy 3) (n := 1) (f := f2) hx hb hK.1 hP 0 3 rfl rfl (inb_vp (by decide)) dL_law_1193 ?_
    refine lv_iload hx hb dL_law_1194 (lv_at hl 0 rfl) ?_
    refine lv_i2l (v := b1.toInt64) hx hb dL_law_1196 rfl ?_
    refine W.lcmp hx hb dL_law_1197 ?_
    refine lv_if_eq (tgt := 1203) hx hb dL_law_1198 (by decide) (fun _ => ?_) (fun c => absurd (by rw [hq3 c1188]; exact lg_cmp_self _) c)
    refine lv_goto (tgt := 2200) hx hb dL_law_1203 (by decide) ?_
    exact kk d0 hd0 F2 M1 f2 H locs ls hAl2 (lv_sub hl [2, 3, 4, 5, 6] rfl) hP hD hS
set_option maxHeartbeats 4000000 in
set_option maxRecDepth 100000 in
theorem lk23 (l : Launch) (hfl : l.stackTraces = false) : lGo l 1206 := by
  intro p e s m args below meth c D cy A za zv ad hh aa pa h a ho b L xs d0 E0 hd0 B F M f i hAl hB hi1 hi2 hi3 H locs ls cells slots Q hf hl hP hD hS kk
  obtain ⟨hx, hb, hml, hown, hts, hK, hA, hZ, hN, hX, hbl, hbA⟩ := E0.draw d0
  refine lv_aload_n hx hb dL_law_1206 rfl (lv_at hl 1 rfl) ?_
  refine lv_aload_n hx hb dL_law_1207 rfl (lv_at hl 0 rfl) ?_
  refine lv_iload hx hb dL_law_1208 (lv_at hl 4 rfl) ?_
  refine lv_iconst (v := 1) hx hb dL_law_1210 rfl ?_
  refine lv_iadd hx hb dL_law_1211 ?_
  refine va_sld hx hb hX hbl hbA hS hi1 dL_law_1212 ?_
  refine lv_aload_n hx hb dL_law_1213 rfl (lv_at hl 3 rfl) ?_
  obtain ⟨F1, M1, b1, hAl1, e2, h1⟩ := lz_1 (c_laneFor hAl ((xs (i + 1).toNatClampNeg))) f
  have hAl2 := hAl1.mono (B' := B + 16400) (by omega) (by omega)
  refine lw_H (As := [.ref (ad 0), .int (xs (i + 1).toNatClampNeg), .ref ho]) (rest := []) ⟨hx, hb, hml, hown, hts⟩ (cL_laneForM l hfl D cy za zv ad hh aa pa ho H.size F f ((xs (i + 1).toNatClampNeg)) _ h1) (vx_cwSW 3 hts gL_law_L_laneFor rfl rfl rfl hlL_laneFor ⟨Nat.le_of_ble_eq_true rfl, Nat.le_of_ble_eq_true rfl⟩) hN hZ hK hP hD hS hA rfl hl.1 rfl (Nat.le_of_ble_eq_true rfl) dL_law_1214 hf (fun r q H locs hq hP hD hS => ?_)
  obtain ⟨F2, f2⟩ := q
  obtain ⟨hq1, hq2, hq3⟩ := hq
  replace hq2 : F2 = F1 := hq2
  subst hq2
  replace hq3 : r = 0 → f2 (Int32.toNatClampNeg 0) = b1.toInt64 := hq3
  replace hP : va_P D vwCl (wLW cy ad hh aa pa h a ho F2 M f2) H := hP
  replace hD : va_D A (wLW cy ad hh aa pa h a ho F2 M f2) := hD
  refine lv_istore (lv' := [(5, .int r), (0, .ref b), (1, .ref (ad 0)), (2, .ref h), (3, .ref ho), (4, .int i)]) hx hb dL_law_1217 hl (by decide) rfl (fun ls hl => ?_)
  refine lv_aload_n hx hb dL_law_1219 rfl (lv_at hl 3 rfl) ?_
  refine lv_aload_n hx hb dL_law_1220 rfl (lv_at hl 1 rfl) ?_
  refine lv_iload hx hb dL_law_1221 (lv_at hl 5 rfl) ?_
  refine lv_iconst (v := 1) hx hb dL_law_1223 rfl ?_
  refine lv_iadd hx hb dL_law_1224 ?_
  refine va_sld hx hb hX hbl hbA hS hi1 dL_law_1225 ?_
  refine lw_MI e2 (As := [.int (xs (i + 1).toNatClampNeg)]) (rest := []) ⟨hx, hb, hml, hown, hts⟩ (cX10_laneForM l D cy h a H.size M ((xs (i + 1).toNatClampNeg))) (cwV 1 hts gL_law_X10_laneFor rfl rfl rfl hlX10_laneFor ⟨Nat.le_of_ble_eq_true rfl, Nat.le_of_ble_eq_true rfl⟩) hK hP hD hS hA rfl hl.1 rfl (Nat.le_of_ble_eq_true rfl) dL_law_1226 hf (fun H locs hP hD hS => ?_)
  refine lv_istore (lv' := [(6, .int b1), (5, .int r), (0, .ref b), (1, .ref (ad 0)), (2, .ref h), (3, .ref ho), (4, .int i)]) hx hb dL_law_1229 hl (by decide) rfl (fun ls hl => ?_)
  refine lv_aload_n hx hb dL_law_1231 rfl (lv_at hl 4 rfl) ?_
  refine lw_MR (o := fX10_thrown M1) (r0 := mTh M1) rfl (As := []) (rest := []) ⟨hx, hb, hml, hown, hts⟩ (cX10_thrownM l D cy h a H.size M1) (cwV 0 hts gL_law_X10_thrown rfl rfl rfl hlX10_thrown ⟨Nat.le_of_ble_eq_true rfl, Nat.le_of_ble_eq_true rfl⟩) hK hP hD hS hA rfl hl.1 rfl (Nat.le_of_ble_eq_true rfl) dL_law_1232 hf (fun H locs hP hD hS => ?_)
  refine lv_iload hx hb dL_law_1235 (lv_at hl 1 rfl) ?_
  refine lv_icmp_eq (tgt := 1242) hx hb dL_law_1237 (by decide) (fun _ => ?_) (fun c => absurd hq1.symm c)
  refine lv_iload hx hb dL_law_1242 (lv_at hl 1 rfl) ?_
  refine lv_if_ne (tgt := 1259) hx hb dL_law_1244 (by decide) (fun c1244 => ?_) (fun c1244 => ?_)
  · refine lv_goto (tgt := 2200) hx hb dL_law_1259 (by decide) ?_
    exact kk d0 hd0 F2 M1 f2 H locs ls hAl2 (lv_sub hl [2, 3, 4, 5, 6] rfl) hP hD hS
  · refine lv_aload_n hx hb dL_law_1247 rfl (lv_at hl 5 rfl) ?_
    refine lv_iconst (v := 0) hx hb dL_law_1248 rfl ?_
    refine va_lald (ws := wLW cy ad hh aa pa h a ho F2 M1 f2) (cA := cy 3) (n := 1) (f := f2) hx hb hK.1 hP 0 3 rfl rfl (inb_vp (by decide)) dL_law_1249 ?_
    refine lv_iload hx hb dL_law_1250 (lv_at hl 0 rfl) ?_
    refine lv_i2l (v := b1.toInt64) hx hb dL_law_1252 rfl ?_
    refine W.lcmp hx hb dL_law_1253 ?_
    refine lv_if_eq (tgt := 1259) hx hb dL_law_1254 (by decide) (fun _ => ?_) (fun c => absurd (by rw [hq3 c1244]; exact lg_cmp_self _) c)
    refine lv_goto (tgt := 2200) hx hb dL_law_1259 (by decide) ?_
    exact kk d0 hd0 F2 M1 f2 H locs ls hAl2 (lv_sub hl [2, 3, 4, 5, 6] rfl) hP hD hS
