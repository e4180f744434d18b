set_option maxHeartbeats 4000000 in
set_option maxRecDepth 100000 in
theorem lk35 (l : Launch) (hfl : l.stackTraces = false) : lGo l 1776 := by
  intro p e s m args below meth c D cy A za zv ad hh aa pa h a ho b L xs d0 E0 hd0 B F M f i hAl hB hi1 hi2 hi3 H locs ls cells slots Q hf hl hP hD hS kk
  obtain ⟨hx, hb, hml, hown, hts, hK, hA, hZ, hN, hX, hbl, hbA⟩ := E0.draw d0
  refine lv_aload_n hx hb dL_law_1776 rfl (lv_at hl 1 rfl) ?_
  refine lv_aload_n hx hb dL_law_1777 rfl (lv_at hl 0 rfl) ?_
  refine lv_iload hx hb dL_law_1778 (lv_at hl 4 rfl) ?_
  refine lv_iconst (v := 1) hx hb dL_law_1780 rfl ?_
  refine lv_iadd hx hb dL_law_1781 ?_
  refine va_sld hx hb hX hbl hbA hS hi1 dL_law_1782 ?_
  refine lv_aload_n hx hb dL_law_1783 rfl (lv_at hl 3 rfl) ?_
  obtain ⟨F1, M1, b1, hAl1, e2, h1⟩ := lz_1 (c_unload hAl (by omega) ((xs (i + 1).toNatClampNeg))) f
  have hAl2 := hAl1.mono (B' := B + 16400) (by omega) (by omega)
  refine lw_H (As := [.ref (ad 0), .int (xs (i + 1).toNatClampNeg), .ref ho]) (rest := []) ⟨hx, hb, hml, hown, hts⟩ (cL_unloadM l hfl D cy za zv ad hh aa pa ho H.size F f ((xs (i + 1).toNatClampNeg)) _ h1) (vx_cwSW 3 hts gL_law_L_unload rfl rfl rfl hlL_unload ⟨Nat.le_of_ble_eq_true rfl, Nat.le_of_ble_eq_true rfl⟩) hN hZ hK hP hD hS hA rfl hl.1 rfl (Nat.le_of_ble_eq_true rfl) dL_law_1784 hf (fun r q H locs hq hP hD hS => ?_)
  obtain ⟨F2, f2⟩ := q
  obtain ⟨hq1, hq2, hq3⟩ := hq
  replace hq2 : F2 = F1 := hq2
  subst hq2
  replace hq3 : r = 0 → f2 (Int32.toNatClampNeg 0) = b1.toInt64 := hq3
  replace hP : va_P D vwCl (wLW cy ad hh aa pa h a ho F2 M f2) H := hP
  replace hD : va_D A (wLW cy ad hh aa pa h a ho F2 M f2) := hD
  refine lv_istore (lv' := [(5, .int r), (0, .ref b), (1, .ref (ad 0)), (2, .ref h), (3, .ref ho), (4, .int i)]) hx hb dL_law_1787 hl (by decide) rfl (fun ls hl => ?_)
  refine lv_aload_n hx hb dL_law_1789 rfl (lv_at hl 3 rfl) ?_
  refine lv_aload_n hx hb dL_law_1790 rfl (lv_at hl 1 rfl) ?_
  refine lv_iload hx hb dL_law_1791 (lv_at hl 5 rfl) ?_
  refine lv_iconst (v := 1) hx hb dL_law_1793 rfl ?_
  refine lv_iadd hx hb dL_law_1794 ?_
  refine va_sld hx hb hX hbl hbA hS hi1 dL_law_1795 ?_
  refine lw_MI e2 (As := [.int (xs (i + 1).toNatClampNeg)]) (rest := []) ⟨hx, hb, hml, hown, hts⟩ (cX10_unloadM l D cy h a H.size M ((xs (i + 1).toNatClampNeg))) (cwV 1 hts gL_law_X10_unload rfl rfl rfl hlX10_unload ⟨Nat.le_of_ble_eq_true rfl, Nat.le_of_ble_eq_true rfl⟩) hK hP hD hS hA rfl hl.1 rfl (Nat.le_of_ble_eq_true rfl) dL_law_1796 hf (fun H locs hP hD hS => ?_)
  refine lv_istore (lv' := [(6, .int b1), (5, .int r), (0, .ref b), (1, .ref (ad 0)), (2, .ref h), (3, .ref ho), (4, .int i)]) hx hb dL_law_1799 hl (by decide) rfl (fun ls hl => ?_)
  refine lv_aload_n hx hb dL_law_1801 rfl (lv_at hl 4 rfl) ?_
  refine lw_MR (o := fX10_thrown M1) (r0 := mTh M1) rfl (As := []) (rest := []) ⟨hx, hb, hml, hown, hts⟩ (cX10_thrownM l D cy h a H.size M1) (cwV 0 hts gL_law_X10_thrown rfl rfl rfl hlX10_thrown ⟨Nat.le_of_ble_eq_true rfl, Nat.le_of_ble_eq_true rfl⟩) hK hP hD hS hA rfl hl.1 rfl (Nat.le_of_ble_eq_true rfl) dL_law_1802 hf (fun H locs hP hD hS => ?_)
  refine lv_iload hx hb dL_law_1805 (lv_at hl 1 rfl) ?_
  refine lv_icmp_eq (tgt := 1812) hx hb dL_law_1807 (by decide) (fun _ => ?_) (fun c => absurd hq1.symm c)
  refine lv_iload hx hb dL_law_1812 (lv_at hl 1 rfl) ?_
  refine lv_if_ne (tgt := 1829) hx hb dL_law_1814 (by decide) (fun c1814 => ?_) (fun c1814 => ?_)
  · refine lv_goto (tgt := 2200) hx hb dL_law_1829 (by decide) ?_
    exact kk d0 hd0 F2 M1 f2 H locs ls hAl2 (lv_sub hl [2, 3, 4, 5, 6] rfl) hP hD hS
  · refine lv_aload_n hx hb dL_law_1817 rfl (lv_at hl 5 rfl) ?_
    refine lv_iconst (v := 0) hx hb dL_law_1818 rfl ?_
    refine va_lald (ws := wLW cy ad hh aa pa h a ho F2 M1 f2) (cA := cy 3) (n := 1) (f := f2) hx hb hK.1 hP 0 3 rfl rfl (inb_vp (by decide)) dL_law_1819 ?_
    refine lv_iload hx hb dL_law_1820 (lv_at hl 0 rfl) ?_
    refine lv_i2l (v := b1.toInt64) hx hb dL_law_1822 rfl ?_
    refine W.lcmp hx hb dL_law_1823 ?_
    refine lv_if_eq (tgt := 1829) hx hb dL_law_1824 (by decide) (fun _ => ?_) (fun c => absurd (by rw [hq3 c1814]; exact lg_cmp_self _) c)
    refine lv_goto (tgt := 2200) hx hb dL_law_1829 (by decide) ?_
    exact kk d0 hd0 F2 M1 f2 H locs ls hAl2 (lv_sub hl [2, 3, 4, 5, 6] rfl) hP hD hS
set_option maxHeartbeats 4000000 in
set_option maxRecDepth 100000 in
theorem lk36 (l : Launch) (hfl : l.stackTraces = false) : lGo l 1832 := by
  intro p e s m args below meth c D cy A za zv ad hh aa pa h a ho b L xs d0 E0 hd0 B F M f i hAl hB hi1 hi2 hi3 H locs ls cells slots Q hf hl hP hD hS kk
  obtain ⟨hx, hb, hml, hown, hts, hK, hA, hZ, hN, hX, hbl, hbA⟩ := E0.draw d0
  have hf0 : cells ≤ room_1.cells ∧ slots ≤ room_1.slots := ⟨Nat.le_trans (Nat.le_add_right _ _) hf.1, Nat.le_trans (Nat.le_add_right _ _) hf.2⟩
  refine lv_aload_n hx hb dL_law_1832 rfl (lv_at hl 1 rfl) ?_
  refine lv_aload_n hx hb dL_law_1833 rfl (lv_at hl 0 rfl) ?_
  refine lv_iload hx hb dL_law_1834 (lv_at hl 4 rfl) ?_
  refine lv_iconst (v := 1) hx hb dL_law_1836 rfl ?_
  refine lv_iadd hx hb dL_law_1837 ?_
  refine va_sld hx hb hX hbl hbA hS hi1 dL_law_1838 ?_
  refine lv_if_eq (tgt := 1846) hx hb dL_law_1839 (by decide) (fun c1839 => ?_) (fun c1839 => ?_)
  · refine lv_iconst (v := 0) hx hb dL_law_1846 rfl ?_
    obtain ⟨r1, F1, M1, e1, e2, hAl1⟩ := c_setGate hAl (by omega) (x := 0) (by decide)
    have hAl2 := hAl1.mono (B' := B + 16400) (by omega) (by omega)
    refine lw_XI e1 (As := [.int 0]) (rest := []) ⟨hx, hb, hml, hown, hts⟩ (cX9_setGateM l D cy ad hh aa pa H.size F (0)) (cwV 1 hts gL_law_X9_setGate rfl rfl rfl hlX9_setGate ⟨Nat.le_of_ble_eq_true rfl, Nat.le_of_ble_eq_true rfl⟩) hK hP hD hS hA rfl hl.1 rfl (Nat.le_of_ble_eq_true rfl) dL_law_1847 hf0 (fun H locs hP hD hS => ?_)
    refine lv_aload_n hx hb dL_law_1850 rfl (lv_at hl 2 rfl) ?_
    refine lv_aload_n hx hb dL_law_1851 rfl (lv_at hl 0 rfl) ?_
    refine lv_iload hx hb dL_law_1852 (lv_at hl 4 rfl) ?_
    refine lv_iconst (v := 1) hx hb dL_law_1854 rfl ?_
    refine lv_iadd hx hb dL_law_1855 ?_
    refine va_sld hx hb hX hbl hbA hS hi1 dL_law_1856 ?_
    refine lv_if_eq (tgt := 1864) hx hb dL_law_1857 (by decide) (fun _ => ?_) (fun c => absurd c1839 c)
    refine lv_iconst (v := 0) hx hb dL_law_1864 rfl ?_
    refine lw_MI e2 (As := [.int 0]) (rest := [.int r1]) ⟨hx, hb, hml, hown, hts⟩ (cX10_setGateM l D cy h a H.size M (0)) (cwV 1 hts gL_law_X10_setGate rfl rfl rfl hlX10_setGate ⟨Nat.le_of_ble_eq_true rfl, Nat.le_of_ble_eq_true rfl⟩) hK hP hD hS hA rfl hl.1 rfl (Nat.le_of_ble_eq_true rfl) dL_law_1865 hf0 (fun H locs hP hD hS => ?_)
    refine lv_icmp_eq (tgt := 2200) hx hb dL_law_1868 (by decide) (fun _ => ?_) (fun c => absurd rfl c)
    refine W.widen (k := cells + 1) (n := slots + 6) (Nat.le_add_right _ _) (Nat.le_add_right _ _) ?_
    exact kk d0 hd0 F1 M1 f H locs ls hAl2 (lv_sub hl [0, 1, 2, 3, 4] rfl) hP hD hS
  · refine lv_iconst (v := 1) hx hb dL_law_1842 rfl ?_
    refine lv_goto (tgt := 1847) hx hb dL_law_1843 (by decide) ?_
    obtain ⟨r1, F1, M1, e1, e2, hAl1⟩ := c_setGate hAl (by omega) (x := 1) (by decide)
    have hAl2 := hAl1.mono (B' := B + 16400) (by omega) (by omega)
    refine lw_XI e1 (As := [.int 1]) (rest := []) ⟨hx, hb, hml, hown, hts⟩ (cX9_setGateM l D cy ad hh aa pa H.size F (1)) (cwV 1 hts gL_law_X9_setGate rfl rfl rfl hlX9_setGate ⟨Nat.le_of_ble_eq_true rfl, Nat.le_of_ble_eq_true rfl⟩) hK hP hD hS hA rfl hl.1 rfl (Nat.le_of_ble_eq_true rfl) dL_law_1847 hf0 (fun H locs hP hD hS => ?_)
    refine lv_aload_n hx hb dL_law_1850 rfl (lv_at hl 2 rfl) ?_
    refine lv_aload_n hx hb dL_law_1851 rfl (lv_at hl 0 rfl) ?_
    refine lv_iload hx hb dL_law_1852 (lv_at hl 4 rfl) ?_
    refine lv_iconst (v := 1) hx hb dL_law_1854 rfl ?_
    refine lv_iadd hx hb dL_law_1855 ?_
    refine va_sld hx hb hX hbl hbA hS hi1 dL_law_1856 ?_
    refine lv_if_eq (tgt := 1864) hx hb dL_law_1857 (by decide) (fun c => absurd c c1839) (fun _ => ?_)
    refine lv_iconst (v := 1) hx hb dL_law_1860 rfl ?_
    refine lv_goto (tgt := 1865) hx hb dL_law_1861 (by decide) ?_
    refine lw_MI e2 (As := [.int 1]) (rest := [.int r1]) ⟨hx, hb, hml, hown, hts⟩ (cX10_setGateM l D cy h a H.size M (1)) (cwV 1 hts gL_law_X10_setGate rfl rfl rfl hlX10_setGate ⟨Nat.le_of_ble_eq_true rfl, Nat.le_of_ble_eq_true rfl⟩) hK hP hD hS hA rfl hl.1 rfl (Nat.le_of_ble_eq_true rfl) dL_law_1865 hf0 (fun H locs hP hD hS => ?_)
    refine lv_icmp_eq (tgt := 2200) hx hb dL_law_1868 (by decide) (fun _ => ?_) (fun c => absurd rfl c)
    refine W.widen (k := cells + 1) (n := slots + 6) (Nat.le_add_right _ _) (Nat.le_add_right _ _) ?_
    exact kk d0 hd0 F1 M1 f H locs ls hAl2 (lv_sub hl [0, 1, 2, 3, 4] rfl) hP hD hS
set_option maxHeartbeats 4000000 in
set_option maxRecDepth 100000 in
theorem lk37 (l : Launch) (hfl : l.stackTraces = false) : lGo l 1873 := by
  intro p e s m args below meth c D cy A za zv ad hh aa pa h a ho b L xs d0 E0 hd0 B F M f i hAl hB hi1 hi2 hi3 H locs ls cells slots Q hf hl hP hD hS kk
  obtain ⟨hx, hb, hml, hown, hts, hK, hA, hZ, hN, hX, hbl, hbA⟩ := E0.draw d0
  refine lv_aload_n hx hb dL_law_1873 rfl (lv_at hl 1 rfl) ?_
  refine lv_aload_n hx hb dL_law_1874 rfl (lv_at hl 0 rfl) ?_
  refine lv_iload hx hb dL_law_1875 (lv_at hl 4 rfl) ?_
  refine lv_iconst (v := 1) hx hb dL_law_1877 rfl ?_
  refine lv_iadd hx hb dL_law_1878 ?_
  refine va_sld hx hb hX hbl hbA hS hi1 dL_law_1879 ?_
  refine lv_aload_n hx hb dL_law_1880 rfl (lv_at hl 3 rfl) ?_
  obtain ⟨F1, M1, b1, hAl1, e2, h1⟩ := lz_1 (c_crank hAl (by omega) ((xs (i + 1).toNatClampNeg))) f
  have hAl2 := hAl1.mono (B' := B + 16400) (by omega) (by omega)
  refine lw_H (As := [.ref (ad 0), .int (xs (i + 1).toNatClampNeg), .ref ho]) (rest := []) ⟨hx, hb, hml, hown, hts⟩ (cL_crankM l hfl D cy za zv ad hh aa pa ho H.size F f ((xs (i + 1).toNatClampNeg)) _ h1) (vx_cwSW 3 hts gL_law_L_crank rfl rfl rfl hlL_crank ⟨Nat.le_of_ble_eq_true rfl, Nat.le_of_ble_eq_true rfl⟩) hN hZ hK hP hD hS hA rfl hl.1 rfl (Nat.le_of_ble_eq_true rfl) dL_law_1881 hf (fun r q H locs hq hP hD hS => ?_)
  obtain ⟨F2, f2⟩ := q
  obtain ⟨hq1, hq2, hq3⟩ := hq
  replace hq2 : F2 = F1 := hq2
  subst hq2
  replace hq3 : r = 0 → f2 (Int32.toNatClampNeg 0) = b1.toInt64 := hq3
  replace hP : va_P D vwCl (wLW cy ad hh aa pa h a ho F2 M f2) H := hP
  replace hD : va_D A (wLW cy ad hh aa pa h a ho F2 M f2) := hD
  refine lv_istore (lv' := [(5, .int r), (0, .ref b), (1, .ref (ad 0)), (2, .ref h), (3, .ref ho), (4, .int i)]) hx hb dL_law_1884 hl (by decide) rfl (fun ls hl => ?_)
  refine lv_aload_n hx hb dL_law_1886 rfl (lv_at hl 3 rfl) ?_
  refine lv_aload_n hx hb dL_law_1887 rfl (lv_at hl 1 rfl) ?_
  refine lv_iload hx hb dL_law_1888 (lv_at hl 5 rfl) ?_
  refine lv_iconst (v := 1) hx hb dL_law_1890 rfl ?_
  refine lv_iadd hx hb dL_law_1891 ?_
  refine va_sld hx hb hX hbl hbA hS hi1 dL_law_1892 ?_
  refine lw_MI e2 (As := [.int (xs (i + 1).toNatClampNeg)]) (rest := []) ⟨hx, hb, hml, hown, hts⟩ (cX10_crankM l D cy h a H.size M ((xs (i + 1).toNatClampNeg))) (cwV 1 hts gL_law_X10_crank rfl rfl rfl hlX10_crank ⟨Nat.le_of_ble_eq_true rfl, Nat.le_of_ble_eq_true rfl⟩) hK hP hD hS hA rfl hl.1 rfl (Nat.le_of_ble_eq_true rfl) dL_law_1893 hf (fun H locs hP hD hS => ?_)
  refine lv_istore (lv' := [(6, .int b1), (5, .int r), (0, .ref b), (1, .ref (ad 0)), (2, .ref h), (3, .ref ho), (4, .int i)]) hx hb dL_law_1896 hl (by decide) rfl (fun ls hl => ?_)
  refine lv_aload_n hx hb dL_law_1898 rfl (lv_at hl 4 rfl) ?_
  refine lw_MR (o := fX10_thrown M1) (r0 := mTh M1) rfl (As := []) (rest := []) ⟨hx, hb, hml, hown, hts⟩ (cX10_thrownM l D cy h a H.size M1) (cwV 0 hts gL_law_X10_thrown rfl rfl rfl hlX10_thrown ⟨Nat.le_of_ble_eq_true rfl, Nat.le_of_ble_eq_true rfl⟩) hK hP hD hS hA rfl hl.1 rfl (Nat.le_of_ble_eq_true rfl) dL_law_1899 hf (fun H locs hP hD hS => ?_)
  refine lv_iload hx hb dL_law_1902 (lv_at hl 1 rfl) ?_
  refine lv_icmp_eq (tgt := 1909) hx hb dL_law_1904 (by decide) (fun _ => ?_) (fun c => absurd hq1.symm c)
  refine lv_iload hx hb dL_law_1909 (lv_at hl 1 rfl) ?_
  refine lv_if_ne (tgt := 1926) hx hb dL_law_1911 (by decide) (fun c1911 => ?_) (fun c1911 => ?_)
  · refine lv_goto (tgt := 2200) hx hb dL_law_1926 (by decide) ?_
    exact kk d0 hd0 F2 M1 f2 H locs ls hAl2 (lv_sub hl [2, 3, 4, 5, 6] rfl) hP hD hS
  · refine lv_aload_n hx hb dL_law_1914 rfl (lv_at hl 5 rfl) ?_
    refine lv_iconst (v := 0) hx hb dL_law_1915 rfl ?_
    refine va_lald (ws := wLW cy ad hh aa pa h a ho F2 M1 f2) (cA := cy 3) (n := 1) (f := f2) hx hb hK.1 hP 0 3 rfl rfl (inb_vp (by decide)) dL_law_1916 ?_
    refine lv_iload hx hb dL_law_1917 (lv_at hl 0 rfl) ?_
    refine lv_i2l (v := b1.toInt64) hx hb dL_law_1919 rfl ?_
    refine W.lcmp hx hb dL_law_1920 ?_
    refine lv_if_eq (tgt := 1926) hx hb dL_law_1921 (by decide) (fun _ => ?_) (fun c => absurd (by rw [hq3 c1911]; exact lg_cmp_self _) c)
    refine lv_goto (tgt := 2200) hx hb dL_law_1926 (by decide) ?_
    exact kk d0 hd0 F2 M1 f2 H locs ls hAl2 (lv_sub hl [2, 3, 4, 5, 6] rfl) hP hD hS
set_option maxHeartbeats 4000000 in
set_option maxRecDepth 100000 in
theorem lk38 (l : Launch) (hfl : l.stackTraces = false) : lGo l 1929 := by
  intro p e s m args below meth c D cy A za zv ad hh aa pa h a ho b L xs d0 E0 hd0 B F M f i hAl hB hi1 hi2 hi3 H locs ls cells slots Q hf hl hP hD hS kk
  obtain ⟨hx, hb, hml, hown, hts, hK, hA, hZ, hN, hX, hbl, hbA⟩ := E0.draw d0
  refine lv_aload_n hx hb dL_law_1929 rfl (lv_at hl 1 rfl) ?_
  refine lv_aload_n hx hb dL_law_1930 rfl (lv_at hl 0 rfl) ?_
  refine lv_iload hx hb dL_law_1931 (lv_at hl 4 rfl) ?_
  refine lv_iconst (v := 1) hx hb dL_law_1933 rfl ?_
  refine lv_iadd hx hb dL_law_1934 ?_
  refine va_sld hx hb hX hbl hbA hS hi1 dL_law_1935 ?_
  refine lv_aload_n hx hb dL_law_1936 rfl (lv_at hl 0 rfl) ?_
  refine lv_iload hx hb dL_law_1937 (lv_at hl 4 rfl) ?_
  refine lv_iconst (v := 2) hx hb dL_law_1939 rfl ?_
  refine lv_iadd hx hb dL_law_1940 ?_
  refine va_sld hx hb hX hbl hbA hS hi2 dL_law_1941 ?_
  refine lv_aload_n hx hb dL_law_1942 rfl (lv_at hl 0 rfl) ?_
  refine lv_iload hx hb dL_law_1943 (lv_at hl 4 rfl) ?_
  refine lv_iconst (v := 3) hx hb dL_law_1945 rfl ?_
  refine lv_iadd hx hb dL_law_1946 ?_
  refine va_sld hx hb hX hbl hbA hS hi3 dL_law_1947 ?_
  refine lv_aload_n hx hb dL_law_1948 rfl (lv_at hl 3 rfl) ?_
  obtain ⟨F1, M1, b1, hAl1, e2, h1⟩ := lz_1 (c_setWinch hAl (by omega) ((xs (i + 1).toNatClampNeg)) ((xs (i + 2).toNatClampNeg)) ((xs (i + 3).toNatClampNeg))) f
  have hAl2 := hAl1.mono (B' := B + 16400) (by omega) (by omega)
  refine lw_H (As := [.ref (ad 0), .int (xs (i + 1).toNatClampNeg), .int (xs (i + 2).toNatClampNeg), .int (xs (i + 3).toNatClampNeg), .ref ho]) (rest := []) ⟨hx, hb, hml, hown, hts⟩ (cL_setWinchM l hfl D cy za zv ad hh aa pa ho H.size F f ((xs (i + 1).toNatClampNeg)) ((xs (i + 2).toNatClampNeg)) ((xs (i + 3).toNatClampNeg)) _ h1) (vx_cwSW 5 hts gL_law_L_setWinch rfl rfl rfl hlL_setWinch ⟨Nat.le_of_ble_eq_true rfl, Nat.le_of_ble_eq_true rfl⟩) hN hZ hK hP hD hS hA rfl hl.1 rfl (Nat.le_of_ble_eq_true rfl) dL_law_1949 hf (fun r q H locs hq hP hD hS => ?_)
  obtain ⟨F2, f2⟩ := q
  obtain ⟨hq1, hq2, hq3⟩ := hq
  replace hq2 : F2 = F1 := hq2
  subst hq2
  replace hq3 : r = 0 → f2 (Int32.toNatClampNeg 0) = b1.toInt64 := hq3
  replace hP : va_P D vwCl (wLW cy ad hh aa pa h a ho F2 M f2) H := hP
  replace hD : va_D A (wLW cy ad hh aa pa h a ho F2 M f2) := hD
  refine lv_istore (lv' := [(5, .int r), (0, .ref b), (1, .ref (ad 0)), (2, .ref h), (3, .ref ho), (4, .int i)]) hx hb dL_law_1952 hl (by decide) rfl (fun ls hl => ?_)
  refine lv_aload_n hx hb dL_law_1954 rfl (lv_at hl 3 rfl) ?_
  refine lv_aload_n hx hb dL_law_1955 rfl (lv_at hl 1 rfl) ?_
  refine lv_iload hx hb dL_law_1956 (lv_at hl 5 rfl) ?_
  refine lv_iconst (v := 1) hx hb dL_law_1958 rfl ?_
  refine lv_iadd hx hb dL_law_1959 ?_
  refine va_sld hx hb hX hbl hbA hS hi1 dL_law_1960 ?_
  refine lv_aload_n hx hb dL_law_1961 rfl (lv_at hl 1 rfl) ?_
  refine lv_iload hx hb dL_law_1962 (lv_at hl 5 rfl) ?_
  refine lv_iconst (v := 2) hx hb dL_law_1964 rfl ?_
  refine lv_iadd hx hb dL_law_1965 ?_
  refine va_sld hx hb hX hbl hbA hS hi2 dL_law_1966 ?_
  refine lv_aload_n hx hb dL_law_1967 rfl (lv_at hl 1 rfl) ?_
  refine lv_iload hx hb dL_law_1968 (lv_at hl 5 rfl) ?_
  refine lv_iconst (v := 3) hx hb dL_law_1970 rfl ?_
  refine lv_iadd hx hb dL_law_1971 ?_
  refine va_sld hx hb hX hbl hbA hS hi3 dL_law_1972 ?_
  refine lw_MI e2 (As := [.int (xs (i + 1).toNatClampNeg), .int (xs (i + 2).toNatClampNeg), .int (xs (i + 3).toNatClampNeg)]) (rest := []) ⟨hx, hb, hml, hown, hts⟩ (cX10_setWinchM l D cy h a H.size M ((xs (i + 1).toNatClampNeg)) ((xs (i + 2).toNatClampNeg)) ((xs (i + 3).toNatClampNeg))) (cwV 3 hts gL_law_X10_setWinch rfl rfl rfl hlX10_setWinch ⟨Nat.le_of_ble_eq_true rfl, Nat.le_of_ble_eq_true rfl⟩) hK hP hD hS hA rfl hl.1 rfl (Nat.le_of_ble_eq_true rfl) dL_law_1973 hf (fun H locs hP hD hS => ?_)
  refine lv_istore (lv' := [(6, .int b1), (5, .int r), (0, .ref b), (1, .ref (ad 0)), (2, .ref h), (3, .ref ho), (4, .int i)]) hx hb dL_law_1976 hl (by decide) rfl (fun ls hl => ?_)
  refine lv_aload_n hx hb dL_law_1978 rfl (lv_at hl 4 rfl) ?_
  refine lw_MR (o := fX10_thrown M1) (r0 := mTh M1) rfl (As := []) (rest := []) ⟨hx, hb, hml, hown, hts⟩ (cX10_thrownM l D cy h a H.size M1) (cwV 0 hts gL_law_X10_thrown rfl rfl rfl hlX10_thrown ⟨Nat.le_of_ble_eq_true rfl, Nat.le_of_ble_eq_true rfl⟩) hK hP hD hS hA rfl hl.1 rfl (Nat.le_of_ble_eq_true rfl) dL_law_1979 hf (fun H locs hP hD hS => ?_)
  refine lv_iload hx hb dL_law_1982 (lv_at hl 1 rfl) ?_
  refine lv_icmp_eq (tgt := 1989) hx hb dL_law_1984 (by decide) (fun _ => ?_) (fun c => absurd hq1.symm c)
  refine lv_iload hx hb dL_law_1989 (lv_at hl 1 rfl) ?_
  refine lv_if_ne (tgt := 2006) hx hb dL_law_1991 (by decide) (fun c1991 => ?_) (fun c1991 => ?_)
  · refine lv_goto (tgt := 2200) hx hb dL_law_2006 (by decide) ?_
    exact kk d0 hd0 F2 M1 f2 H locs ls hAl2 (lv_sub hl [2, 3, 4, 5, 6] rfl) hP hD hS
  · refine lv_aload_n hx hb dL_law_1994 rfl (lv_at hl 5 rfl) ?_
    refine lv_iconst (v := 0) hx hb dL_law_1995 rfl ?_
    refine va_lald (ws := wLW cy ad hh aa pa h a ho F2 M1 f2) (cA := cy 3) (n := 1) (f := f2) hx hb hK.1 hP 0 3 rfl rfl (inb_vp (by decide)) dL_law_1996 ?_
    refine lv_iload hx hb dL_law_1997 (lv_at hl 0 rfl) ?_
    refine lv_i2l (v := b1.toInt64) hx hb dL_law_1999 rfl ?_
    refine W.lcmp hx hb dL_law_2000 ?_
    refine lv_if_eq (tgt := 2006) hx hb dL_law_2001 (by decide) (fun _ => ?_) (fun c => absurd (by rw [hq3 c1991]; exact lg_cmp_self _) c)
    refine lv_goto (tgt := 2200) hx hb dL_law_2006 (by decide) ?_
    exact kk d0 hd0 F2 M1 f2 H locs ls hAl2 (lv_sub hl [2, 3, 4, 5, 6] rfl) hP hD hS
set_option maxHeartbeats 4000000 in
set_option maxRecDepth 100000 in
theorem lk39 (l : Launch) (hfl : l.stackTraces = false) : lGo l 2009 := by
  intro p e s m args below meth c D cy A za zv ad hh aa pa h a ho b L xs d0 E0 hd0 B F M f i hAl hB hi1 hi2 hi3 H locs ls cells slots Q hf hl hP hD hS kk
  obtain ⟨hx, hb, hml, hown, hts, hK, hA, hZ, hN, hX, hbl, hbA⟩ := E0.draw d0
  refine lv_aload_n hx hb dL_law_2009 rfl (lv_at hl 1 rfl) ?_
  refine lv_aload_n hx hb dL_law_2010 rfl (lv_at hl 0 rfl) ?_
  refine lv_iload hx hb dL_law_2011 (lv_at hl 4 rfl) ?_
  refine lv_iconst (v := 1) hx hb dL_law_2013 rfl ?_
  refine lv_iadd hx hb dL_law_2014 ?_
  refine va_sld hx hb hX hbl hbA hS hi1 dL_law_2015 ?_
  refine lv_aload_n hx hb dL_law_2016 rfl (lv_at hl 0 rfl) ?_
  refine lv_iload hx hb dL_law_2017 (lv_at hl 4 rfl) ?_
  refine lv_iconst (v := 2) hx hb dL_law_2019 rfl ?_
  refine lv_iadd hx hb dL_law_2020 ?_
  refine va_sld hx hb hX hbl hbA hS hi2 dL_law_2021 ?_
  refine lv_aload_n hx hb dL_law_2022 rfl (lv_at hl 3 rfl) ?_
  obtain ⟨F1, M1, b1, hAl1, e2, h1⟩ := lz_1 (c_setCross hAl (by omega) ((xs (i + 1).toNatClampNeg)) ((xs (i + 2).toNatClampNeg))) f
  have hAl2 := hAl1.mono (B' := B + 16400) (by omega) (by omega)
  refine lw_H (As := [.ref (ad 0), .int (xs (i + 1).toNatClampNeg), .int (xs (i + 2).toNatClampNeg), .ref ho]) (rest := []) ⟨hx, hb, hml, hown, hts⟩ (cL_setCrossM l hfl D cy za zv ad hh aa pa ho H.size F f ((xs (i + 1).toNatClampNeg)) ((xs (i + 2).toNatClampNeg)) _ h1) (vx_cwSW 4 hts gL_law_L_setCross rfl rfl rfl hlL_setCross ⟨Nat.le_of_ble_eq_true rfl, Nat.le_of_ble_eq_true rfl⟩) hN hZ hK hP hD hS hA rfl hl.1 rfl (Nat.le_of_ble_eq_true rfl) dL_law_2023 hf (fun r q H locs hq hP hD hS => ?_)
  obtain ⟨F2, f2⟩ := q
  obtain ⟨hq1, hq2, hq3⟩ := hq
  replace hq2 : F2 = F1 := hq2
  subst hq2
  replace hq3 : r = 0 → f2 (Int32.toNatClampNeg 0) = b1.toInt64 := hq3
  replace hP : va_P D vwCl (wLW cy ad hh aa pa h a ho F2 M f2) H := hP
  replace hD : va_D A (wLW cy ad hh aa pa h a ho F2 M f2) := hD
  refine lv_istore (lv' := [(5, .int r), (0, .ref b), (1, .ref (ad 0)), (2, .ref h), (3, .ref ho), (4, .int i)]) hx hb dL_law_2026 hl (by decide) rfl (fun ls hl => ?_)
  refine lv_aload_n hx hb dL_law_2028 rfl (lv_at hl 3 rfl) ?_
  refine lv_aload_n hx hb dL_law_2029 rfl (lv_at hl 1 rfl) ?_
  refine lv_iload hx hb dL_law_2030 (lv_at hl 5 rfl) ?_
  refine lv_iconst (v := 1) hx hb dL_law_2032 rfl ?_
  refine lv_iadd hx hb dL_law_2033 ?_
  refine va_sld hx hb hX hbl hbA hS hi1 dL_law_2034 ?_
  refine lv_aload_n hx hb dL_law_2035 rfl (lv_at hl 1 rfl) ?_
  refine lv_iload hx hb dL_law_2036 (lv_at hl 5 rfl) ?_
  refine lv_iconst (v := 2) hx hb dL_law_2038 rfl ?_
  refine lv_iadd hx hb dL_law_2039 ?_
  refine va_sld hx hb hX hbl hbA hS hi2 dL_law_2040 ?_
  refine lw_MI e2 (As := [.int (xs (i + 1).toNatClampNeg), .int (xs (i + 2).toNatClampNeg)]) (rest := []) ⟨hx, hb, hml, hown, hts⟩ (cX10_setCrossM l D cy h a H.size M ((xs (i + 1).toNatClampNeg)) ((xs (i + 2).toNatClampNeg))) (cwV 2 hts gL_law_X10_setCross rfl rfl rfl hlX10_setCross ⟨Nat.le_of_ble_eq_true rfl, Nat.le_of_ble_eq_true rfl⟩) hK hP hD hS hA rfl hl.1 rfl (Nat.le_of_ble_eq_true rfl) dL_law_2041 hf (fun H locs hP hD hS => ?_)
  refine lv_istore (lv' := [(6, .int b1), (5, .int r), (0, .ref b), (1, .ref (ad 0)), (2, .ref h), (3, .ref ho), (4, .int i)]) hx hb dL_law_2044 hl (by decide) rfl (fun ls hl => ?_)
  refine lv_aload_n hx hb dL_law_2046 rfl (lv_at hl 4 rfl) ?_
  refine lw_MR (o := fX10_thrown M1) (r0 := mTh M1) rfl (As := []) (rest := []) ⟨hx, hb, hml, hown, hts⟩ (cX10_thrownM l D cy h a H.size M1) (cwV 0 hts gL_law_X10_thrown rfl rfl rfl hlX10_thrown ⟨Nat.le_of_ble_eq_true rfl, Nat.le_of_ble_eq_true rfl⟩) hK hP hD hS hA rfl hl.1 rfl (Nat.le_of_ble_eq_true rfl) dL_law_2047 hf (fun H locs hP hD hS => ?_)
  refine lv_iload hx hb dL_law_2050 (lv_at hl 1 rfl) ?_
  refine lv_icmp_eq (tgt := 2057) hx hb dL_law_2052 (by decide) (fun _ => ?_) (fun c => absurd hq1.symm c)
  refine lv_iload hx hb dL_law_2057 (lv_at hl 1 rfl) ?_
  refine lv_if_ne (tgt := 2074) hx hb dL_law_2059 (by decide) (fun c2059 => ?_) (fun c2059 => ?_)
  · refine lv_goto (tgt := 2200) hx hb dL_law_2074 (by decide) ?_
    exact kk d0 hd0 F2 M1 f2 H locs ls hAl2 (lv_sub hl [2, 3, 4, 5, 6] rfl) hP hD hS
  · refine lv_aload_n hx hb dL_law_2062 rfl (lv_at hl 5 rfl) ?_
    refine lv_iconst (v := 0) hx hb dL_law_2063 rfl ?_
    refine va_lald (ws := wLW cy ad hh aa pa h a ho F2 M1 f2) (cA := cy 3) (n := 1) (f := f2) hx hb hK.1 hP 0 3 rfl rfl (inb_vp (by decide)) dL_law_2064 ?_
    refine lv_iload hx hb dL_law_2065 (lv_at hl 0 rfl) ?_
    refine lv_i2l (v := b1.toInt64) hx hb dL_law_2067 rfl ?_
    refine W.lcmp hx hb dL_law_2068 ?_
    refine lv_if_eq (tgt := 2074) hx hb dL_law_2069 (by decide) (fun _ => ?_) (fun c => absurd (by rw [hq3 c2059]; exact lg_cmp_self _) c)
    refine lv_goto (tgt := 2200) hx hb dL_law_2074 (by decide) ?_
    exact kk d0 hd0 F2 M1 f2 H locs ls hAl2 (lv_sub hl [2, 3, 4, 5, 6] rfl) hP hD hS
set_option maxHeartbeats 4000000 in
set_option maxRecDepth 100000 in
theorem lk40 (l : Launch) (hfl : l.stackTraces = false) : lGo l 2077 := by
  intro p e s m args below meth c D cy A za zv ad hh aa pa h a ho b L xs d0 E0 hd0 B F M f i hAl hB hi1 hi2 hi3 H locs ls cells slots Q hf hl hP hD hS kk
  obtain ⟨hx, hb, hml, hown, hts, hK, hA, hZ, hN, hX, hbl, hbA⟩ := E0.draw d0
  have hf0 : cells ≤ room_1.cells ∧ slots ≤ room_1.slots := ⟨Nat.le_trans (Nat.le_add_right _ _) hf.1, Nat.le_trans (Nat.le_add_right _ _) hf.2⟩
  refine lv_aload_n hx hb dL_law_2077 rfl (lv_at hl 1 rfl) ?_
  obtain ⟨r1, F1, M1, e1, e2, hAl1⟩ := c_writeLanes hAl 
  have hAl2 := hAl1.mono (B' := B + 16400) (by omega) (by omega)
  refine lw_XI e1 (As := []) (rest := []) ⟨hx, hb, hml, hown, hts⟩ (cX9_writeLanesM l D cy ad hh aa pa H.size F ) (cwV 0 hts gL_law_X9_writeLanes rfl rfl rfl hlX9_writeLanes ⟨Nat.le_of_ble_eq_true rfl, Nat.le_of_ble_eq_true rfl⟩) hK hP hD hS hA rfl hl.1 rfl (Nat.le_of_ble_eq_true rfl) dL_law_2078 hf0 (fun H locs hP hD hS => ?_)
  refine lv_aload_n hx hb dL_law_2081 rfl (lv_at hl 2 rfl) ?_
  refine lw_MI e2 (As := []) (rest := [.int r1]) ⟨hx, hb, hml, hown, hts⟩ (cX10_writeLanesM l D cy h a H.size M ) (cwV 0 hts gL_law_X10_writeLanes rfl rfl rfl hlX10_writeLanes ⟨Nat.le_of_ble_eq_true rfl, Nat.le_of_ble_eq_true rfl⟩) hK hP hD hS hA rfl hl.1 rfl (Nat.le_of_ble_eq_true rfl) dL_law_2082 hf0 (fun H locs hP hD hS => ?_)
  refine lv_icmp_eq (tgt := 2200) hx hb dL_law_2085 (by decide) (fun _ => ?_) (fun c => absurd rfl c)
  refine W.widen (k := cells + 1) (n := slots + 6) (Nat.le_add_right _ _) (Nat.le_add_right _ _) ?_
  exact kk d0 hd0 F1 M1 f H locs ls hAl2 (lv_sub hl [0, 1, 2, 3, 4] rfl) hP hD hS
set_option maxHeartbeats 4000000 in
set_option maxRecDepth 100000 in
theorem lk41 (l : Launch) (hfl : l.stackTraces = false) : lGo l 2090 := by
  intro p e s m args below meth c D cy A za zv ad hh aa pa h a ho b L xs d0 E0 hd0 B F M f i hAl hB hi1 hi2 hi3 H locs ls cells slots Q hf hl hP hD hS kk
  obtain ⟨hx, hb, hml, hown, hts, hK, hA, hZ, hN, hX, hbl, hbA⟩ := E0.draw d0
  have hf0 : cells ≤ room_1.cells ∧ slots ≤ room_1.slots := ⟨Nat.le_trans (Nat.le_add_right _ _) hf.1, Nat.le_trans (Nat.le_add_right _ _) hf.2⟩
  refine lv_aload_n hx hb dL_law_2090 rfl (lv_at hl 1 rfl) ?_
  refine lv_aload_n hx hb dL_law_2091 rfl (lv_at hl 0 rfl) ?_
  refine lv_iload hx hb dL_law_2092 (lv_at hl 4 rfl) ?_
  refine lv_iconst (v := 1) hx hb dL_law_2094 rfl ?_
  refine lv_iadd hx hb dL_law_2095 ?_
  refine va_sld hx hb hX hbl hbA hS hi1 dL_law_2096 ?_
  obtain ⟨r1, M1, e1, e2, hAl1⟩ := c_output hAl ((xs (i + 1).toNatClampNeg))
  have hAl2 := hAl1.mono (B' := B + 16400) (by omega) (by omega)
  refine lw_XR e1 (As := [.int (xs (i + 1).toNatClampNeg)]) (rest := []) ⟨hx, hb, hml, hown, hts⟩ (cX9_outputM l D cy ad hh aa pa H.size F ((xs (i + 1).toNatClampNeg))) (cwV 1 hts gL_law_X9_output rfl rfl rfl hlX9_output ⟨Nat.le_of_ble_eq_true rfl, Nat.le_of_ble_eq_true rfl⟩) hK hP hD hS hA rfl hl.1 rfl (Nat.le_of_ble_eq_true rfl) dL_law_2097 hf0 (fun H locs hP hD hS => ?_)
  refine lv_aload_n hx hb dL_law_2100 rfl (lv_at hl 2 rfl) ?_
  refine lv_aload_n hx hb dL_law_2101 rfl (lv_at hl 0 rfl) ?_
  refine lv_iload hx hb dL_law_2102 (lv_at hl 4 rfl) ?_
  refine lv_iconst (v := 1) hx hb dL_law_2104 rfl ?_
  refine lv_iadd hx hb dL_law_2105 ?_
  refine va_sld hx hb hX hbl hbA hS hi1 dL_law_2106 ?_
  refine lw_MI e2 (As := [.int (xs (i + 1).toNatClampNeg)]) (rest := [.int r1]) ⟨hx, hb, hml, hown, hts⟩ (cX10_outputM l D cy h a H.size M ((xs (i + 1).toNatClampNeg))) (cwV 1 hts gL_law_X10_output rfl rfl rfl hlX10_output ⟨Nat.le_of_ble_eq_true rfl, Nat.le_of_ble_eq_true rfl⟩) hK hP hD hS hA rfl hl.1 rfl (Nat.le_of_ble_eq_true rfl) dL_law_2107 hf0 (fun H locs hP hD hS => ?_)
  refine lv_icmp_eq (tgt := 2200) hx hb dL_law_2110 (by decide) (fun _ => ?_) (fun c => absurd rfl c)
  refine W.widen (k := cells + 1) (n := slots + 6) (Nat.le_add_right _ _) (Nat.le_add_right _ _) ?_
  exact kk d0 hd0 F M1 f H locs ls hAl2 (lv_sub hl [0, 1, 2, 3, 4] rfl) hP hD hS
set_option maxHeartbeats 4000000 in
set_option maxRecDepth 100000 in
theorem lk42 (l : Launch) (hfl : l.stackTraces = false) : lGo l 2115 := by
  intro p e s m args below meth c D cy A za zv ad hh aa pa h a ho b L xs d0 E0 hd0 B F M f i hAl hB hi1 hi2 hi3 H locs ls cells slots Q hf hl hP hD hS kk
  obtain ⟨hx, hb, hml, hown, hts, hK, hA, hZ, hN, hX, hbl, hbA⟩ := E0.draw d0
  have hf0 : cells ≤ room_1.cells ∧ slots ≤ room_1.slots := ⟨Nat.le_trans (Nat.le_add_right _ _) hf.1, Nat.le_trans (Nat.le_add_right _ _) hf.2⟩
  refine lv_aload_n hx hb dL_law_2115 rfl (lv_at hl 1 rfl) ?_
  obtain ⟨r1, F1, M1, e1, e2, hAl1⟩ := c_undo hAl 
  have hAl2 := hAl1.mono (B' := B + 16400) (by omega) (by omega)
  refine lw_XI e1 (As := []) (rest := []) ⟨hx, hb, hml, hown, hts⟩ (cX9_undoM l D cy ad hh aa pa H.size F ) (cwV 0 hts gL_law_X9_undo rfl rfl rfl hlX9_undo ⟨Nat.le_of_ble_eq_true rfl, Nat.le_of_ble_eq_true rfl⟩) hK hP hD hS hA rfl hl.1 rfl (Nat.le_of_ble_eq_true rfl) dL_law_2116 hf0 (fun H locs hP hD hS => ?_)
  refine lv_aload_n hx hb dL_law_2119 rfl (lv_at hl 2 rfl) ?_
  refine lw_MI e2 (As := []) (rest := [.int r1]) ⟨hx, hb, hml, hown, hts⟩ (cX10_undoM l D cy h a H.size M ) (cwV 0 hts gL_law_X10_undo rfl rfl rfl hlX10_undo ⟨Nat.le_of_ble_eq_true rfl, Nat.le_of_ble_eq_true rfl⟩) hK hP hD hS hA rfl hl.1 rfl (Nat.le_of_ble_eq_true rfl) dL_law_2120 hf0 (fun H locs hP hD hS => ?_)
  refine lv_icmp_eq (tgt := 2200) hx hb dL_law_2123 (by decide) (fun _ => ?_) (fun c => absurd rfl c)
  refine W.widen (k := cells + 1) (n := slots + 6) (Nat.le_add_right _ _) (Nat.le_add_right _ _) ?_
  exact kk d0 hd0 F1 M1 f H locs ls hAl2 (lv_sub hl [0, 1, 2, 3, 4] rfl) hP hD hS
set_option maxHeartbeats 4000000 in
set_option maxRecDepth 100000 in
theorem lk44 (l : Launch) (hfl : l.stackTraces = false) : lGo l 2164 := by
  intro p e s m args below meth c D cy A za zv ad hh aa pa h a ho b L xs d0 E0 hd0 B F M f i hAl hB hi1 hi2 hi3 H locs ls cells slots Q hf hl hP hD hS kk
  obtain ⟨hx, hb, hml, hown, hts, hK, hA, hZ, hN, hX, hbl, hbA⟩ := E0.draw d0
  refine lv_aload_n hx hb dL_law_2164 rfl (lv_at hl 1 rfl) ?_
  refine lv_aload_n hx hb dL_law_2165 rfl (lv_at hl 0 rfl) ?_
  refine lv_iload hx hb dL_law_2166 (lv_at hl 4 rfl) ?_
  refine lv_iconst (v := 1) hx hb dL_law_2168 rfl ?_
  refine lv_iadd hx hb dL_law_2169 ?_
  refine va_sld hx hb hX hbl hbA hS hi1 dL_law_2170 ?_
  obtain ⟨F1, M1, hAl1, e2, h1⟩ := lz_v2 (c_restore hAl ((xs (i + 1).toNatClampNeg)))
  have hAl2 := hAl1.mono (B' := B + 16400) (by omega) (by omega)
  refine lw_Hv (As := [.ref (ad 0), .int (xs (i + 1).toNatClampNeg)]) (rest := []) ⟨hx, hb, hml, hown, hts⟩ (cL_restoreM l hfl D cy za zv ad hh aa pa H.size F ((xs (i + 1).toNatClampNeg)) _ h1) (vx_cwSW 2 hts gL_law_L_restore rfl rfl rfl hlL_restore ⟨Nat.le_of_ble_eq_true rfl, Nat.le_of_ble_eq_true rfl⟩) hN hZ hK hP hD hS hA rfl hl.1 rfl (Nat.le_of_ble_eq_true rfl) dL_law_2171 hf (fun r q H locs hq hP hD hS => ?_)
  obtain ⟨hq1, hq2⟩ := hq
  subst hq2
  refine lv_istore (lv' := [(5, .int r), (0, .ref b), (1, .ref (ad 0)), (2, .ref h), (3, .ref ho), (4, .int i)]) hx hb dL_law_2174 hl (by decide) rfl (fun ls hl => ?_)
  refine lv_aload_n hx hb dL_law_2176 rfl (lv_at hl 3 rfl) ?_
  refine lv_aload_n hx hb dL_law_2177 rfl (lv_at hl 1 rfl) ?_
  refine lv_iload hx hb dL_law_2178 (lv_at hl 5 rfl) ?_
  refine lv_iconst (v := 1) hx hb dL_law_2180 rfl ?_
  refine lv_iadd hx hb dL_law_2181 ?_
  refine va_sld hx hb hX hbl hbA hS hi1 dL_law_2182 ?_
  refine lw_MV e2 (As := [.int (xs (i + 1).toNatClampNeg)]) (rest := []) ⟨hx, hb, hml, hown, hts⟩ (cX10_restoreM l D cy h a H.size M ((xs (i + 1).toNatClampNeg))) (cwV 1 hts gL_law_X10_restore rfl rfl rfl hlX10_restore ⟨Nat.le_of_ble_eq_true rfl, Nat.le_of_ble_eq_true rfl⟩) hK hP hD hS hA rfl hl.1 rfl (Nat.le_of_ble_eq_true rfl) dL_law_2183 hf (fun H locs hP hD hS => ?_)
  refine lv_aload_n hx hb dL_law_2186 rfl (lv_at hl 3 rfl) ?_
  refine lw_MR (o := fX10_thrown M1) (r0 := mTh M1) rfl (As := []) (rest := []) ⟨hx, hb, hml, hown, hts⟩ (cX10_thrownM l D cy h a H.size M1) (cwV 0 hts gL_law_X10_thrown rfl rfl rfl hlX10_thrown ⟨Nat.le_of_ble_eq_true rfl, Nat.le_of_ble_eq_true rfl⟩) hK hP hD hS hA rfl hl.1 rfl (Nat.le_of_ble_eq_true rfl) dL_law_2187 hf (fun H locs hP hD hS => ?_)
  refine lv_iload hx hb dL_law_2190 (lv_at hl 0 rfl) ?_
  refine lv_icmp_eq (tgt := 2197) hx hb dL_law_2192 (by decide) (fun _ => ?_) (fun c => absurd hq1.symm c)
  refine lv_goto (tgt := 2200) hx hb dL_law_2197 (by decide) ?_
  exact kk d0 hd0 q M1 f H locs ls hAl2 (lv_sub hl [1, 2, 3, 4, 5] rfl) hP hD hS
