/-! meanWait, fullness: the four methods over the machine -/
section KQ
variable {p : Program} {l : Launch} {e : Env} {R : Room} {s : State} {m : MethodId} {args : Array Value} {below : List Frame} {meth : Method} {c : Code} {H H0 : Heap} {locs : List Loc} {cells slots : Nat} {Q : State → Prop}
variable {Ts wy : List Cond} {cc bytes : ByteArray} {nL maxL index n q0 ci N mc ms pc : Nat} {own C host : String} {T : u_T} {y : MethodName} {ret : Option FieldType} {rm : Room} {b : Addr} {As rest st : List Value} {fs : List Value} {ls : Array Slot}
variable {D : va_G} {cy : Nat → ClassId} {ws wc wr : va_W} {A : Nat → Prop}
theorem kq_rV {o : Option Int32} {r0 : Int32} (heq : o = some r0) (CF : CallFix p m c cc nL s args Ts own)
    (hM : ∀ K : Int32 → Prop, Ok o K → Met l y wy rm (va_Pc (.ref b :: As) (kPre D cy H.size wc)) (va_Qi (fun r (_ : Unit) => K r) (fun _ => kPost D (va_A wc H.size) wc) (va_A wc H.size)) 0 0 (va_A wc H.size))
    (cw : CallW R s args own C index y bytes maxL ret wy rm 0 0 n) (hK : mK D cy s) (hp : ws.Perm (wc ++ wr)) (hP : va_P D vwCl ws H) (hD : va_D A ws) (hS : va_S A H0 H locs) (hA : ∀ q, H0.size ≤ q → A q)
    (hrec : wc[q0]? = some (b, .inr (ci, fs))) (hci : vwCl[ci]? = some (C, T, N)) (hn : As.length = n) (hl : ls.size = nL) (hst : st = As.reverse ++ .ref b :: rest) (hw : (rest.map fun v => v.category).sum ≤ 8) (hdg : decode cc pc = .ok (.invokevirtual index, 3)) (hf : cells ≤ R.cells ∧ slots ≤ R.slots)
    (kk : ∀ (H1 : Heap) (locs1 : List Loc), va_P D vwCl ws H1 → va_S A H0 H1 locs1 → W p l e R s m args below meth c H1 locs1 cells slots Q (F0 m (pc + 3) ls (.int r0 :: rest))) :
    W p l e R s m args below meth c H locs cells slots Q (F0 m pc ls st) := by
  subst heq
  refine kc_rV (K0 := fun q : Int32 => q = r0) (f := fun r => some r) ⟨r0, rfl, rfl⟩ CF hM cw hK hp hP hD hS hA hrec hci hn hl hst hw hdg hf (fun r H1 locs1 h1 hP1 hS1 => ?_)
  have e1 : r = r0 := h1.ret
  subst e1
  exact kk H1 locs1 hP1 hS1
end KQ
theorem mE.draw {D : va_G} {cy : Nat → ClassId} {own : String} {cc : ByteArray} {maxL : Nat} {ret : Option FieldType} {Ts : List Cond} {A : Nat → Prop} {p : Program} {s : State} {m : MethodId} {args : Array Value} {meth : Method} {c : Code} (E : mE D cy own cc maxL ret Ts A p s m args meth c) (d : Drawn) : mE D cy own cc maxL ret Ts A p (s.setDrawn d) m args meth c := by
  obtain ⟨hx, hb, hr, hml, hown, hts, hlocks, hK, hA⟩ := E
  exact ⟨hx, hb, hr, hml, hown, dr_words hts d, hlocks, ⟨va_K.moved (u := s) (U := s.setDrawn d) (Vm.Alike.refl s.vm) hK.1, mN.same (u := s) (U := s.setDrawn d) rfl hK.2⟩, hA⟩
theorem mw_a64 {x y : Int64} (h1 : -9000000000000000000 ≤ x.toInt + y.toInt) (h2 : x.toInt + y.toInt ≤ 9000000000000000000) : (x + y).toInt = x.toInt + y.toInt := by
  rw [Int64.toInt_add]
  exact Int.bmod_eq_of_le (by omega) (by omega)
-- the class's meanWait
theorem inX9_meanWait_X9 : ∀ w ∈ u_ws RX9 TX9 9, w ∈ wsX9_meanWait := k_lays 9 rfl
theorem inX9_meanWait_X8 : ∀ w ∈ u_ws RX8 TX8 13, w ∈ wsX9_meanWait := k_lays 18 rfl
theorem lkX9_meanWait_10 : Cond.fieldLink RX9 10 "FerryRamp" "now" "LFerryRamp$State;" ∈ wsX9_meanWait := List.mem_of_getElem? (i := 1) rfl
theorem lkX9_meanWait_87 : Cond.fieldLink RX9 87 "FerryRamp$State" "counts" "[I" ∈ wsX9_meanWait := List.mem_of_getElem? (i := 2) rfl
abbrev rmX9_meanWait : Room := { frames := 1, cells := 0, slots := 0, locals := 40 }
set_option maxHeartbeats 4000000 in
set_option maxRecDepth 100000 in
theorem tX9_meanWait_l {p : Program} {l : Launch} {e : Env} {s : State} {m : MethodId} {args : Array Value} {below : List Frame} {meth : Method} {c : Code} {D : va_G} {cy : Nat → ClassId} {A : Nat → Prop} {ad : Nat → Nat} {hh : Nat → Nat} {aa : Nat → Nat → Nat} {pa : Nat → Nat} {Q : State → Prop} (E : mE D cy RX9 cX9_meanWait 6 (some .double) wsX9_meanWait A p s m args meth c) (u : FS) {g : Nat → Int32} {B : Int} (RA : eRA (fN u) g) (G : eG g) (Z : eZ B g) (hB : B ≤ 35000000) (hD : va_D A (wF cy ad hh aa pa u))
    (kk : ∀ (x1 : Int64) (H : Heap) (locs : List Loc) (ls : Array Slot), x1.toInt = (sI (eWt g) (eN g)).toInt → lv_has ls 6 [(0, .ref (ad 0)), (1, .long x1), (3, .int (sI (eBf g) (eN g)))] → va_P D vwCl (wF cy ad hh aa pa u) H → va_S A s.heap H locs → W p l e rmX9_meanWait s m args below meth c H locs 0 0 Q (F0 m 65 ls [])) :
    ∀ (n k : Nat), k + n = eN g → ∀ (x1 : Int64) (H : Heap) (locs : List Loc) (ls : Array Slot), x1.toInt = (sI (eWt g) k).toInt → lv_has ls 6 [(0, .ref (ad 0)), (1, .long x1), (3, .int (sI (eBf g) k)), (4, .int (nI k))] → va_P D vwCl (wF cy ad hh aa pa u) H → va_S A s.heap H locs → W p l e rmX9_meanWait s m args below meth c H locs 0 0 Q (F0 m 7 ls []) := by
  obtain ⟨hx, hb, hr, hml, hown, hts, hlocks, hK, hA⟩ := id E
  have hN := G.1.n
  have e13 : sC (fN u) 3 = g 13 := RA.1.2.2.1
  intro n
  induction n with
  | zero =>
    intro k hk x1 H locs ls hx1 hl hP hS
    have hkI : (nI k).toInt = (k : Int) := qa_nI (by omega)
    refine lv_iload hx hb dX9_meanWait_7 (lv_at hl 3 rfl) ?_
    refine lv_aload_n hx hb dX9_meanWait_9 rfl (lv_at hl 0 rfl) ?_
    refine k_get (v := .ref (hh 0)) (C := RX9) (T := TX9) (N := 9) hx hb hts inX9_meanWait_X9 hown hK hP 0 (wF_c0 _ _ _ _ _ _) rfl 0 (by decide) lkX9_meanWait_10 (fFs_0 _ _ _ _) dX9_meanWait_10 ?_
    refine k_get (v := .ref ((aa 0) 0)) (C := RX8) (T := TX8) (N := 13) hx hb hts inX9_meanWait_X8 hown hK hP 5 (wF_c5 _ _ _ _ _ _) rfl 0 (by decide) lkX9_meanWait_87 (sFs_0 _ _) dX9_meanWait_13 ?_
    refine lv_iconst (v := 3) hx hb dX9_meanWait_16 rfl ?_
    refine k_iald (k := 3) hx hb hK hP 6 (wF_c6 _ _ _ _ _ _) rfl rfl dX9_meanWait_17 ?_
    refine lv_icmp_ge (tgt := 65) hx hb dX9_meanWait_18 (by decide) (fun c18 => ?_) (fun c18 => absurd (by rw [e13]; exact qa_le.mpr (by omega)) c18)
    have e : k = eN g := by omega
    subst e
    exact kk x1 H locs ls hx1 (lv_sub hl [0, 1, 2] rfl) hP hS
  | succ n ih =>
    intro k hk x1 H locs ls hx1 hl hP hS
    have hkN : k < eN g := by omega
    have hkI : (nI k).toInt = (k : Int) := qa_nI (by omega)
    have w := mw_one G Z hkN
    have w2 := mw_sum G Z hB k (by omega)
    have w3 := w2.2.2 hkN
    refine lv_iload hx hb dX9_meanWait_7 (lv_at hl 3 rfl) ?_
    refine lv_aload_n hx hb dX9_meanWait_9 rfl (lv_at hl 0 rfl) ?_
    refine k_get (v := .ref (hh 0)) (C := RX9) (T := TX9) (N := 9) hx hb hts inX9_meanWait_X9 hown hK hP 0 (wF_c0 _ _ _ _ _ _) rfl 0 (by decide) lkX9_meanWait_10 (fFs_0 _ _ _ _) dX9_meanWait_10 ?_
    refine k_get (v := .ref ((aa 0) 0)) (C := RX8) (T := TX8) (N := 13) hx hb hts inX9_meanWait_X8 hown hK hP 5 (wF_c5 _ _ _ _ _ _) rfl 0 (by decide) lkX9_meanWait_87 (sFs_0 _ _) dX9_meanWait_13 ?_
    refine lv_iconst (v := 3) hx hb dX9_meanWait_16 rfl ?_
    refine k_iald (k := 3) hx hb hK hP 6 (wF_c6 _ _ _ _ _ _) rfl rfl dX9_meanWait_17 ?_
    refine lv_icmp_ge (tgt := 65) hx hb dX9_meanWait_18 (by decide) (fun c18 => absurd (qa_le.mp c18) (by rw [e13]; omega)) (fun _ => ?_)
    refine lv_aload_n hx hb dX9_meanWait_21 rfl (lv_at hl 0 rfl) ?_
    refine k_get (v := .ref (hh 0)) (C := RX9) (T := TX9) (N := 9) hx hb hts inX9_meanWait_X9 hown hK hP 0 (wF_c0 _ _ _ _ _ _) rfl 0 (by decide) lkX9_meanWait_10 (fFs_0 _ _ _ _) dX9_meanWait_22 ?_
    refine lv_iload hx hb dX9_meanWait_25 (lv_at hl 3 rfl) ?_
    refine lv_iconst (v := 5) hx hb dX9_meanWait_27 rfl ?_
    refine kq_rV (r0 := eC g k 5) (sb_carFact RA G.1 k 5 hkI hkN qa_5 (by decide)) (b := (hh 0)) (As := [.int (nI k), .int 5]) (rest := []) ⟨hx, hb, hml, hown, hts⟩ (cX8_carFactM l D cy (hh 0) (aa 0) H.size (fN u) (nI k) 5) (cwV 2 hts gX9_meanWait_X8_carFact rfl rfl rfl hdX8_carFact ⟨Nat.le_of_ble_eq_true rfl, Nat.le_of_ble_eq_true rfl⟩) hK (wF_sel1 _ _ _ _ _ _) hP hD hS hA (q0 := 0) rfl rfl rfl hl.1 rfl (Nat.le_of_ble_eq_true rfl) dX9_meanWait_28 ⟨Nat.zero_le _, Nat.zero_le _⟩ (fun H locs hP hS => ?_)
    refine lv_istore (lv' := [(5, .int (eC g k 5)), (0, .ref (ad 0)), (1, .long x1), (3, .int (sI (eBf g) k)), (4, .int (nI k))]) hx hb dX9_meanWait_31 hl (by decide) rfl (fun ls hl => ?_)
    refine lv_iload hx hb dX9_meanWait_33 (lv_at hl 0 rfl) ?_
    refine lv_iconst (v := (-1)) hx hb dX9_meanWait_35 rfl ?_
    refine lv_icmp_eq (tgt := 59) hx hb dX9_meanWait_36 (by decide) (fun c36 => ?_) (fun c36 => ?_)
    · have eb : sI (eBf g) (k + 1) = sI (eBf g) k := by
        show sI (eBf g) k + eBf g k = _
        unfold eBf
        rw [if_pos c36]
        exact Int32.add_zero _
      have ew : (eWt g k).toInt = 0 := by
        unfold eWt
        rw [if_pos c36]
        exact qa_0
      refine lv_iinc (v := nI (k + 1)) (lv' := [(4, .int (nI (k + 1))), (5, .int (eC g k 5)), (0, .ref (ad 0)), (1, .long x1), (3, .int (sI (eBf g) k))]) hx hb dX9_meanWait_59 hl (k := 4) rfl (nI_succ k).symm (by decide) rfl (fun ls hl => ?_)
      refine lv_goto (tgt := 7) hx hb dX9_meanWait_62 (by decide) ?_
      exact ih (k + 1) (by omega) x1 H locs ls (by omega) (by rw [eb]; exact lv_sub hl [2, 3, 4, 0] rfl) hP hS
    · have eb : sI (eBf g) k + 1 = sI (eBf g) (k + 1) := by
        show _ = sI (eBf g) k + eBf g k
        unfold eBf
        rw [if_neg c36]
      have ew : eC g k 5 - eC g k 4 = eWt g k := by
        unfold eWt
        rw [if_neg c36]
      refine lv_lload_n hx hb dX9_meanWait_39 rfl (lv_at hl 2 rfl) ?_
      refine lv_iload hx hb dX9_meanWait_40 (lv_at hl 0 rfl) ?_
      refine lv_aload_n hx hb dX9_meanWait_42 rfl (lv_at hl 1 rfl) ?_
      refine k_get (v := .ref (hh 0)) (C := RX9) (T := TX9) (N := 9) hx hb hts inX9_meanWait_X9 hown hK hP 0 (wF_c0 _ _ _ _ _ _) rfl 0 (by decide) lkX9_meanWait_10 (fFs_0 _ _ _ _) dX9_meanWait_43 ?_
      refine lv_iload hx hb dX9_meanWait_46 (lv_at hl 4 rfl) ?_
      refine lv_iconst (v := 4) hx hb dX9_meanWait_48 rfl ?_
      refine kq_rV (r0 := eC g k 4) (sb_carFact RA G.1 k 4 hkI hkN qa_4 (by decide)) (b := (hh 0)) (As := [.int (nI k), .int 4]) (rest := [.int (eC g k 5), .long x1]) ⟨hx, hb, hml, hown, hts⟩ (cX8_carFactM l D cy (hh 0) (aa 0) H.size (fN u) (nI k) 4) (cwV 2 hts gX9_meanWait_X8_carFact rfl rfl rfl hdX8_carFact ⟨Nat.le_of_ble_eq_true rfl, Nat.le_of_ble_eq_true rfl⟩) hK (wF_sel1 _ _ _ _ _ _) hP hD hS hA (q0 := 0) rfl rfl rfl hl.1 rfl (Nat.le_of_ble_eq_true rfl) dX9_meanWait_49 ⟨Nat.zero_le _, Nat.zero_le _⟩ (fun H locs hP hS => ?_)
      refine lv_isub hx hb dX9_meanWait_52 ?_
      rw [ew]
      refine lv_i2l (v := (eWt g k).toInt64) hx hb dX9_meanWait_53 rfl ?_
      refine lv_ladd hx hb dX9_meanWait_54 ?_
      have h64 : (eWt g k).toInt64.toInt = (eWt g k).toInt := Int32.toInt_toInt64 _
      have ex : (x1 + (eWt g k).toInt64).toInt = (sI (eWt g) (k + 1)).toInt := by
        rw [mw_a64 (by omega) (by omega)]
        omega
      generalize x1 + (eWt g k).toInt64 = x2 at ex ⊢
      refine lv_lstore_n (lv' := [(1, .long x2), (5, .int (eC g k 5)), (0, .ref (ad 0)), (3, .int (sI (eBf g) k)), (4, .int (nI k))]) hx hb dX9_meanWait_55 rfl hl (by decide) rfl (fun ls hl => ?_)
      refine lv_iinc (v := sI (eBf g) (k + 1)) (lv' := [(3, .int (sI (eBf g) (k + 1))), (1, .long x2), (5, .int (eC g k 5)), (0, .ref (ad 0)), (4, .int (nI k))]) hx hb dX9_meanWait_56 hl (k := 3) rfl eb (by decide) rfl (fun ls hl => ?_)
      refine lv_iinc (v := nI (k + 1)) (lv' := [(4, .int (nI (k + 1))), (3, .int (sI (eBf g) (k + 1))), (1, .long x2), (5, .int (eC g k 5)), (0, .ref (ad 0))]) hx hb dX9_meanWait_59 hl (k := 4) rfl (nI_succ k).symm (by decide) rfl (fun ls hl => ?_)
      refine lv_goto (tgt := 7) hx hb dX9_meanWait_62 (by decide) ?_
      exact ih (k + 1) (by omega) x2 H locs ls ex (lv_sub hl [4, 2, 1, 0] rfl) hP hS
set_option maxHeartbeats 4000000 in
set_option maxRecDepth 100000 in
theorem cX9_meanWaitD (l : Launch) (D : va_G) (cy : Nat → ClassId) (ad : Nat → Nat) (hh : Nat → Nat) (aa : Nat → Nat → Nat) (pa : Nat → Nat) (sz : Nat) (u : FS) {g : Nat → Int32} {B : Int} (RA : eRA (fN u) g) (G : eG g) (Z : eZ B g) (hB : B ≤ 35000000) : MetD lw_cs l yX9_meanWait wsX9_meanWait rmX9_meanWait (va_Pc [.ref (ad 0)] (kPre D cy sz (wF cy ad hh aa pa u))) (va_Qd (fun (r : UInt64) (_ : Unit) => alike64 r (mwQ g) = true) (fun _ => kPost D (va_A (wF cy ad hh aa pa u) sz) (wF cy ad hh aa pa u)) (va_A (wF cy ad hh aa pa u) sz)) 0 0 (va_A (wF cy ad hh aa pa u) sz) := by
  refine MetD.ofW (cc := cX9_meanWait) (maxL := 6) (ret := (some .double)) (by decide) rfl ?_
  intro p e s m args below meth c s₁ B hml hv hd0
  obtain ⟨rfl, hsz, hP, hK, hD0⟩ := hv
  subst hsz
  have E : mE D cy RX9 cX9_meanWait 6 (some .double) wsX9_meanWait (va_A (wF cy ad hh aa pa u) s.heap.size) p s m _ meth c := ⟨B.exec, B.bytes, B.returns, hml, findClass_of_methodNamed B.named, atoms_spec (ws := wsX9_meanWait) B.pre, B.notSynchronized, hK, fun q h => Or.inr h⟩
  obtain ⟨hx, hb, hr, -, -, -, hlocks, -, hA⟩ := id E
  have hD := hD0.self (sz := s.heap.size)
  generalize va_A (wF cy ad hh aa pa u) s.heap.size = A at E hD hA ⊢
  have hl := lv_entry ([.ref (ad 0)]) (n := 6) (Nat.le_of_ble_eq_true rfl)
  rw [lg_entry_eq]
  generalize (lg_sl ([.ref (ad 0)]) ++ List.replicate (6 - (lg_sl ([.ref (ad 0)])).length) Slot.unset).toArray = ls at hl ⊢
  have hl : lv_has ls 6 [(0, .ref (ad 0))] := hl
  refine lv_lconst (v := 0) hx hb dX9_meanWait_0 rfl ?_
  refine lv_lstore_n (lv' := [(1, .long 0), (0, .ref (ad 0))]) hx hb dX9_meanWait_1 rfl hl (by decide) rfl (fun ls hl => ?_)
  refine lv_iconst (v := 0) hx hb dX9_meanWait_2 rfl ?_
  refine lv_istore_n (lv' := [(3, .int 0), (1, .long 0), (0, .ref (ad 0))]) hx hb dX9_meanWait_3 rfl hl (by decide) rfl (fun ls hl => ?_)
  refine lv_iconst (v := 0) hx hb dX9_meanWait_4 rfl ?_
  refine lv_istore (lv' := [(4, .int 0), (3, .int 0), (1, .long 0), (0, .ref (ad 0))]) hx hb dX9_meanWait_5 hl (by decide) rfl (fun ls hl => ?_)
  refine tX9_meanWait_l (E.draw s.drawn) u RA G Z hB hD (fun x1 H locs ls hx1 hl hP hS => ?_) (eN g) 0 (by omega) 0 _ _ ls rfl (by rw [nI_0]; exact lv_sub hl [3, 2, 1, 0] rfl) hP va_S.rf
  refine lv_iload_n hx hb dX9_meanWait_65 rfl (lv_at hl 2 rfl) ?_
  refine lv_if_ne (tgt := 73) hx hb dX9_meanWait_66 (by decide) (fun c66 => ?_) (fun c66 => ?_)
  · refine lv_lload_n hx hb dX9_meanWait_73 rfl (lv_at hl 1 rfl) ?_
    refine lv_l2d hx hb dX9_meanWait_74 ?_
    refine lv_iload_n hx hb dX9_meanWait_75 rfl (lv_at hl 2 rfl) ?_
    refine lv_i2d hx hb dX9_meanWait_76 ?_
    refine lv_ddiv_any hd0 lw_bits hx hb dX9_meanWait_77 (fun r d1 hal hd1 => ?_)
    have hq : alike64 r (mwQ g) = true := by
      unfold mwQ
      rw [if_neg c66, ← fp_l2d hx1]
      exact hal
    refine W.endD hd1 ?_
    exact W.dret hx hb hr (fun t ht hW => ⟨⟨r, (), rfl, hq, by rw [ht]; exact hP, hD⟩, hS.F ht⟩) hS.2.2 dX9_meanWait_78 hlocks
  · have hq : alike64 FP.dconst0 (mwQ g) = true := by
      unfold mwQ
      rw [if_pos c66]
      exact alike64_refl _
    refine lv_dconst0 hx hb dX9_meanWait_69 ?_
    refine lv_goto (tgt := 78) hx hb dX9_meanWait_70 (by decide) ?_
    refine W.endD hd0 ?_
    exact W.dret hx hb hr (fun t ht hW => ⟨⟨FP.dconst0, (), rfl, hq, by rw [ht]; exact hP, hD⟩, hS.F ht⟩) hS.2.2 dX9_meanWait_78 hlocks
-- the class's fullness
theorem inX9_fullness_X9 : ∀ w ∈ u_ws RX9 TX9 9, w ∈ wsX9_fullness := k_lays 4 rfl
theorem inX9_fullness_X8 : ∀ w ∈ u_ws RX8 TX8 13, w ∈ wsX9_fullness := k_lays 13 rfl
theorem lkX9_fullness_10 : Cond.fieldLink RX9 10 "FerryRamp" "now" "LFerryRamp$State;" ∈ wsX9_fullness := List.mem_of_getElem? (i := 1) rfl
theorem lkX9_fullness_116 : Cond.fieldLink RX9 116 "FerryRamp$State" "settings" "[I" ∈ wsX9_fullness := List.mem_of_getElem? (i := 2) rfl
theorem lkX9_fullness_87 : Cond.fieldLink RX9 87 "FerryRamp$State" "counts" "[I" ∈ wsX9_fullness := List.mem_of_getElem? (i := 3) rfl
abbrev rmX9_fullness : Room := { frames := 0, cells := 0, slots := 0, locals := 0 }
set_option maxHeartbeats 4000000 in
set_option maxRecDepth 100000 in
theorem cX9_fullnessD (l : Launch) (D : va_G) (cy : Nat → ClassId) (ad : Nat → Nat) (hh : Nat → Nat) (aa : Nat → Nat → Nat) (pa : Nat → Nat) (sz : Nat) (u : FS) {g : Nat → Int32} (RA : eRA (fN u) g) (RB : eRB (fN u) g) (S : eS g) : MetD lw_cs l yX9_fullness wsX9_fullness rmX9_fullness (va_Pc [.ref (ad 0)] (kPre D cy sz (wF cy ad hh aa pa u))) (va_Qf (fun (r : UInt32) (_ : Unit) => alike32 r (fuQ g) = true) (fun _ => kPost D (va_A (wF cy ad hh aa pa u) sz) (wF cy ad hh aa pa u)) (va_A (wF cy ad hh aa pa u) sz)) 0 0 (va_A (wF cy ad hh aa pa u) sz) := by
  refine MetD.ofW (cc := cX9_fullness) (maxL := 2) (ret := (some .float)) (by decide) rfl ?_
  intro p e s m args below meth c s₁ B hml hv hd0
  obtain ⟨rfl, hsz, hP, hK, hD0⟩ := hv
  subst hsz
  have E : mE D cy RX9 cX9_fullness 2 (some .float) wsX9_fullness (va_A (wF cy ad hh aa pa u) s.heap.size) p s m _ meth c := ⟨B.exec, B.bytes, B.returns, hml, findClass_of_methodNamed B.named, atoms_spec (ws := wsX9_fullness) B.pre, B.notSynchronized, hK, fun q h => Or.inr h⟩
  obtain ⟨hx, hb, hr, -, hown, hts, hlocks, hK, hA⟩ := E.draw s.drawn
  have hD := hD0.self (sz := s.heap.size)
  generalize va_A (wF cy ad hh aa pa u) s.heap.size = A at hD hA ⊢
  have hS : va_S A s.heap s.heap [] := va_S.rf
  have hl := lv_entry ([.ref (ad 0)]) (n := 2) (Nat.le_of_ble_eq_true rfl)
  rw [lg_entry_eq]
  generalize (lg_sl ([.ref (ad 0)]) ++ List.replicate (2 - (lg_sl ([.ref (ad 0)])).length) Slot.unset).toArray = ls at hl ⊢
  have hl : lv_has ls 2 [(0, .ref (ad 0))] := hl
  have e22 : sT (fN u) 7 = g 22 := RA.2.1 7 (by decide)
  have e7 : sC (fN u) 7 = eLd g := RB.2.1
  have h22 : 1 ≤ (g 22).toInt := by
    have h := S.1
    omega
  refine lv_aload_n hx hb dX9_fullness_0 rfl (lv_at hl 0 rfl) ?_
  refine k_get (v := .ref (hh 0)) (C := RX9) (T := TX9) (N := 9) hx hb hts inX9_fullness_X9 hown hK hP 0 (wF_c0 _ _ _ _ _ _) rfl 0 (by decide) lkX9_fullness_10 (fFs_0 _ _ _ _) dX9_fullness_1 ?_
  refine k_get (v := .ref ((aa 0) 1)) (C := RX8) (T := TX8) (N := 13) hx hb hts inX9_fullness_X8 hown hK hP 5 (wF_c5 _ _ _ _ _ _) rfl 1 (by decide) lkX9_fullness_116 (sFs_1 _ _) dX9_fullness_4 ?_
  refine lv_bipush (v := 7) hx hb dX9_fullness_7 rfl ?_
  refine k_iald (k := 7) hx hb hK hP 7 (wF_c7 _ _ _ _ _ _) rfl rfl dX9_fullness_9 ?_
  rw [e22]
  refine lv_istore_n (lv' := [(1, .int (g 22)), (0, .ref (ad 0))]) hx hb dX9_fullness_10 rfl hl (by decide) rfl (fun ls hl => ?_)
  refine lv_iload_n hx hb dX9_fullness_11 rfl (lv_at hl 0 rfl) ?_
  refine lv_iconst (v := 1) hx hb dX9_fullness_12 rfl ?_
  refine lv_icmp_ge (tgt := 20) hx hb dX9_fullness_13 (by decide) (fun _ => ?_) (fun c => absurd (qa_le.mpr (by rw [qa_1]; exact h22)) c)
  refine lv_aload_n hx hb dX9_fullness_20 rfl (lv_at hl 1 rfl) ?_
  refine k_get (v := .ref (hh 0)) (C := RX9) (T := TX9) (N := 9) hx hb hts inX9_fullness_X9 hown hK hP 0 (wF_c0 _ _ _ _ _ _) rfl 0 (by decide) lkX9_fullness_10 (fFs_0 _ _ _ _) dX9_fullness_21 ?_
  refine k_get (v := .ref ((aa 0) 0)) (C := RX8) (T := TX8) (N := 13) hx hb hts inX9_fullness_X8 hown hK hP 5 (wF_c5 _ _ _ _ _ _) rfl 0 (by decide) lkX9_fullness_87 (sFs_0 _ _) dX9_fullness_24 ?_
  refine lv_bipush (v := 7) hx hb dX9_fullness_27 rfl ?_
  refine k_iald (k := 7) hx hb hK hP 6 (wF_c6 _ _ _ _ _ _) rfl rfl dX9_fullness_29 ?_
  rw [e7]
  refine lv_i2f hx hb dX9_fullness_30 ?_
  refine lv_iload_n hx hb dX9_fullness_31 rfl (lv_at hl 0 rfl) ?_
  refine lv_i2f hx hb dX9_fullness_32 ?_
  refine lv_fdiv_any hd0 lw_bits hx hb dX9_fullness_33 (fun r d1 hal hd1 => ?_)
  have hq : alike32 r (fuQ g) = true := hal
  refine W.endD hd1 ?_
  exact W.fret hx hb hr (fun t ht hW => ⟨⟨r, (), rfl, hq, by rw [ht]; exact hP, hD⟩, hS.F ht⟩) hS.2.2 dX9_fullness_34 hlocks
-- the reference's meanWait
theorem inX10_meanWait_X10 : ∀ w ∈ u_ws RX10 TX10 23, w ∈ wsX10_meanWait := k_lays 12 rfl
theorem lkX10_meanWait_48 : Cond.fieldLink RX10 48 "FerryRampModel" "thrown" "I" ∈ wsX10_meanWait := List.mem_of_getElem? (i := 1) rfl
theorem lkX10_meanWait_7 : Cond.fieldLink RX10 7 "FerryRampModel" "state" "[I" ∈ wsX10_meanWait := List.mem_of_getElem? (i := 2) rfl
abbrev rmX10_meanWait : Room := { frames := 2, cells := 0, slots := 0, locals := 60 }
set_option maxHeartbeats 4000000 in
set_option maxRecDepth 100000 in
theorem tX10_meanWait_l {p : Program} {l : Launch} {e : Env} {s : State} {m : MethodId} {args : Array Value} {below : List Frame} {meth : Method} {c : Code} {D : va_G} {cy : Nat → ClassId} {A : Nat → Prop} {h : Nat} {a : Nat → Nat} {Q : State → Prop} (E : mE D cy RX10 cX10_meanWait 3 (some .double) wsX10_meanWait A p s m args meth c) (u : RS) {g : Nat → Int32} (hg : mSt u = g) {B : Int} (G : eG g) (Z : eZ B g) (hD : va_D A (wM cy h a u))
    (kk : ∀ (H : Heap) (locs : List Loc) (ls : Array Slot), lv_has ls 3 [(0, .ref h), (1, .int (sI (eWt g) (eN g)))] → va_P D vwCl (wM cy h a u) H → va_S A s.heap H locs → W p l e rmX10_meanWait s m args below meth c H locs 0 0 Q (F0 m 56 ls [])) :
    ∀ (n k : Nat), k + n = eN g → ∀ (H : Heap) (locs : List Loc) (ls : Array Slot), lv_has ls 3 [(0, .ref h), (1, .int (sI (eWt g) k)), (2, .int (nI k))] → va_P D vwCl (wM cy h a u) H → va_S A s.heap H locs → W p l e rmX10_meanWait s m args below meth c H locs 0 0 Q (F0 m 9 ls []) := by
  obtain ⟨hx, hb, hr, hml, hown, hts, hlocks, hK, hA⟩ := id E
  have hN := G.1.n
  intro n
  induction n with
  | zero =>
    intro k hk H locs ls hl hP hS
    have hkI : (nI k).toInt = (k : Int) := qa_nI (by omega)
    refine lv_iload_n hx hb dX10_meanWait_9 rfl (lv_at hl 2 rfl) ?_
    refine lv_aload_n hx hb dX10_meanWait_10 rfl (lv_at hl 0 rfl) ?_
    refine k_get (v := .ref (a 0)) (C := RX10) (T := TX10) (N := 23) hx hb hts inX10_meanWait_X10 hown hK hP 0 (wM_a0 _ _ _ _) rfl 0 (by decide) lkX10_meanWait_7 (mFs_0 _ _) dX10_meanWait_11 ?_
    refine lv_bipush (v := 13) hx hb dX10_meanWait_14 rfl ?_
    refine k_iald (k := 13) hx hb hK hP 1 (wM_a1 _ _ _ _) rfl rfl dX10_meanWait_16 ?_
    rw [hg]
    refine lv_icmp_ge (tgt := 56) hx hb dX10_meanWait_17 (by decide) (fun c17 => ?_) (fun c17 => absurd (qa_le.mpr (by omega)) c17)
    have e : k = eN g := by omega
    subst e
    exact kk H locs ls (lv_sub hl [0, 1] rfl) hP hS
  | succ n ih =>
    intro k hk H locs ls hl hP hS
    have hkN : k < eN g := by omega
    have hkI : (nI k).toInt = (k : Int) := qa_nI (by omega)
    refine lv_iload_n hx hb dX10_meanWait_9 rfl (lv_at hl 2 rfl) ?_
    refine lv_aload_n hx hb dX10_meanWait_10 rfl (lv_at hl 0 rfl) ?_
    refine k_get (v := .ref (a 0)) (C := RX10) (T := TX10) (N := 23) hx hb hts inX10_meanWait_X10 hown hK hP 0 (wM_a0 _ _ _ _) rfl 0 (by decide) lkX10_meanWait_7 (mFs_0 _ _) dX10_meanWait_11 ?_
    refine lv_bipush (v := 13) hx hb dX10_meanWait_14 rfl ?_
    refine k_iald (k := 13) hx hb hK hP 1 (wM_a1 _ _ _ _) rfl rfl dX10_meanWait_16 ?_
    rw [hg]
    refine lv_icmp_ge (tgt := 56) hx hb dX10_meanWait_17 (by decide) (fun c17 => absurd (qa_le.mp c17) (by omega)) (fun _ => ?_)
    have fin : ∀ (v : Int32), v = eWt g k → ∀ (H : Heap) (locs : List Loc), va_P D vwCl (wM cy h a u) H → va_S A s.heap H locs → W p l e rmX10_meanWait s m args below meth c H locs 0 0 Q (F0 m 48 ls [.int v, .int (sI (eWt g) k)]) := by
      intro v hv H locs hP hS
      refine lv_iadd hx hb dX10_meanWait_48 ?_
      have e1 : sI (eWt g) k + v = sI (eWt g) (k + 1) := by
        rw [hv]
        rfl
      rw [e1]
      refine lv_istore_n (lv' := [(1, .int (sI (eWt g) (k + 1))), (0, .ref h), (2, .int (nI k))]) hx hb dX10_meanWait_49 rfl hl (by decide) rfl (fun ls hl => ?_)
      refine lv_iinc (v := nI (k + 1)) (lv' := [(2, .int (nI (k + 1))), (1, .int (sI (eWt g) (k + 1))), (0, .ref h)]) hx hb dX10_meanWait_50 hl (k := 2) rfl (nI_succ k).symm (by decide) rfl (fun ls hl => ?_)
      refine lv_goto (tgt := 9) hx hb dX10_meanWait_53 (by decide) ?_
      exact ih (k + 1) (by omega) H locs ls (lv_sub hl [2, 1, 0] rfl) hP hS
    have h5 : fX10_ofCar (nI k) 5 (mSt u) = some (eC g k 5) := by
      rw [hg]
      exact rb_ofCar k 5 hkI (by omega) qa_5 (by decide)
    have h4 : fX10_ofCar (nI k) 4 (mSt u) = some (eC g k 4) := by
      rw [hg]
      exact rb_ofCar k 4 hkI (by omega) qa_4 (by decide)
    refine lv_iload_n hx hb dX10_meanWait_20 rfl (lv_at hl 1 rfl) ?_
    refine lv_aload_n hx hb dX10_meanWait_21 rfl (lv_at hl 0 rfl) ?_
    refine lv_iload_n hx hb dX10_meanWait_22 rfl (lv_at hl 2 rfl) ?_
    refine lv_iconst (v := 5) hx hb dX10_meanWait_23 rfl ?_
    refine kq_rV h5 (b := h) (As := [.int (nI k), .int 5]) (rest := [.int (sI (eWt g) k)]) ⟨hx, hb, hml, hown, hts⟩ (cX10_ofCarM l D cy h (a 0) (mRest a u) H.size (mSt u) (nI k) 5) (cwV 2 hts gX10_meanWait_X10_ofCar rfl rfl rfl hdX10_ofCar ⟨Nat.le_of_ble_eq_true rfl, Nat.le_of_ble_eq_true rfl⟩) hK (wM_split _ _ _ _) hP hD hS hA (q0 := 0) rfl rfl rfl hl.1 rfl (Nat.le_of_ble_eq_true rfl) dX10_meanWait_24 ⟨Nat.zero_le _, Nat.zero_le _⟩ (fun H locs hP hS => ?_)
    refine lv_iconst (v := (-1)) hx hb dX10_meanWait_27 rfl ?_
    refine lv_icmp_ne (tgt := 35) hx hb dX10_meanWait_28 (by decide) (fun c28 => ?_) (fun c28 => ?_)
    · refine lv_aload_n hx hb dX10_meanWait_35 rfl (lv_at hl 0 rfl) ?_
      refine lv_iload_n hx hb dX10_meanWait_36 rfl (lv_at hl 2 rfl) ?_
      refine lv_iconst (v := 5) hx hb dX10_meanWait_37 rfl ?_
      refine kq_rV h5 (b := h) (As := [.int (nI k), .int 5]) (rest := [.int (sI (eWt g) k)]) ⟨hx, hb, hml, hown, hts⟩ (cX10_ofCarM l D cy h (a 0) (mRest a u) H.size (mSt u) (nI k) 5) (cwV 2 hts gX10_meanWait_X10_ofCar rfl rfl rfl hdX10_ofCar ⟨Nat.le_of_ble_eq_true rfl, Nat.le_of_ble_eq_true rfl⟩) hK (wM_split _ _ _ _) hP hD hS hA (q0 := 0) rfl rfl rfl hl.1 rfl (Nat.le_of_ble_eq_true rfl) dX10_meanWait_38 ⟨Nat.zero_le _, Nat.zero_le _⟩ (fun H locs hP hS => ?_)
      refine lv_aload_n hx hb dX10_meanWait_41 rfl (lv_at hl 0 rfl) ?_
      refine lv_iload_n hx hb dX10_meanWait_42 rfl (lv_at hl 2 rfl) ?_
      refine lv_iconst (v := 4) hx hb dX10_meanWait_43 rfl ?_
      refine kq_rV h4 (b := h) (As := [.int (nI k), .int 4]) (rest := [.int (eC g k 5), .int (sI (eWt g) k)]) ⟨hx, hb, hml, hown, hts⟩ (cX10_ofCarM l D cy h (a 0) (mRest a u) H.size (mSt u) (nI k) 4) (cwV 2 hts gX10_meanWait_X10_ofCar rfl rfl rfl hdX10_ofCar ⟨Nat.le_of_ble_eq_true rfl, Nat.le_of_ble_eq_true rfl⟩) hK (wM_split _ _ _ _) hP hD hS hA (q0 := 0) rfl rfl rfl hl.1 rfl (Nat.le_of_ble_eq_true rfl) dX10_meanWait_44 ⟨Nat.zero_le _, Nat.zero_le _⟩ (fun H locs hP hS => ?_)
      refine lv_isub hx hb dX10_meanWait_47 ?_
      exact fin _ (by unfold eWt; rw [if_neg c28]) H locs hP hS
    · refine lv_iconst (v := 0) hx hb dX10_meanWait_31 rfl ?_
      refine lv_goto (tgt := 48) hx hb dX10_meanWait_32 (by decide) ?_
      exact fin _ (by unfold eWt; rw [if_pos c28]) H locs hP hS
set_option maxHeartbeats 4000000 in
set_option maxRecDepth 100000 in
theorem cX10_meanWaitD (l : Launch) (D : va_G) (cy : Nat → ClassId) (h : Nat) (a : Nat → Nat) (sz : Nat) (u : RS) {B : Int} (G : eG (mSt u)) (Z : eZ B (mSt u)) : MetD lw_cs l yX10_meanWait wsX10_meanWait rmX10_meanWait (va_Pc [.ref h] (kPre D cy sz (wM cy h a u))) (va_Qd (fun (r : UInt64) (_ : Unit) => alike64 r (mwQ (mSt u)) = true) (fun _ => kPost D (va_A (wM cy h a u) sz) (wM cy h a (nTh u 0))) (va_A (wM cy h a u) sz)) 0 0 (va_A (wM cy h a u) sz) := by
  refine MetD.ofW (cc := cX10_meanWait) (maxL := 3) (ret := (some .double)) (by decide) rfl ?_
  intro p e s m args below meth c s₁ B hml hv hd0
  obtain ⟨rfl, hsz, hP, hK, hD0⟩ := hv
  subst hsz
  have E : mE D cy RX10 cX10_meanWait 3 (some .double) wsX10_meanWait (va_A (wM cy h a u) s.heap.size) p s m _ meth c := ⟨B.exec, B.bytes, B.returns, hml, findClass_of_methodNamed B.named, atoms_spec (ws := wsX10_meanWait) B.pre, B.notSynchronized, hK, fun q h => Or.inr h⟩
  have hD := hD0.self (sz := s.heap.size)
  generalize va_A (wM cy h a u) s.heap.size = A at E hD ⊢
  have E1 := E.draw s.drawn
  obtain ⟨hx, hb, hr, hml1, hown, hts, hlocks, hK, hA⟩ := id E1
  have hS : va_S A s.heap s.heap [] := va_S.rf
  have hl := lv_entry ([.ref h]) (n := 3) (Nat.le_of_ble_eq_true rfl)
  rw [lg_entry_eq]
  generalize (lg_sl ([.ref h]) ++ List.replicate (3 - (lg_sl ([.ref h])).length) Slot.unset).toArray = ls at hl ⊢
  have hl : lv_has ls 3 [(0, .ref h)] := hl
  refine lv_aload_n hx hb dX10_meanWait_0 rfl (lv_at hl 0 rfl) ?_
  refine lv_iconst (v := 0) hx hb dX10_meanWait_1 rfl ?_
  refine k_put (v := .int 0) (ty := .int) (C := RX10) (T := TX10) (N := 23) hx hb hts inX10_meanWait_X10 tyX10 tyX10_ok nmX10 hown hK hP hD hS 0 (wM_a0 _ _ _ _) rfl 8 (by decide) lkX10_meanWait_48 rfl (by decide +kernel) rfl rfl (Nat.le_of_ble_eq_true rfl) (ws' := wM cy h a (nTh u 0)) (wM_nTh _ _ _ _ _) dX10_meanWait_2 (fun H locs hP hD hS => ?_)
  refine lv_iconst (v := 0) hx hb dX10_meanWait_5 rfl ?_
  refine lv_istore_n (lv' := [(1, .int 0), (0, .ref h)]) hx hb dX10_meanWait_6 rfl hl (by decide) rfl (fun ls hl => ?_)
  refine lv_iconst (v := 0) hx hb dX10_meanWait_7 rfl ?_
  refine lv_istore_n (lv' := [(2, .int 0), (1, .int 0), (0, .ref h)]) hx hb dX10_meanWait_8 rfl hl (by decide) rfl (fun ls hl => ?_)
  refine tX10_meanWait_l E1 (nTh u 0) (g := mSt u) rfl G Z hD (fun H locs ls hl hP hS => ?_) (eN (mSt u)) 0 (by omega) H locs ls (by rw [nI_0]; exact lv_sub hl [2, 1, 0] rfl) hP hS
  refine lv_aload_n hx hb dX10_meanWait_56 rfl (lv_at hl 0 rfl) ?_
  refine kq_rV (o := fX10_begun (mSt (nTh u 0))) (r0 := sI (eBf (mSt u)) (eN (mSt u))) (rb_begun G.1) (b := h) (As := []) (rest := []) ⟨hx, hb, hml1, hown, hts⟩ (cX10_begunM l D cy h (a 0) (mRest a (nTh u 0)) H.size (mSt (nTh u 0))) (cwV 0 hts gX10_meanWait_X10_begun rfl rfl rfl hdX10_begun ⟨Nat.le_of_ble_eq_true rfl, Nat.le_of_ble_eq_true rfl⟩) hK (wM_split _ _ _ _) hP hD hS hA (q0 := 0) rfl rfl rfl hl.1 rfl (Nat.le_of_ble_eq_true rfl) dX10_meanWait_57 ⟨Nat.zero_le _, Nat.zero_le _⟩ (fun H locs hP hS => ?_)
  refine lv_istore_n (lv' := [(2, .int (sI (eBf (mSt u)) (eN (mSt u)))), (0, .ref h), (1, .int (sI (eWt (mSt u)) (eN (mSt u))))]) hx hb dX10_meanWait_60 rfl hl (by decide) rfl (fun ls hl => ?_)
  refine lv_iload_n hx hb dX10_meanWait_61 rfl (lv_at hl 0 rfl) ?_
  refine lv_if_ne (tgt := 69) hx hb dX10_meanWait_62 (by decide) (fun c62 => ?_) (fun c62 => ?_)
  · refine lv_iload_n hx hb dX10_meanWait_69 rfl (lv_at hl 2 rfl) ?_
    refine lv_i2d hx hb dX10_meanWait_70 ?_
    refine lv_iload_n hx hb dX10_meanWait_71 rfl (lv_at hl 0 rfl) ?_
    refine lv_i2d hx hb dX10_meanWait_72 ?_
    refine lv_ddiv_any hd0 lw_bits hx hb dX10_meanWait_73 (fun r d1 hal hd1 => ?_)
    have hq : alike64 r (mwQ (mSt u)) = true := by
      unfold mwQ
      rw [if_neg c62]
      exact hal
    refine W.endD hd1 ?_
    exact W.dret hx hb hr (fun t ht hW => ⟨⟨r, (), rfl, hq, by rw [ht]; exact hP, hD⟩, hS.F ht⟩) hS.2.2 dX10_meanWait_74 hlocks
  · have hq : alike64 FP.dconst0 (mwQ (mSt u)) = true := by
      unfold mwQ
      rw [if_pos c62]
      exact alike64_refl _
    refine lv_dconst0 hx hb dX10_meanWait_65 ?_
    refine lv_goto (tgt := 74) hx hb dX10_meanWait_66 (by decide) ?_
    refine W.endD hd0 ?_
    exact W.dret hx hb hr (fun t ht hW => ⟨⟨FP.dconst0, (), rfl, hq, by rw [ht]; exact hP, hD⟩, hS.F ht⟩) hS.2.2 dX10_meanWait_74 hlocks
-- the reference's fullness
theorem inX10_fullness_X10 : ∀ w ∈ u_ws RX10 TX10 23, w ∈ wsX10_fullness := k_lays 12 rfl
theorem lkX10_fullness_48 : Cond.fieldLink RX10 48 "FerryRampModel" "thrown" "I" ∈ wsX10_fullness := List.mem_of_getElem? (i := 1) rfl
theorem lkX10_fullness_7 : Cond.fieldLink RX10 7 "FerryRampModel" "state" "[I" ∈ wsX10_fullness := List.mem_of_getElem? (i := 2) rfl
abbrev rmX10_fullness : Room := { frames := 2, cells := 0, slots := 0, locals := 60 }
set_option maxHeartbeats 4000000 in
set_option maxRecDepth 100000 in
theorem cX10_fullnessD (l : Launch) (D : va_G) (cy : Nat → ClassId) (h : Nat) (a : Nat → Nat) (sz : Nat) (u : RS) (G : eH (mSt u)) : MetD lw_cs l yX10_fullness wsX10_fullness rmX10_fullness (va_Pc [.ref h] (kPre D cy sz (wM cy h a u))) (va_Qf (fun (r : UInt32) (_ : Unit) => alike32 r (fuQ (mSt u)) = true) (fun _ => kPost D (va_A (wM cy h a u) sz) (wM cy h a (nTh u 0))) (va_A (wM cy h a u) sz)) 0 0 (va_A (wM cy h a u) sz) := by
  refine MetD.ofW (cc := cX10_fullness) (maxL := 1) (ret := (some .float)) (by decide) rfl ?_
  intro p e s m args below meth c s₁ B hml hv hd0
  obtain ⟨rfl, hsz, hP, hK, hD0⟩ := hv
  subst hsz
  have E : mE D cy RX10 cX10_fullness 1 (some .float) wsX10_fullness (va_A (wM cy h a u) s.heap.size) p s m _ meth c := ⟨B.exec, B.bytes, B.returns, hml, findClass_of_methodNamed B.named, atoms_spec (ws := wsX10_fullness) B.pre, B.notSynchronized, hK, fun q h => Or.inr h⟩
  have hD := hD0.self (sz := s.heap.size)
  generalize va_A (wM cy h a u) s.heap.size = A at E hD ⊢
  obtain ⟨hx, hb, hr, hml1, hown, hts, hlocks, hK, hA⟩ := E.draw s.drawn
  have hS : va_S A s.heap s.heap [] := va_S.rf
  have hl := lv_entry ([.ref h]) (n := 1) (Nat.le_of_ble_eq_true rfl)
  rw [lg_entry_eq]
  generalize (lg_sl ([.ref h]) ++ List.replicate (1 - (lg_sl ([.ref h])).length) Slot.unset).toArray = ls at hl ⊢
  have hl : lv_has ls 1 [(0, .ref h)] := hl
  refine lv_aload_n hx hb dX10_fullness_0 rfl (lv_at hl 0 rfl) ?_
  refine lv_iconst (v := 0) hx hb dX10_fullness_1 rfl ?_
  refine k_put (v := .int 0) (ty := .int) (C := RX10) (T := TX10) (N := 23) hx hb hts inX10_fullness_X10 tyX10 tyX10_ok nmX10 hown hK hP hD hS 0 (wM_a0 _ _ _ _) rfl 8 (by decide) lkX10_fullness_48 rfl (by decide +kernel) rfl rfl (Nat.le_of_ble_eq_true rfl) (ws' := wM cy h a (nTh u 0)) (wM_nTh _ _ _ _ _) dX10_fullness_2 (fun H locs hP hD hS => ?_)
  refine lv_aload_n hx hb dX10_fullness_5 rfl (lv_at hl 0 rfl) ?_
  refine kq_rV (o := fX10_weightOnDeck (mSt (nTh u 0))) (r0 := eLd (mSt u)) (rb_wod G) (b := h) (As := []) (rest := []) ⟨hx, hb, hml1, hown, hts⟩ (cX10_weightOnDeckM l D cy h (a 0) (mRest a (nTh u 0)) H.size (mSt (nTh u 0))) (cwV 0 hts gX10_fullness_X10_weightOnDeck rfl rfl rfl hdX10_weightOnDeck ⟨Nat.le_of_ble_eq_true rfl, Nat.le_of_ble_eq_true rfl⟩) hK (wM_split _ _ _ _) hP hD hS hA (q0 := 0) rfl rfl rfl hl.1 rfl (Nat.le_of_ble_eq_true rfl) dX10_fullness_6 ⟨Nat.zero_le _, Nat.zero_le _⟩ (fun H locs hP hS => ?_)
  refine lv_i2f hx hb dX10_fullness_9 ?_
  refine lv_aload_n hx hb dX10_fullness_10 rfl (lv_at hl 0 rfl) ?_
  refine k_get (v := .ref (a 0)) (C := RX10) (T := TX10) (N := 23) hx hb hts inX10_fullness_X10 hown hK hP 0 (wM_a0 _ _ _ _) rfl 0 (by decide) lkX10_fullness_7 (mFs_0 _ _) dX10_fullness_11 ?_
  refine lv_bipush (v := 22) hx hb dX10_fullness_14 rfl ?_
  refine k_iald (k := 22) hx hb hK hP 1 (wM_a1 _ _ _ _) rfl rfl dX10_fullness_16 ?_
  refine lv_i2f hx hb dX10_fullness_17 ?_
  refine lv_fdiv_any hd0 lw_bits hx hb dX10_fullness_18 (fun r d1 hal hd1 => ?_)
  have hq : alike32 r (fuQ (mSt u)) = true := hal
  refine W.endD hd1 ?_
  exact W.fret hx hb hr (fun t ht hW => ⟨⟨r, (), rfl, hq, by rw [ht]; exact hP, hD⟩, hS.F ht⟩) hS.2.2 dX10_fullness_19 hlocks
