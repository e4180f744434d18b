/-! the law's loads: the text, its laying, its loading -/
theorem hdJ4_append_15ec4 : yJ4_append_15ec4.cls = RJ4 ∧ yJ4_append_15ec4.cls ≠ "java/lang/invoke/MethodHandle" ∧ yJ4_append_15ec4.cls ≠ "java/lang/invoke/VarHandle" ∧ (parseMethodDescriptor yJ4_append_15ec4.desc).map (fun d => d.parameters.length) = some 1 := by decide +kernel
theorem hdJ4_append_bf812 : yJ4_append_bf812.cls = RJ4 ∧ yJ4_append_bf812.cls ≠ "java/lang/invoke/MethodHandle" ∧ yJ4_append_bf812.cls ≠ "java/lang/invoke/VarHandle" ∧ (parseMethodDescriptor yJ4_append_bf812.desc).map (fun d => d.parameters.length) = some 1 := by decide +kernel
theorem hdJ4_append_cf468 : yJ4_append_cf468.cls = RJ4 ∧ yJ4_append_cf468.cls ≠ "java/lang/invoke/MethodHandle" ∧ yJ4_append_cf468.cls ≠ "java/lang/invoke/VarHandle" ∧ (parseMethodDescriptor yJ4_append_cf468.desc).map (fun d => d.parameters.length) = some 1 := by decide +kernel
theorem hdJ4_setLength_d00df : yJ4_setLength_d00df.cls = RJ4 ∧ yJ4_setLength_d00df.cls ≠ "java/lang/invoke/MethodHandle" ∧ yJ4_setLength_d00df.cls ≠ "java/lang/invoke/VarHandle" ∧ (parseMethodDescriptor yJ4_setLength_d00df.desc).map (fun d => d.parameters.length) = some 1 := by decide +kernel
theorem hdJ4_toString_0e30d : yJ4_toString_0e30d.cls = RJ4 ∧ yJ4_toString_0e30d.cls ≠ "java/lang/invoke/MethodHandle" ∧ yJ4_toString_0e30d.cls ≠ "java/lang/invoke/VarHandle" ∧ (parseMethodDescriptor yJ4_toString_0e30d.desc).map (fun d => d.parameters.length) = some 0 := by decide +kernel
theorem hdL_lays : yL_lays.cls = RL ∧ yL_lays.cls ≠ "java/lang/invoke/MethodHandle" ∧ yL_lays.cls ≠ "java/lang/invoke/VarHandle" ∧ (parseMethodDescriptor yL_lays.desc).map (fun d => d.parameters.length) = some 1 := by decide +kernel
theorem hdX9_load : yX9_load.cls = RX9 ∧ yX9_load.cls ≠ "java/lang/invoke/MethodHandle" ∧ yX9_load.cls ≠ "java/lang/invoke/VarHandle" ∧ (parseMethodDescriptor yX9_load.desc).map (fun d => d.parameters.length) = some 0 := by decide +kernel
set_option maxRecDepth 100000 in
theorem inL_loads_L : ∀ w ∈ u_ws RL TL 4, w ∈ wsL_loads := k_lays 529 rfl
theorem lkL_loads_19 : Cond.fieldLink RL 19 "FerryRampLaw" "text" "Ljava/lang/StringBuilder;" ∈ wsL_loads := List.mem_of_getElem? (i := 1) rfl
theorem lkL_loads_10 : Cond.fieldLink RL 10 "FerryRampLaw" "x" "LFerryRamp;" ∈ wsL_loads := List.mem_of_getElem? (i := 2) rfl
abbrev rmL_loads : Room := { frames := 14, cells := 120, slots := 132000, locals := 520 }
section JDG
variable {p : Program} {l : Launch} {e : Env} {R : Room} {s : State} {m : MethodId} {args : Array Value} {below : List Frame} {meth : Method} {c : Code} {H : Heap} {locs : List Loc} {cells slots : Nat} {Q : State → Prop}
variable {Ts wy : List Cond} {cc bytes : ByteArray} {nL maxL index n pc : Nat} {own : String} {y : MethodName} {ret : Option FieldType} {rm : Room} {As rest st : List Value} {ls : Array Slot}
variable {D : va_G} {cy : Nat → ClassId} {A : Nat → Prop} {za zv : Nat → Nat} {Y : YB} {hLn lbn : Nat} {ad hh : Nat → Nat} {aa : Nat → Nat → Nat} {pa : Nat → Nat} {u : FS} {bv bm : Nat} {ba : Nat → Int32} {bz : Int32}
theorem jd_dg {k n9 : Nat} (hN : Y.2.2.1 < 2147483648) (hk : k < 2147483647) (hn0 : 0 < n9) (hn2 : n9 < 2147483648) (CF : CallFix p m c cc nL s args Ts own)
    (cw : CallW R s args own RL index yL_draw bytes maxL ret wsL_draw rmL_draw 0 0 1) (hY : mY Y A s s.heap) (hZ : mZ za zv A s s.heap) (hK : mK D cy s) {nb : Nat}
    (hP : va_P D kCl (w3 cy hLn lbn ad hh aa pa Y k u bv bm ba nb bz) H) (hD : va_D A (w3 cy hLn lbn ad hh aa pa Y k u bv bm ba nb bz)) (hS : va_S A s.heap H locs) (hA : ∀ q, s.heap.size ≤ q → A q)
    (hl : ls.size = nL) (hst : st = .int (nI n9) :: .ref hLn :: rest) (hw : (rest.map fun v => v.category).sum ≤ 8) (hdg : decode cc pc = .ok (.invokevirtual index, 3)) (hf : cells ≤ R.cells ∧ slots ≤ R.slots)
    (kk : ∀ (d9 : Nat) (H1 : Heap) (locs1 : List Loc), d9 = drN Y k n9 → d9 < n9 → va_P D kCl (w3 cy hLn lbn ad hh aa pa Y (k + 1) u bv bm ba nb bz) H1 → va_D A (w3 cy hLn lbn ad hh aa pa Y (k + 1) u bv bm ba nb bz) → va_S A s.heap H1 locs1 → W p l e R s m args below meth c H1 locs1 cells slots Q (F0 m (pc + 3) ls (.int (nI d9) :: rest))) :
    W p l e R s m args below meth c H locs cells slots Q (F0 m pc ls st) :=
  jd_dr hN hk hn0 hn2 CF cw hY hZ hK hP hD hS hA hl hst hw hdg hf (fun H1 locs1 h1 h2 h3 h4 => kk _ H1 locs1 rfl h1 h2 h3 h4)
end JDG
theorem jd_nle {a b : Nat} (h : a < b) (hb : b < 2147483648) : ¬ nI b ≤ nI a := by
  rw [qa_le, qa_nI hb, qa_nI (by omega)]
  omega
section JE
variable {p : Program} {l : Launch} {e : Env} {s : State} {m : MethodId} {args : Array Value} {below : List Frame} {meth : Method} {c : Code} {Q : State → Prop}
variable {D : va_G} {cy : Nat → ClassId} {A : Nat → Prop} {za zv : Nat → Nat} {Y : YB} {hLn lbn : Nat} {ad hh : Nat → Nat} {aa : Nat → Nat → Nat} {pa : Nat → Nat} {u : FS}
theorem jd_set {R : Room} {k index nL : Nat} {Ts : List Cond} {cc bytes : ByteArray} {maxL : Nat} {own : String} {ret : Option FieldType} {H : Heap} {locs : List Loc} {cells slots pc : Nat} {ls : Array Slot} {rest st : List Value} {bv bm : Nat} {ba : Nat → Int32} {nb : Nat} {bz : Int32} (CF : CallFix p m c cc nL s args Ts own)
    (cw : CallW R s args own RJ4 index yJ4_setLength_d00df bytes maxL ret wsJ4_setLength_d00df rmJ4_setLength_d00df 1 1100 1) (hY : mY Y A s s.heap) (hZ : mZ za zv A s s.heap) (hK : mK D cy s) (hb1 : bm ≤ 1100) (hb2 : nb ≤ bm) (hb3 : sb_Fit ba)
    (hP : va_P D kCl (w3 cy hLn lbn ad hh aa pa Y k u bv bm ba nb bz) H) (hD : va_D A (w3 cy hLn lbn ad hh aa pa Y k u bv bm ba nb bz)) (hS : va_S A s.heap H locs) (hA : ∀ q, s.heap.size ≤ q → A q)
    (hl : ls.size = nL) (hst : st = .int (nI 0) :: .ref lbn :: rest) (hw : (rest.map fun v => v.category).sum ≤ 8) (hdg : decode cc pc = .ok (.invokevirtual index, 3)) (hf : cells + 1 ≤ R.cells ∧ slots + 1100 ≤ R.slots)
    (kk : ∀ (bv bm : Nat) (ba : Nat → Int32) (bz : Int32) (H1 : Heap) (locs1 : List Loc), tB [] bm ba → va_P D kCl (w3 cy hLn lbn ad hh aa pa Y k u bv bm ba ([] : List Nat).length bz) H1 → va_D A (w3 cy hLn lbn ad hh aa pa Y k u bv bm ba ([] : List Nat).length bz) → va_S A s.heap H1 locs1 → W p l e R s m args below meth c H1 locs1 (cells + 1) (slots + 1100) Q (F0 m (pc + 3) ls rest)) :
    W p l e R s m args below meth c H locs cells slots Q (F0 m pc ls st) := by
  have hp := k_sel1 (l := [lwW hLn (ad 0) Y.2.1 lbn (nI k), wF cy ad hh aa pa u, wSB cy lbn bv bm ba nb bz]) (n := 3) 2 [0, 1] rfl rfl (by decide)
  have hP' := kP_app.mp (kP_perm hp hP)
  have hD' := kD_app (kD_perm hp hD)
  refine jr_v (As := [.ref lbn, .int (nI 0)]) (mk := fun q : Nat × Nat × (Nat → Int32) × Int32 => wSB cy lbn q.1 q.2.1 q.2.2.1 0 q.2.2.2) (va_runV (b := lbn) (As := [.int (nI 0)]) CF (cJ4_setLength_d00dfM l D cy za zv Y H.size lbn bv bm ba nb bz hb1 hb2 hb3) cw (k_preVY hY hZ hS (k_free hp hD hS hA) hK hP'.1 hD'.1 (q0 := 0) (ci := 5) rfl rfl) rfl rfl hl hst (lv_room hw) hdg hf) hp hP hD hS hA (fun q H1 locs1 hq hP1 hD1 hS1 => ?_)
  have hp2 := (k_sel1 (l := [lwW hLn (ad 0) Y.2.1 lbn (nI k), wF cy ad hh aa pa u, wSB cy lbn q.1 q.2.1 q.2.2.1 0 q.2.2.2]) (n := 3) 2 [0, 1] rfl rfl (by decide)).symm
  exact kk _ _ _ _ H1 locs1 (tB.nil hq.1 hq.2) (kP_perm hp2 hP1) (kD_perm hp2 hD1) hS1
def ldN (Y : YB) (k : Nat) : Nat := 3 + (drN Y (k + 1) 6)
def ldA (Y : YB) (k : Nat) : List Nat := [] ++ zL 27 ++ decL (drN Y k 10) ++ [32] ++ decL ((drN Y k 10) + (drN Y (k + 2) 30)) ++ zL 28 ++ decL (2 + (drN Y (k + 3) 12)) ++ zL 29 ++ decL (drN Y (k + 4) 8) ++ zL 30 ++ decL (5 + (drN Y (k + 5) 40)) ++ zL 31 ++ decL (3 + (drN Y (k + 6) 6)) ++ zL 32 ++ decL (150 + (drN Y (k + 7) 500)) ++ zL 33 ++ decL (40 + (drN Y (k + 8) 160)) ++ zL 34 ++ decL (1 + (drN Y (k + 9) 3)) ++ [32] ++ decL (drN Y (k + 10) 5) ++ [32] ++ decL (drN Y (k + 11) 3) ++ zL 35 ++ decL (1 + (drN Y (k + 12) 3)) ++ zL 36 ++ decL (1 + (drN Y (k + 13) 4)) ++ [59]
set_option maxHeartbeats 4000000 in
set_option maxRecDepth 100000 in
theorem tLd_a (hN : Y.2.2.1 < 2147483648) (E : mE D cy RL cL_loads 4 (some .boolean) wsL_loads A p s m args meth c) (hZ : mZ za zv A s s.heap) (hY : mY Y A s s.heap) {k cells slots bv bm nb : Nat} {ba : Nat → Int32} {bz : Int32} {H : Heap} {locs : List Loc} {ls : Array Slot} (hk : k < 1000000) (hb1 : bm ≤ 1100) (hb2 : nb ≤ bm) (hb3 : sb_Fit ba) (hc : cells + 28 ≤ 120) (hs : slots + 30800 ≤ 132000) (hl : lv_has ls 4 [(0, .ref hLn)])
    (hP : va_P D kCl (w3 cy hLn lbn ad hh aa pa Y k u bv bm ba nb bz) H) (hD : va_D A (w3 cy hLn lbn ad hh aa pa Y k u bv bm ba nb bz)) (hS : va_S A s.heap H locs)
    (kk : ∀ (bv bm : Nat) (ba : Nat → Int32) (bz : Int32) (H : Heap) (locs : List Loc) (ls : Array Slot), ldN Y k ≤ 8 → lv_has ls 4 [(3, .int (nI 0)), (2, .int (nI (ldN Y k))), (0, .ref hLn)] → tB (ldA Y k) bm ba → (ldA Y k).length ≤ 109 → va_P D kCl (w3 cy hLn lbn ad hh aa pa Y (k + 14) u bv bm ba (ldA Y k).length bz) H → va_D A (w3 cy hLn lbn ad hh aa pa Y (k + 14) u bv bm ba (ldA Y k).length bz) → va_S A s.heap H locs → W p l e rmL_loads s m args below meth c H locs (cells + 28) (slots + 30800) Q (F0 m 231 ls [])) :
    W p l e rmL_loads s m args below meth c H locs cells slots Q (F0 m 0 ls []) := by
  obtain ⟨hx, hb, hr, hml, hown, hts, hlocks, hK, hA⟩ := id E
  refine lv_aload_n hx hb dL_loads_0 rfl (lv_at hl 0 rfl) ?_
  refine lv_bipush (v := 10) hx hb dL_loads_1 rfl ?_
  refine jd_dg (k := k) (n9 := 10) (rest := []) hN (by omega) (by decide) (by decide) ⟨hx, hb, hml, hown, hts⟩ (cwV 1 hts gL_loads_L_draw rfl rfl rfl hdL_draw ⟨Nat.le_of_ble_eq_true rfl, Nat.le_of_ble_eq_true rfl⟩) hY hZ hK hP hD hS hA hl.1 rfl (Nat.le_of_ble_eq_true rfl) dL_loads_3 ⟨by show _ ≤ 120; omega, by show _ ≤ 132000; omega⟩ (fun d1 H locs hd1 ld1 hP hD hS => ?_)
  refine lv_istore_n (lv' := [(1, .int (nI d1)), (0, .ref hLn)]) hx hb dL_loads_6 rfl hl (by decide) rfl (fun ls hl => ?_)
  refine lv_iconst (v := 3) hx hb dL_loads_7 rfl ?_
  refine lv_aload_n hx hb dL_loads_8 rfl (lv_at hl 1 rfl) ?_
  refine lv_bipush (v := 6) hx hb dL_loads_9 rfl ?_
  refine jd_dg (k := k + 1) (n9 := 6) (rest := [.int 3]) hN (by omega) (by decide) (by decide) ⟨hx, hb, hml, hown, hts⟩ (cwV 1 hts gL_loads_L_draw rfl rfl rfl hdL_draw ⟨Nat.le_of_ble_eq_true rfl, Nat.le_of_ble_eq_true rfl⟩) hY hZ hK hP hD hS hA hl.1 rfl (Nat.le_of_ble_eq_true rfl) dL_loads_11 ⟨by show _ ≤ 120; omega, by show _ ≤ 132000; omega⟩ (fun d2 H locs hd2 ld2 hP hD hS => ?_)
  refine lv_iadd hx hb dL_loads_14 ?_
  rw [show (3 + (nI d2) : Int32) = nI (3 + d2) from nI_add 3 d2]
  refine lv_istore_n (lv' := [(2, .int (nI (3 + d2))), (1, .int (nI d1)), (0, .ref hLn)]) hx hb dL_loads_15 rfl hl (by decide) rfl (fun ls hl => ?_)
  refine lv_aload_n hx hb dL_loads_16 rfl (lv_at hl 2 rfl) ?_
  refine k_get (v := .ref lbn) (C := RL) (T := TL) (N := 4) hx hb hts inL_loads_L hown hK hP 0 rfl rfl 3 (by decide) lkL_loads_19 rfl dL_loads_17 ?_
  refine lv_iconst (v := 0) hx hb dL_loads_20 rfl ?_
  refine jd_set (k := k + 2) ⟨hx, hb, hml, hown, hts⟩ (cwV 1 hts gL_loads_J4_setLength_d00df rfl rfl rfl hdJ4_setLength_d00df ⟨Nat.le_of_ble_eq_true rfl, Nat.le_of_ble_eq_true rfl⟩) hY hZ hK hb1 hb2 hb3 hP hD hS hA hl.1 rfl (Nat.le_of_ble_eq_true rfl) dL_loads_21 ⟨by show _ ≤ 120; omega, by show _ ≤ 132000; omega⟩ (fun bv bm ba bz H locs hB hP hD hS => ?_)
  have hL : ([] : List Nat).length ≤ 0 := Nat.le_refl 0
  refine lv_aload_n hx hb dL_loads_24 rfl (lv_at hl 2 rfl) ?_
  refine k_get (v := .ref lbn) (C := RL) (T := TL) (N := 4) hx hb hts inL_loads_L hown hK hP 0 rfl rfl 3 (by decide) lkL_loads_19 rfl dL_loads_25 ?_
  refine k_ldcS (tx := "tide ") (q := za 27) hx hb hown (k_site hZ 27 (by decide)) dL_loads_28 ?_
  refine jd_app (k := k + 2) (b9 := 0) (c9 := 5) (t := []) (s9 := zL 27) (n1 := [].length + (zL 27).length) (As := [.ref (za 27)]) (rest := []) ⟨hx, hb, hml, hown, hts⟩ (cJ4_append_15ec4M l D cy za zv Y H.size lbn bv bm ba [].length bz 27 (by decide) (by rw [show (zB 27).length = 5 by decide +kernel]; omega) hB.2.1 hB.1 hB.2.2.1) (cwV 1 hts gL_loads_J4_append_15ec4 rfl rfl rfl hdJ4_append_15ec4 ⟨Nat.le_of_ble_eq_true rfl, Nat.le_of_ble_eq_true rfl⟩) hY hZ hK hB hL (by decide +kernel) List.length_append.symm (zL_lt 27 (by decide)) (fun _ h => h) hP hD hS hA rfl hl.1 rfl (Nat.le_of_ble_eq_true rfl) dL_loads_30 ⟨by show _ ≤ 120; omega, by show _ ≤ 132000; omega⟩ (fun tx2 bv bm ba H locs ex2 hB hL hP hD hS => ?_)
  replace hL : (tx2).length ≤ 5 := hL
  refine lv_iload_n hx hb dL_loads_33 rfl (lv_at hl 1 rfl) ?_
  refine jd_app (k := k + 2) (b9 := 5) (c9 := 3) (t := tx2) (s9 := decL d1) (n1 := tx2.length + (decL d1).length) (As := [.int (nI d1)]) (rest := []) ⟨hx, hb, hml, hown, hts⟩ (cJ4_append_bf812M l D cy za zv Y H.size lbn bv bm ba tx2.length bz d1 (by omega) (by omega) hB.2.1 hB.1 hB.2.2.1) (cwV 1 hts gL_loads_J4_append_bf812 rfl rfl rfl hdJ4_append_bf812 ⟨Nat.le_of_ble_eq_true rfl, Nat.le_of_ble_eq_true rfl⟩) hY hZ hK hB hL (decL_le _) List.length_append.symm (decL_lt (by omega)) (fun _ h => h) hP hD hS hA rfl hl.1 rfl (Nat.le_of_ble_eq_true rfl) dL_loads_34 ⟨by show _ ≤ 120; omega, by show _ ≤ 132000; omega⟩ (fun tx3 bv bm ba H locs ex3 hB hL hP hD hS => ?_)
  replace hL : (tx3).length ≤ 8 := hL
  refine lv_bipush (v := 32) hx hb dL_loads_37 rfl ?_
  refine jd_app (k := k + 2) (b9 := 8) (c9 := 1) (t := tx3) (s9 := [32]) (n1 := tx3.length + 1) (As := [.int 32]) (rest := []) ⟨hx, hb, hml, hown, hts⟩ (cJ4_append_cf468M l D cy za zv Y H.size lbn bv bm ba tx3.length bz 32 (by decide) (by omega) hB.2.1 hB.1 hB.2.2.1) (cwV 1 hts gL_loads_J4_append_cf468 rfl rfl rfl hdJ4_append_cf468 ⟨Nat.le_of_ble_eq_true rfl, Nat.le_of_ble_eq_true rfl⟩) hY hZ hK hB hL (Nat.le_refl 1) List.length_append.symm (chr_lt (by decide)) (fun _ h => jApp_chr h) hP hD hS hA rfl hl.1 rfl (Nat.le_of_ble_eq_true rfl) dL_loads_39 ⟨by show _ ≤ 120; omega, by show _ ≤ 132000; omega⟩ (fun tx4 bv bm ba H locs ex4 hB hL hP hD hS => ?_)
  replace hL : (tx4).length ≤ 9 := hL
  refine lv_iload_n hx hb dL_loads_42 rfl (lv_at hl 1 rfl) ?_
  refine lv_aload_n hx hb dL_loads_43 rfl (lv_at hl 2 rfl) ?_
  refine lv_bipush (v := 30) hx hb dL_loads_44 rfl ?_
  refine jd_dg (k := k + 2) (n9 := 30) (rest := [.int (nI d1), .ref lbn]) hN (by omega) (by decide) (by decide) ⟨hx, hb, hml, hown, hts⟩ (cwV 1 hts gL_loads_L_draw rfl rfl rfl hdL_draw ⟨Nat.le_of_ble_eq_true rfl, Nat.le_of_ble_eq_true rfl⟩) hY hZ hK hP hD hS hA hl.1 rfl (Nat.le_of_ble_eq_true rfl) dL_loads_46 ⟨by show _ ≤ 120; omega, by show _ ≤ 132000; omega⟩ (fun d3 H locs hd3 ld3 hP hD hS => ?_)
  refine lv_iadd hx hb dL_loads_49 ?_
  rw [show ((nI d1) + (nI d3) : Int32) = nI (d1 + d3) from nI_add d1 d3]
  refine jd_app (k := k + 3) (b9 := 9) (c9 := 3) (t := tx4) (s9 := decL (d1 + d3)) (n1 := tx4.length + (decL (d1 + d3)).length) (As := [.int (nI (d1 + d3))]) (rest := []) ⟨hx, hb, hml, hown, hts⟩ (cJ4_append_bf812M l D cy za zv Y H.size lbn bv bm ba tx4.length bz (d1 + d3) (by omega) (by omega) hB.2.1 hB.1 hB.2.2.1) (cwV 1 hts gL_loads_J4_append_bf812 rfl rfl rfl hdJ4_append_bf812 ⟨Nat.le_of_ble_eq_true rfl, Nat.le_of_ble_eq_true rfl⟩) hY hZ hK hB hL (decL_le _) List.length_append.symm (decL_lt (by omega)) (fun _ h => h) hP hD hS hA rfl hl.1 rfl (Nat.le_of_ble_eq_true rfl) dL_loads_50 ⟨by show _ ≤ 120; omega, by show _ ≤ 132000; omega⟩ (fun tx5 bv bm ba H locs ex5 hB hL hP hD hS => ?_)
  replace hL : (tx5).length ≤ 12 := hL
  refine k_ldcS (tx := " half ") (q := za 28) hx hb hown (k_site hZ 28 (by decide)) dL_loads_53 ?_
  refine jd_app (k := k + 3) (b9 := 12) (c9 := 6) (t := tx5) (s9 := zL 28) (n1 := tx5.length + (zL 28).length) (As := [.ref (za 28)]) (rest := []) ⟨hx, hb, hml, hown, hts⟩ (cJ4_append_15ec4M l D cy za zv Y H.size lbn bv bm ba tx5.length bz 28 (by decide) (by rw [show (zB 28).length = 6 by decide +kernel]; omega) hB.2.1 hB.1 hB.2.2.1) (cwV 1 hts gL_loads_J4_append_15ec4 rfl rfl rfl hdJ4_append_15ec4 ⟨Nat.le_of_ble_eq_true rfl, Nat.le_of_ble_eq_true rfl⟩) hY hZ hK hB hL (by decide +kernel) List.length_append.symm (zL_lt 28 (by decide)) (fun _ h => h) hP hD hS hA rfl hl.1 rfl (Nat.le_of_ble_eq_true rfl) dL_loads_55 ⟨by show _ ≤ 120; omega, by show _ ≤ 132000; omega⟩ (fun tx6 bv bm ba H locs ex6 hB hL hP hD hS => ?_)
  sorry
end JE
