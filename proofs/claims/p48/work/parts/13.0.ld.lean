/-! the law's loads: the text, its laying, its loading -/
theorem hdJ4_append_15ec4 : yJ4_append_15ec4.cls = RJ4 ∧ yJ4_append_15ec4.cls ≠ "java/lang/invoke/MethodHandle" ∧ yJ4_append_15ec4.cls ≠ "java/lang/invoke/VarHandle" ∧ (parseMethodDescriptor yJ4_append_15ec4.desc).map (fun d => d.parameters.length) = some 1 := by decide +kernel
theorem hdJ4_append_bf812 : yJ4_append_bf812.cls = RJ4 ∧ yJ4_append_bf812.cls ≠ "java/lang/invoke/MethodHandle" ∧ yJ4_append_bf812.cls ≠ "java/lang/invoke/VarHandle" ∧ (parseMethodDescriptor yJ4_append_bf812.desc).map (fun d => d.parameters.length) = some 1 := by decide +kernel
theorem hdJ4_append_cf468 : yJ4_append_cf468.cls = RJ4 ∧ yJ4_append_cf468.cls ≠ "java/lang/invoke/MethodHandle" ∧ yJ4_append_cf468.cls ≠ "java/lang/invoke/VarHandle" ∧ (parseMethodDescriptor yJ4_append_cf468.desc).map (fun d => d.parameters.length) = some 1 := by decide +kernel
theorem hdJ4_setLength_d00df : yJ4_setLength_d00df.cls = RJ4 ∧ yJ4_setLength_d00df.cls ≠ "java/lang/invoke/MethodHandle" ∧ yJ4_setLength_d00df.cls ≠ "java/lang/invoke/VarHandle" ∧ (parseMethodDescriptor yJ4_setLength_d00df.desc).map (fun d => d.parameters.length) = some 1 := by decide +kernel
theorem hdJ4_toString_0e30d : yJ4_toString_0e30d.cls = RJ4 ∧ yJ4_toString_0e30d.cls ≠ "java/lang/invoke/MethodHandle" ∧ yJ4_toString_0e30d.cls ≠ "java/lang/invoke/VarHandle" ∧ (parseMethodDescriptor yJ4_toString_0e30d.desc).map (fun d => d.parameters.length) = some 0 := by decide +kernel
theorem hdL_lays : yL_lays.cls = RL ∧ yL_lays.cls ≠ "java/lang/invoke/MethodHandle" ∧ yL_lays.cls ≠ "java/lang/invoke/VarHandle" ∧ (parseMethodDescriptor yL_lays.desc).map (fun d => d.parameters.length) = some 1 := by decide +kernel
theorem hdX9_load : yX9_load.cls = RX9 ∧ yX9_load.cls ≠ "java/lang/invoke/MethodHandle" ∧ yX9_load.cls ≠ "java/lang/invoke/VarHandle" ∧ (parseMethodDescriptor yX9_load.desc).map (fun d => d.parameters.length) = some 0 := by decide +kernel
set_option maxRecDepth 100000 in
theorem inL_loads_L : ∀ w ∈ u_ws RL TL 4, w ∈ wsL_loads := k_lays 529 rfl
theorem lkL_loads_19 : Cond.fieldLink RL 19 "FerryRampLaw" "text" "Ljava/lang/StringBuilder;" ∈ wsL_loads := List.mem_of_getElem? (i := 1) rfl
theorem lkL_loads_10 : Cond.fieldLink RL 10 "FerryRampLaw" "x" "LFerryRamp;" ∈ wsL_loads := List.mem_of_getElem? (i := 2) rfl
abbrev rmL_loads : Room := { frames := 14, cells := 120, slots := 132000, locals := 520 }
section JDG
variable {p : Program} {l : Launch} {e : Env} {R : Room} {s : State} {m : MethodId} {args : Array Value} {below : List Frame} {meth : Method} {c : Code} {H : Heap} {locs : List Loc} {cells slots : Nat} {Q : State → Prop}
variable {Ts wy : List Cond} {cc bytes : ByteArray} {nL maxL index n pc : Nat} {own : String} {y : MethodName} {ret : Option FieldType} {rm : Room} {As rest st : List Value} {ls : Array Slot}
variable {D : va_G} {cy : Nat → ClassId} {A : Nat → Prop} {za zv : Nat → Nat} {Y : YB} {hLn lbn : Nat} {ad hh : Nat → Nat} {aa : Nat → Nat → Nat} {pa : Nat → Nat} {u : FS} {bv bm : Nat} {ba : Nat → Int32} {bz : Int32}
theorem jd_dg {k n9 : Nat} (hN : Y.2.2.1 < 2147483648) (hk : k < 2147483647) (hn0 : 0 < n9) (hn2 : n9 < 2147483648) (CF : CallFix p m c cc nL s args Ts own)
    (cw : CallW R s args own RL index yL_draw bytes maxL ret wsL_draw rmL_draw 0 0 1) (hY : mY Y A s s.heap) (hZ : mZ za zv A s s.heap) (hK : mK D cy s) {nb : Nat}
    (hP : va_P D kCl (w3 cy hLn lbn ad hh aa pa Y k u bv bm ba nb bz) H) (hD : va_D A (w3 cy hLn lbn ad hh aa pa Y k u bv bm ba nb bz)) (hS : va_S A s.heap H locs) (hA : ∀ q, s.heap.size ≤ q → A q)
    (hl : ls.size = nL) (hst : st = .int (nI n9) :: .ref hLn :: rest) (hw : (rest.map fun v => v.category).sum ≤ 8) (hdg : decode cc pc = .ok (.invokevirtual index, 3)) (hf : cells ≤ R.cells ∧ slots ≤ R.slots)
    (kk : ∀ (d9 : Nat) (H1 : Heap) (locs1 : List Loc), d9 = drN Y k n9 → d9 < n9 → va_P D kCl (w3 cy hLn lbn ad hh aa pa Y (k + 1) u bv bm ba nb bz) H1 → va_D A (w3 cy hLn lbn ad hh aa pa Y (k + 1) u bv bm ba nb bz) → va_S A s.heap H1 locs1 → W p l e R s m args below meth c H1 locs1 cells slots Q (F0 m (pc + 3) ls (.int (nI d9) :: rest))) :
    W p l e R s m args below meth c H locs cells slots Q (F0 m pc ls st) :=
  jd_dr hN hk hn0 hn2 CF cw hY hZ hK hP hD hS hA hl hst hw hdg hf (fun H1 locs1 h1 h2 h3 h4 => kk _ H1 locs1 rfl h1 h2 h3 h4)
end JDG
theorem jd_nle {a b : Nat} (h : a < b) (hb : b < 2147483648) : ¬ nI b ≤ nI a := by
  rw [qa_le, qa_nI hb, qa_nI (by omega)]
  omega
section JE
variable {p : Program} {l : Launch} {e : Env} {s : State} {m : MethodId} {args : Array Value} {below : List Frame} {meth : Method} {c : Code} {Q : State → Prop}
variable {D : va_G} {cy : Nat → ClassId} {A : Nat → Prop} {za zv : Nat → Nat} {Y : YB} {hLn lbn : Nat} {ad hh : Nat → Nat} {aa : Nat → Nat → Nat} {pa : Nat → Nat} {u : FS}
theorem jd_set {R : Room} {k index nL : Nat} {Ts : List Cond} {cc bytes : ByteArray} {maxL : Nat} {own : String} {ret : Option FieldType} {H : Heap} {locs : List Loc} {cells slots pc : Nat} {ls : Array Slot} {rest st : List Value} {bv bm : Nat} {ba : Nat → Int32} {nb : Nat} {bz : Int32} (CF : CallFix p m c cc nL s args Ts own)
    (cw : CallW R s args own RJ4 index yJ4_setLength_d00df bytes maxL ret wsJ4_setLength_d00df rmJ4_setLength_d00df 1 1100 1) (hY : mY Y A s s.heap) (hZ : mZ za zv A s s.heap) (hK : mK D cy s) (hb1 : bm ≤ 1100) (hb2 : nb ≤ bm) (hb3 : sb_Fit ba)
    (hP : va_P D kCl (w3 cy hLn lbn ad hh aa pa Y k u bv bm ba nb bz) H) (hD : va_D A (w3 cy hLn lbn ad hh aa pa Y k u bv bm ba nb bz)) (hS : va_S A s.heap H locs) (hA : ∀ q, s.heap.size ≤ q → A q)
    (hl : ls.size = nL) (hst : st = .int (nI 0) :: .ref lbn :: rest) (hw : (rest.map fun v => v.category).sum ≤ 8) (hdg : decode cc pc = .ok (.invokevirtual index, 3)) (hf : cells + 1 ≤ R.cells ∧ slots + 1100 ≤ R.slots)
    (kk : ∀ (bv bm : Nat) (ba : Nat → Int32) (bz : Int32) (H1 : Heap) (locs1 : List Loc), tB [] bm ba → va_P D kCl (w3 cy hLn lbn ad hh aa pa Y k u bv bm ba ([] : List Nat).length bz) H1 → va_D A (w3 cy hLn lbn ad hh aa pa Y k u bv bm ba ([] : List Nat).length bz) → va_S A s.heap H1 locs1 → W p l e R s m args below meth c H1 locs1 (cells + 1) (slots + 1100) Q (F0 m (pc + 3) ls rest)) :
    W p l e R s m args below meth c H locs cells slots Q (F0 m pc ls st) := by
  have hp := k_sel1 (l := [lwW hLn (ad 0) Y.2.1 lbn (nI k), wF cy ad hh aa pa u, wSB cy lbn bv bm ba nb bz]) (n := 3) 2 [0, 1] rfl rfl (by decide)
  have hP' := kP_app.mp (kP_perm hp hP)
  have hD' := kD_app (kD_perm hp hD)
  refine jr_v (As := [.ref lbn, .int (nI 0)]) (mk := fun q : Nat × Nat × (Nat → Int32) × Int32 => wSB cy lbn q.1 q.2.1 q.2.2.1 0 q.2.2.2) (va_runV (b := lbn) (As := [.int (nI 0)]) CF (cJ4_setLength_d00dfM l D cy za zv Y H.size lbn bv bm ba nb bz hb1 hb2 hb3) cw (k_preVY hY hZ hS (k_free hp hD hS hA) hK hP'.1 hD'.1 (q0 := 0) (ci := 5) rfl rfl) rfl rfl hl hst (lv_room hw) hdg hf) hp hP hD hS hA (fun q H1 locs1 hq hP1 hD1 hS1 => ?_)
  have hp2 := (k_sel1 (l := [lwW hLn (ad 0) Y.2.1 lbn (nI k), wF cy ad hh aa pa u, wSB cy lbn q.1 q.2.1 q.2.2.1 0 q.2.2.2]) (n := 3) 2 [0, 1] rfl rfl (by decide)).symm
  exact kk _ _ _ _ H1 locs1 (tB.nil hq.1 hq.2) (kP_perm hp2 hP1) (kD_perm hp2 hD1) hS1
def ldN (Y : YB) (k : Nat) : Nat := 3 + (drN Y (k + 1) 6)
def ldA (Y : YB) (k : Nat) : List Nat := [] ++ zL 27 ++ decL (drN Y k 10) ++ [32] ++ decL ((drN Y k 10) + (drN Y (k + 2) 30)) ++ zL 28 ++ decL (2 + (drN Y (k + 3) 12)) ++ zL 29 ++ decL (drN Y (k + 4) 8) ++ zL 30 ++ decL (5 + (drN Y (k + 5) 40)) ++ zL 31 ++ decL (3 + (drN Y (k + 6) 6)) ++ zL 32 ++ decL (150 + (drN Y (k + 7) 500)) ++ zL 33 ++ decL (40 + (drN Y (k + 8) 160)) ++ zL 34 ++ decL (1 + (drN Y (k + 9) 3)) ++ [32] ++ decL (drN Y (k + 10) 5) ++ [32] ++ decL (drN Y (k + 11) 3) ++ zL 35 ++ decL (1 + (drN Y (k + 12) 3)) ++ zL 36 ++ decL (1 + (drN Y (k + 13) 4)) ++ [59]
set_option maxHeartbeats 4000000 in
set_option maxRecDepth 100000 in
theorem tLd_a (hN : Y.2.2.1 < 2147483648) (E : mE D cy RL cL_loads 4 (some .boolean) wsL_loads A p s m args meth c) (hZ : mZ za zv A s s.heap) (hY : mY Y A s s.heap) {k cells slots bv bm nb : Nat} {ba : Nat → Int32} {bz : Int32} {H : Heap} {locs : List Loc} {ls : Array Slot} (hk : k < 1000000) (hb1 : bm ≤ 1100) (hb2 : nb ≤ bm) (hb3 : sb_Fit ba) (hc : cells + 28 ≤ 120) (hs : slots + 30800 ≤ 132000) (hl : lv_has ls 4 [(0, .ref hLn)])
    (hP : va_P D kCl (w3 cy hLn lbn ad hh aa pa Y k u bv bm ba nb bz) H) (hD : va_D A (w3 cy hLn lbn ad hh aa pa Y k u bv bm ba nb bz)) (hS : va_S A s.heap H locs)
    (kk : ∀ (bv bm : Nat) (ba : Nat → Int32) (bz : Int32) (H : Heap) (locs : List Loc) (ls : Array Slot), ldN Y k ≤ 8 → lv_has ls 4 [(3, .int (nI 0)), (2, .int (nI (ldN Y k))), (0, .ref hLn)] → tB (ldA Y k) bm ba → (ldA Y k).length ≤ 109 → va_P D kCl (w3 cy hLn lbn ad hh aa pa Y (k + 14) u bv bm ba (ldA Y k).length bz) H → va_D A (w3 cy hLn lbn ad hh aa pa Y (k + 14) u bv bm ba (ldA Y k).length bz) → va_S A s.heap H locs → W p l e rmL_loads s m args below meth c H locs (cells + 28) (slots + 30800) Q (F0 m 231 ls [])) :
    W p l e rmL_loads s m args below meth c H locs cells slots Q (F0 m 0 ls []) := by
  obtain ⟨hx, hb, hr, hml, hown, hts, hlocks, hK, hA⟩ := id E
  refine lv_aload_n hx hb dL_loads_0 rfl (lv_at hl 0 rfl) ?_
  refine lv_bipush (v := 10) hx hb dL_loads_1 rfl ?_
  refine jd_dg (k := k) (n9 := 10) (rest := []) hN (by omega) (by decide) (by decide) ⟨hx, hb, hml, hown, hts⟩ (cwV 1 hts gL_loads_L_draw rfl rfl rfl hdL_draw ⟨Nat.le_of_ble_eq_true rfl, Nat.le_of_ble_eq_true rfl⟩) hY hZ hK hP hD hS hA hl.1 rfl (Nat.le_of_ble_eq_true rfl) dL_loads_3 ⟨by show _ ≤ 120; omega, by show _ ≤ 132000; omega⟩ (fun d1 H locs hd1 ld1 hP hD hS => ?_)
  refine lv_istore_n (lv' := [(1, .int (nI d1)), (0, .ref hLn)]) hx hb dL_loads_6 rfl hl (by decide) rfl (fun ls hl => ?_)
  refine lv_iconst (v := 3) hx hb dL_loads_7 rfl ?_
  refine lv_aload_n hx hb dL_loads_8 rfl (lv_at hl 1 rfl) ?_
  refine lv_bipush (v := 6) hx hb dL_loads_9 rfl ?_
  refine jd_dg (k := k + 1) (n9 := 6) (rest := [.int 3]) hN (by omega) (by decide) (by decide) ⟨hx, hb, hml, hown, hts⟩ (cwV 1 hts gL_loads_L_draw rfl rfl rfl hdL_draw ⟨Nat.le_of_ble_eq_true rfl, Nat.le_of_ble_eq_true rfl⟩) hY hZ hK hP hD hS hA hl.1 rfl (Nat.le_of_ble_eq_true rfl) dL_loads_11 ⟨by show _ ≤ 120; omega, by show _ ≤ 132000; omega⟩ (fun d2 H locs hd2 ld2 hP hD hS => ?_)
  refine lv_iadd hx hb dL_loads_14 ?_
  rw [show (3 + (nI d2) : Int32) = nI (3 + d2) from nI_add 3 d2]
  refine lv_istore_n (lv' := [(2, .int (nI (3 + d2))), (1, .int (nI d1)), (0, .ref hLn)]) hx hb dL_loads_15 rfl hl (by decide) rfl (fun ls hl => ?_)
  refine lv_aload_n hx hb dL_loads_16 rfl (lv_at hl 2 rfl) ?_
  refine k_get (v := .ref lbn) (C := RL) (T := TL) (N := 4) hx hb hts inL_loads_L hown hK hP 0 rfl rfl 3 (by decide) lkL_loads_19 rfl dL_loads_17 ?_
  refine lv_iconst (v := 0) hx hb dL_loads_20 rfl ?_
  refine jd_set (k := k + 2) ⟨hx, hb, hml, hown, hts⟩ (cwV 1 hts gL_loads_J4_setLength_d00df rfl rfl rfl hdJ4_setLength_d00df ⟨Nat.le_of_ble_eq_true rfl, Nat.le_of_ble_eq_true rfl⟩) hY hZ hK hb1 hb2 hb3 hP hD hS hA hl.1 rfl (Nat.le_of_ble_eq_true rfl) dL_loads_21 ⟨by show _ ≤ 120; omega, by show _ ≤ 132000; omega⟩ (fun bv bm ba bz H locs hB hP hD hS => ?_)
  have hL : ([] : List Nat).length ≤ 0 := Nat.le_refl 0
  refine lv_aload_n hx hb dL_loads_24 rfl (lv_at hl 2 rfl) ?_
  refine k_get (v := .ref lbn) (C := RL) (T := TL) (N := 4) hx hb hts inL_loads_L hown hK hP 0 rfl rfl 3 (by decide) lkL_loads_19 rfl dL_loads_25 ?_
  refine k_ldcS (tx := "tide ") (q := za 27) hx hb hown (k_site hZ 27 (by decide)) dL_loads_28 ?_
  refine jd_app (k := k + 2) (b9 := 0) (c9 := 5) (t := []) (s9 := zL 27) (n1 := [].length + (zL 27).length) (As := [.ref (za 27)]) (rest := []) ⟨hx, hb, hml, hown, hts⟩ (cJ4_append_15ec4M l D cy za zv Y H.size lbn bv bm ba [].length bz 27 (by decide) (by rw [show (zB 27).length = 5 by decide +kernel]; omega) hB.2.1 hB.1 hB.2.2.1) (cwV 1 hts gL_loads_J4_append_15ec4 rfl rfl rfl hdJ4_append_15ec4 ⟨Nat.le_of_ble_eq_true rfl, Nat.le_of_ble_eq_true rfl⟩) hY hZ hK hB hL (by decide +kernel) List.length_append.symm (zL_lt 27 (by decide)) (fun _ h => h) hP hD hS hA rfl hl.1 rfl (Nat.le_of_ble_eq_true rfl) dL_loads_30 ⟨by show _ ≤ 120; omega, by show _ ≤ 132000; omega⟩ (fun tx2 bv bm ba H locs ex2 hB hL hP hD hS => ?_)
  replace hL : (tx2).length ≤ 5 := hL
  refine lv_iload_n hx hb dL_loads_33 rfl (lv_at hl 1 rfl) ?_
  refine jd_app (k := k + 2) (b9 := 5) (c9 := 3) (t := tx2) (s9 := decL d1) (n1 := tx2.length + (decL d1).length) (As := [.int (nI d1)]) (rest := []) ⟨hx, hb, hml, hown, hts⟩ (cJ4_append_bf812M l D cy za zv Y H.size lbn bv bm ba tx2.length bz d1 (by omega) (by omega) hB.2.1 hB.1 hB.2.2.1) (cwV 1 hts gL_loads_J4_append_bf812 rfl rfl rfl hdJ4_append_bf812 ⟨Nat.le_of_ble_eq_true rfl, Nat.le_of_ble_eq_true rfl⟩) hY hZ hK hB hL (decL_le _) List.length_append.symm (decL_lt (by omega)) (fun _ h => h) hP hD hS hA rfl hl.1 rfl (Nat.le_of_ble_eq_true rfl) dL_loads_34 ⟨by show _ ≤ 120; omega, by show _ ≤ 132000; omega⟩ (fun tx3 bv bm ba H locs ex3 hB hL hP hD hS => ?_)
  replace hL : (tx3).length ≤ 8 := hL
  refine lv_bipush (v := 32) hx hb dL_loads_37 rfl ?_
  refine jd_app (k := k + 2) (b9 := 8) (c9 := 1) (t := tx3) (s9 := [32]) (n1 := tx3.length + 1) (As := [.int 32]) (rest := []) ⟨hx, hb, hml, hown, hts⟩ (cJ4_append_cf468M l D cy za zv Y H.size lbn bv bm ba tx3.length bz 32 (by decide) (by omega) hB.2.1 hB.1 hB.2.2.1) (cwV 1 hts gL_loads_J4_append_cf468 rfl rfl rfl hdJ4_append_cf468 ⟨Nat.le_of_ble_eq_true rfl, Nat.le_of_ble_eq_true rfl⟩) hY hZ hK hB hL (Nat.le_refl 1) (by simp) (chr_lt (by decide)) (fun _ h => jApp_chr h) hP hD hS hA rfl hl.1 rfl (Nat.le_of_ble_eq_true rfl) dL_loads_39 ⟨by show _ ≤ 120; omega, by show _ ≤ 132000; omega⟩ (fun tx4 bv bm ba H locs ex4 hB hL hP hD hS => ?_)
  replace hL : (tx4).length ≤ 9 := hL
  refine lv_iload_n hx hb dL_loads_42 rfl (lv_at hl 1 rfl) ?_
  refine lv_aload_n hx hb dL_loads_43 rfl (lv_at hl 2 rfl) ?_
  refine lv_bipush (v := 30) hx hb dL_loads_44 rfl ?_
  refine jd_dg (k := k + 2) (n9 := 30) (rest := [.int (nI d1), .ref lbn]) hN (by omega) (by decide) (by decide) ⟨hx, hb, hml, hown, hts⟩ (cwV 1 hts gL_loads_L_draw rfl rfl rfl hdL_draw ⟨Nat.le_of_ble_eq_true rfl, Nat.le_of_ble_eq_true rfl⟩) hY hZ hK hP hD hS hA hl.1 rfl (Nat.le_of_ble_eq_true rfl) dL_loads_46 ⟨by show _ ≤ 120; omega, by show _ ≤ 132000; omega⟩ (fun d3 H locs hd3 ld3 hP hD hS => ?_)
  refine lv_iadd hx hb dL_loads_49 ?_
  rw [show ((nI d1) + (nI d3) : Int32) = nI (d1 + d3) from nI_add d1 d3]
  refine jd_app (k := k + 3) (b9 := 9) (c9 := 3) (t := tx4) (s9 := decL (d1 + d3)) (n1 := tx4.length + (decL (d1 + d3)).length) (As := [.int (nI (d1 + d3))]) (rest := []) ⟨hx, hb, hml, hown, hts⟩ (cJ4_append_bf812M l D cy za zv Y H.size lbn bv bm ba tx4.length bz (d1 + d3) (by omega) (by omega) hB.2.1 hB.1 hB.2.2.1) (cwV 1 hts gL_loads_J4_append_bf812 rfl rfl rfl hdJ4_append_bf812 ⟨Nat.le_of_ble_eq_true rfl, Nat.le_of_ble_eq_true rfl⟩) hY hZ hK hB hL (decL_le _) List.length_append.symm (decL_lt (by omega)) (fun _ h => h) hP hD hS hA rfl hl.1 rfl (Nat.le_of_ble_eq_true rfl) dL_loads_50 ⟨by show _ ≤ 120; omega, by show _ ≤ 132000; omega⟩ (fun tx5 bv bm ba H locs ex5 hB hL hP hD hS => ?_)
  replace hL : (tx5).length ≤ 12 := hL
  refine k_ldcS (tx := " half ") (q := za 28) hx hb hown (k_site hZ 28 (by decide)) dL_loads_53 ?_
  refine jd_app (k := k + 3) (b9 := 12) (c9 := 6) (t := tx5) (s9 := zL 28) (n1 := tx5.length + (zL 28).length) (As := [.ref (za 28)]) (rest := []) ⟨hx, hb, hml, hown, hts⟩ (cJ4_append_15ec4M l D cy za zv Y H.size lbn bv bm ba tx5.length bz 28 (by decide) (by rw [show (zB 28).length = 6 by decide +kernel]; omega) hB.2.1 hB.1 hB.2.2.1) (cwV 1 hts gL_loads_J4_append_15ec4 rfl rfl rfl hdJ4_append_15ec4 ⟨Nat.le_of_ble_eq_true rfl, Nat.le_of_ble_eq_true rfl⟩) hY hZ hK hB hL (by decide +kernel) List.length_append.symm (zL_lt 28 (by decide)) (fun _ h => h) hP hD hS hA rfl hl.1 rfl (Nat.le_of_ble_eq_true rfl) dL_loads_55 ⟨by show _ ≤ 120; omega, by show _ ≤ 132000; omega⟩ (fun tx6 bv bm ba H locs ex6 hB hL hP hD hS => ?_)
  replace hL : (tx6).length ≤ 18 := hL
  refine lv_iconst (v := 2) hx hb dL_loads_58 rfl ?_
  refine lv_aload_n hx hb dL_loads_59 rfl (lv_at hl 2 rfl) ?_
  refine lv_bipush (v := 12) hx hb dL_loads_60 rfl ?_
  refine jd_dg (k := k + 3) (n9 := 12) (rest := [.int 2, .ref lbn]) hN (by omega) (by decide) (by decide) ⟨hx, hb, hml, hown, hts⟩ (cwV 1 hts gL_loads_L_draw rfl rfl rfl hdL_draw ⟨Nat.le_of_ble_eq_true rfl, Nat.le_of_ble_eq_true rfl⟩) hY hZ hK hP hD hS hA hl.1 rfl (Nat.le_of_ble_eq_true rfl) dL_loads_62 ⟨by show _ ≤ 120; omega, by show _ ≤ 132000; omega⟩ (fun d4 H locs hd4 ld4 hP hD hS => ?_)
  refine lv_iadd hx hb dL_loads_65 ?_
  rw [show (2 + (nI d4) : Int32) = nI (2 + d4) from nI_add 2 d4]
  refine jd_app (k := k + 4) (b9 := 18) (c9 := 3) (t := tx6) (s9 := decL (2 + d4)) (n1 := tx6.length + (decL (2 + d4)).length) (As := [.int (nI (2 + d4))]) (rest := []) ⟨hx, hb, hml, hown, hts⟩ (cJ4_append_bf812M l D cy za zv Y H.size lbn bv bm ba tx6.length bz (2 + d4) (by omega) (by omega) hB.2.1 hB.1 hB.2.2.1) (cwV 1 hts gL_loads_J4_append_bf812 rfl rfl rfl hdJ4_append_bf812 ⟨Nat.le_of_ble_eq_true rfl, Nat.le_of_ble_eq_true rfl⟩) hY hZ hK hB hL (decL_le _) List.length_append.symm (decL_lt (by omega)) (fun _ h => h) hP hD hS hA rfl hl.1 rfl (Nat.le_of_ble_eq_true rfl) dL_loads_66 ⟨by show _ ≤ 120; omega, by show _ ≤ 132000; omega⟩ (fun tx7 bv bm ba H locs ex7 hB hL hP hD hS => ?_)
  replace hL : (tx7).length ≤ 21 := hL
  refine k_ldcS (tx := ";deck ") (q := za 29) hx hb hown (k_site hZ 29 (by decide)) dL_loads_69 ?_
  refine jd_app (k := k + 4) (b9 := 21) (c9 := 6) (t := tx7) (s9 := zL 29) (n1 := tx7.length + (zL 29).length) (As := [.ref (za 29)]) (rest := []) ⟨hx, hb, hml, hown, hts⟩ (cJ4_append_15ec4M l D cy za zv Y H.size lbn bv bm ba tx7.length bz 29 (by decide) (by rw [show (zB 29).length = 6 by decide +kernel]; omega) hB.2.1 hB.1 hB.2.2.1) (cwV 1 hts gL_loads_J4_append_15ec4 rfl rfl rfl hdJ4_append_15ec4 ⟨Nat.le_of_ble_eq_true rfl, Nat.le_of_ble_eq_true rfl⟩) hY hZ hK hB hL (by decide +kernel) List.length_append.symm (zL_lt 29 (by decide)) (fun _ h => h) hP hD hS hA rfl hl.1 rfl (Nat.le_of_ble_eq_true rfl) dL_loads_71 ⟨by show _ ≤ 120; omega, by show _ ≤ 132000; omega⟩ (fun tx8 bv bm ba H locs ex8 hB hL hP hD hS => ?_)
  replace hL : (tx8).length ≤ 27 := hL
  refine lv_aload_n hx hb dL_loads_74 rfl (lv_at hl 2 rfl) ?_
  refine lv_bipush (v := 8) hx hb dL_loads_75 rfl ?_
  refine jd_dg (k := k + 4) (n9 := 8) (rest := [.ref lbn]) hN (by omega) (by decide) (by decide) ⟨hx, hb, hml, hown, hts⟩ (cwV 1 hts gL_loads_L_draw rfl rfl rfl hdL_draw ⟨Nat.le_of_ble_eq_true rfl, Nat.le_of_ble_eq_true rfl⟩) hY hZ hK hP hD hS hA hl.1 rfl (Nat.le_of_ble_eq_true rfl) dL_loads_77 ⟨by show _ ≤ 120; omega, by show _ ≤ 132000; omega⟩ (fun d5 H locs hd5 ld5 hP hD hS => ?_)
  refine jd_app (k := k + 5) (b9 := 27) (c9 := 3) (t := tx8) (s9 := decL d5) (n1 := tx8.length + (decL d5).length) (As := [.int (nI d5)]) (rest := []) ⟨hx, hb, hml, hown, hts⟩ (cJ4_append_bf812M l D cy za zv Y H.size lbn bv bm ba tx8.length bz d5 (by omega) (by omega) hB.2.1 hB.1 hB.2.2.1) (cwV 1 hts gL_loads_J4_append_bf812 rfl rfl rfl hdJ4_append_bf812 ⟨Nat.le_of_ble_eq_true rfl, Nat.le_of_ble_eq_true rfl⟩) hY hZ hK hB hL (decL_le _) List.length_append.symm (decL_lt (by omega)) (fun _ h => h) hP hD hS hA rfl hl.1 rfl (Nat.le_of_ble_eq_true rfl) dL_loads_80 ⟨by show _ ≤ 120; omega, by show _ ≤ 132000; omega⟩ (fun tx9 bv bm ba H locs ex9 hB hL hP hD hS => ?_)
  replace hL : (tx9).length ≤ 30 := hL
  refine k_ldcS (tx := " sink ") (q := za 30) hx hb hown (k_site hZ 30 (by decide)) dL_loads_83 ?_
  refine jd_app (k := k + 5) (b9 := 30) (c9 := 6) (t := tx9) (s9 := zL 30) (n1 := tx9.length + (zL 30).length) (As := [.ref (za 30)]) (rest := []) ⟨hx, hb, hml, hown, hts⟩ (cJ4_append_15ec4M l D cy za zv Y H.size lbn bv bm ba tx9.length bz 30 (by decide) (by rw [show (zB 30).length = 6 by decide +kernel]; omega) hB.2.1 hB.1 hB.2.2.1) (cwV 1 hts gL_loads_J4_append_15ec4 rfl rfl rfl hdJ4_append_15ec4 ⟨Nat.le_of_ble_eq_true rfl, Nat.le_of_ble_eq_true rfl⟩) hY hZ hK hB hL (by decide +kernel) List.length_append.symm (zL_lt 30 (by decide)) (fun _ h => h) hP hD hS hA rfl hl.1 rfl (Nat.le_of_ble_eq_true rfl) dL_loads_85 ⟨by show _ ≤ 120; omega, by show _ ≤ 132000; omega⟩ (fun tx10 bv bm ba H locs ex10 hB hL hP hD hS => ?_)
  replace hL : (tx10).length ≤ 36 := hL
  refine lv_iconst (v := 5) hx hb dL_loads_88 rfl ?_
  refine lv_aload_n hx hb dL_loads_89 rfl (lv_at hl 2 rfl) ?_
  refine lv_bipush (v := 40) hx hb dL_loads_90 rfl ?_
  refine jd_dg (k := k + 5) (n9 := 40) (rest := [.int 5, .ref lbn]) hN (by omega) (by decide) (by decide) ⟨hx, hb, hml, hown, hts⟩ (cwV 1 hts gL_loads_L_draw rfl rfl rfl hdL_draw ⟨Nat.le_of_ble_eq_true rfl, Nat.le_of_ble_eq_true rfl⟩) hY hZ hK hP hD hS hA hl.1 rfl (Nat.le_of_ble_eq_true rfl) dL_loads_92 ⟨by show _ ≤ 120; omega, by show _ ≤ 132000; omega⟩ (fun d6 H locs hd6 ld6 hP hD hS => ?_)
  refine lv_iadd hx hb dL_loads_95 ?_
  rw [show (5 + (nI d6) : Int32) = nI (5 + d6) from nI_add 5 d6]
  refine jd_app (k := k + 6) (b9 := 36) (c9 := 3) (t := tx10) (s9 := decL (5 + d6)) (n1 := tx10.length + (decL (5 + d6)).length) (As := [.int (nI (5 + d6))]) (rest := []) ⟨hx, hb, hml, hown, hts⟩ (cJ4_append_bf812M l D cy za zv Y H.size lbn bv bm ba tx10.length bz (5 + d6) (by omega) (by omega) hB.2.1 hB.1 hB.2.2.1) (cwV 1 hts gL_loads_J4_append_bf812 rfl rfl rfl hdJ4_append_bf812 ⟨Nat.le_of_ble_eq_true rfl, Nat.le_of_ble_eq_true rfl⟩) hY hZ hK hB hL (decL_le _) List.length_append.symm (decL_lt (by omega)) (fun _ h => h) hP hD hS hA rfl hl.1 rfl (Nat.le_of_ble_eq_true rfl) dL_loads_96 ⟨by show _ ≤ 120; omega, by show _ ≤ 132000; omega⟩ (fun tx11 bv bm ba H locs ex11 hB hL hP hD hS => ?_)
  replace hL : (tx11).length ≤ 39 := hL
  refine k_ldcS (tx := ";lanes ") (q := za 31) hx hb hown (k_site hZ 31 (by decide)) dL_loads_99 ?_
  refine jd_app (k := k + 6) (b9 := 39) (c9 := 7) (t := tx11) (s9 := zL 31) (n1 := tx11.length + (zL 31).length) (As := [.ref (za 31)]) (rest := []) ⟨hx, hb, hml, hown, hts⟩ (cJ4_append_15ec4M l D cy za zv Y H.size lbn bv bm ba tx11.length bz 31 (by decide) (by rw [show (zB 31).length = 7 by decide +kernel]; omega) hB.2.1 hB.1 hB.2.2.1) (cwV 1 hts gL_loads_J4_append_15ec4 rfl rfl rfl hdJ4_append_15ec4 ⟨Nat.le_of_ble_eq_true rfl, Nat.le_of_ble_eq_true rfl⟩) hY hZ hK hB hL (by decide +kernel) List.length_append.symm (zL_lt 31 (by decide)) (fun _ h => h) hP hD hS hA rfl hl.1 rfl (Nat.le_of_ble_eq_true rfl) dL_loads_101 ⟨by show _ ≤ 120; omega, by show _ ≤ 132000; omega⟩ (fun tx12 bv bm ba H locs ex12 hB hL hP hD hS => ?_)
  replace hL : (tx12).length ≤ 46 := hL
  refine lv_iconst (v := 3) hx hb dL_loads_104 rfl ?_
  refine lv_aload_n hx hb dL_loads_105 rfl (lv_at hl 2 rfl) ?_
  refine lv_bipush (v := 6) hx hb dL_loads_106 rfl ?_
  refine jd_dg (k := k + 6) (n9 := 6) (rest := [.int 3, .ref lbn]) hN (by omega) (by decide) (by decide) ⟨hx, hb, hml, hown, hts⟩ (cwV 1 hts gL_loads_L_draw rfl rfl rfl hdL_draw ⟨Nat.le_of_ble_eq_true rfl, Nat.le_of_ble_eq_true rfl⟩) hY hZ hK hP hD hS hA hl.1 rfl (Nat.le_of_ble_eq_true rfl) dL_loads_108 ⟨by show _ ≤ 120; omega, by show _ ≤ 132000; omega⟩ (fun d7 H locs hd7 ld7 hP hD hS => ?_)
  refine lv_iadd hx hb dL_loads_111 ?_
  rw [show (3 + (nI d7) : Int32) = nI (3 + d7) from nI_add 3 d7]
  refine jd_app (k := k + 7) (b9 := 46) (c9 := 3) (t := tx12) (s9 := decL (3 + d7)) (n1 := tx12.length + (decL (3 + d7)).length) (As := [.int (nI (3 + d7))]) (rest := []) ⟨hx, hb, hml, hown, hts⟩ (cJ4_append_bf812M l D cy za zv Y H.size lbn bv bm ba tx12.length bz (3 + d7) (by omega) (by omega) hB.2.1 hB.1 hB.2.2.1) (cwV 1 hts gL_loads_J4_append_bf812 rfl rfl rfl hdJ4_append_bf812 ⟨Nat.le_of_ble_eq_true rfl, Nat.le_of_ble_eq_true rfl⟩) hY hZ hK hB hL (decL_le _) List.length_append.symm (decL_lt (by omega)) (fun _ h => h) hP hD hS hA rfl hl.1 rfl (Nat.le_of_ble_eq_true rfl) dL_loads_112 ⟨by show _ ≤ 120; omega, by show _ ≤ 132000; omega⟩ (fun tx13 bv bm ba H locs ex13 hB hL hP hD hS => ?_)
  replace hL : (tx13).length ≤ 49 := hL
  refine k_ldcS (tx := " load ") (q := za 32) hx hb hown (k_site hZ 32 (by decide)) dL_loads_115 ?_
  refine jd_app (k := k + 7) (b9 := 49) (c9 := 6) (t := tx13) (s9 := zL 32) (n1 := tx13.length + (zL 32).length) (As := [.ref (za 32)]) (rest := []) ⟨hx, hb, hml, hown, hts⟩ (cJ4_append_15ec4M l D cy za zv Y H.size lbn bv bm ba tx13.length bz 32 (by decide) (by rw [show (zB 32).length = 6 by decide +kernel]; omega) hB.2.1 hB.1 hB.2.2.1) (cwV 1 hts gL_loads_J4_append_15ec4 rfl rfl rfl hdJ4_append_15ec4 ⟨Nat.le_of_ble_eq_true rfl, Nat.le_of_ble_eq_true rfl⟩) hY hZ hK hB hL (by decide +kernel) List.length_append.symm (zL_lt 32 (by decide)) (fun _ h => h) hP hD hS hA rfl hl.1 rfl (Nat.le_of_ble_eq_true rfl) dL_loads_117 ⟨by show _ ≤ 120; omega, by show _ ≤ 132000; omega⟩ (fun tx14 bv bm ba H locs ex14 hB hL hP hD hS => ?_)
  replace hL : (tx14).length ≤ 55 := hL
  refine lv_sipush (v := 150) hx hb dL_loads_120 rfl ?_
  refine lv_aload_n hx hb dL_loads_123 rfl (lv_at hl 2 rfl) ?_
  refine lv_sipush (v := 500) hx hb dL_loads_124 rfl ?_
  refine jd_dg (k := k + 7) (n9 := 500) (rest := [.int 150, .ref lbn]) hN (by omega) (by decide) (by decide) ⟨hx, hb, hml, hown, hts⟩ (cwV 1 hts gL_loads_L_draw rfl rfl rfl hdL_draw ⟨Nat.le_of_ble_eq_true rfl, Nat.le_of_ble_eq_true rfl⟩) hY hZ hK hP hD hS hA hl.1 rfl (Nat.le_of_ble_eq_true rfl) dL_loads_127 ⟨by show _ ≤ 120; omega, by show _ ≤ 132000; omega⟩ (fun d8 H locs hd8 ld8 hP hD hS => ?_)
  refine lv_iadd hx hb dL_loads_130 ?_
  rw [show (150 + (nI d8) : Int32) = nI (150 + d8) from nI_add 150 d8]
  refine jd_app (k := k + 8) (b9 := 55) (c9 := 3) (t := tx14) (s9 := decL (150 + d8)) (n1 := tx14.length + (decL (150 + d8)).length) (As := [.int (nI (150 + d8))]) (rest := []) ⟨hx, hb, hml, hown, hts⟩ (cJ4_append_bf812M l D cy za zv Y H.size lbn bv bm ba tx14.length bz (150 + d8) (by omega) (by omega) hB.2.1 hB.1 hB.2.2.1) (cwV 1 hts gL_loads_J4_append_bf812 rfl rfl rfl hdJ4_append_bf812 ⟨Nat.le_of_ble_eq_true rfl, Nat.le_of_ble_eq_true rfl⟩) hY hZ hK hB hL (decL_le _) List.length_append.symm (decL_lt (by omega)) (fun _ h => h) hP hD hS hA rfl hl.1 rfl (Nat.le_of_ble_eq_true rfl) dL_loads_131 ⟨by show _ ≤ 120; omega, by show _ ≤ 132000; omega⟩ (fun tx15 bv bm ba H locs ex15 hB hL hP hD hS => ?_)
  replace hL : (tx15).length ≤ 58 := hL
  refine k_ldcS (tx := " list ") (q := za 33) hx hb hown (k_site hZ 33 (by decide)) dL_loads_134 ?_
  refine jd_app (k := k + 8) (b9 := 58) (c9 := 6) (t := tx15) (s9 := zL 33) (n1 := tx15.length + (zL 33).length) (As := [.ref (za 33)]) (rest := []) ⟨hx, hb, hml, hown, hts⟩ (cJ4_append_15ec4M l D cy za zv Y H.size lbn bv bm ba tx15.length bz 33 (by decide) (by rw [show (zB 33).length = 6 by decide +kernel]; omega) hB.2.1 hB.1 hB.2.2.1) (cwV 1 hts gL_loads_J4_append_15ec4 rfl rfl rfl hdJ4_append_15ec4 ⟨Nat.le_of_ble_eq_true rfl, Nat.le_of_ble_eq_true rfl⟩) hY hZ hK hB hL (by decide +kernel) List.length_append.symm (zL_lt 33 (by decide)) (fun _ h => h) hP hD hS hA rfl hl.1 rfl (Nat.le_of_ble_eq_true rfl) dL_loads_136 ⟨by show _ ≤ 120; omega, by show _ ≤ 132000; omega⟩ (fun tx16 bv bm ba H locs ex16 hB hL hP hD hS => ?_)
  replace hL : (tx16).length ≤ 64 := hL
  refine lv_bipush (v := 40) hx hb dL_loads_139 rfl ?_
  refine lv_aload_n hx hb dL_loads_141 rfl (lv_at hl 2 rfl) ?_
  refine lv_sipush (v := 160) hx hb dL_loads_142 rfl ?_
  refine jd_dg (k := k + 8) (n9 := 160) (rest := [.int 40, .ref lbn]) hN (by omega) (by decide) (by decide) ⟨hx, hb, hml, hown, hts⟩ (cwV 1 hts gL_loads_L_draw rfl rfl rfl hdL_draw ⟨Nat.le_of_ble_eq_true rfl, Nat.le_of_ble_eq_true rfl⟩) hY hZ hK hP hD hS hA hl.1 rfl (Nat.le_of_ble_eq_true rfl) dL_loads_145 ⟨by show _ ≤ 120; omega, by show _ ≤ 132000; omega⟩ (fun d9 H locs hd9 ld9 hP hD hS => ?_)
  refine lv_iadd hx hb dL_loads_148 ?_
  rw [show (40 + (nI d9) : Int32) = nI (40 + d9) from nI_add 40 d9]
  refine jd_app (k := k + 9) (b9 := 64) (c9 := 3) (t := tx16) (s9 := decL (40 + d9)) (n1 := tx16.length + (decL (40 + d9)).length) (As := [.int (nI (40 + d9))]) (rest := []) ⟨hx, hb, hml, hown, hts⟩ (cJ4_append_bf812M l D cy za zv Y H.size lbn bv bm ba tx16.length bz (40 + d9) (by omega) (by omega) hB.2.1 hB.1 hB.2.2.1) (cwV 1 hts gL_loads_J4_append_bf812 rfl rfl rfl hdJ4_append_bf812 ⟨Nat.le_of_ble_eq_true rfl, Nat.le_of_ble_eq_true rfl⟩) hY hZ hK hB hL (decL_le _) List.length_append.symm (decL_lt (by omega)) (fun _ h => h) hP hD hS hA rfl hl.1 rfl (Nat.le_of_ble_eq_true rfl) dL_loads_149 ⟨by show _ ≤ 120; omega, by show _ ≤ 132000; omega⟩ (fun tx17 bv bm ba H locs ex17 hB hL hP hD hS => ?_)
  replace hL : (tx17).length ≤ 67 := hL
  refine k_ldcS (tx := ";winch ") (q := za 34) hx hb hown (k_site hZ 34 (by decide)) dL_loads_152 ?_
  refine jd_app (k := k + 9) (b9 := 67) (c9 := 7) (t := tx17) (s9 := zL 34) (n1 := tx17.length + (zL 34).length) (As := [.ref (za 34)]) (rest := []) ⟨hx, hb, hml, hown, hts⟩ (cJ4_append_15ec4M l D cy za zv Y H.size lbn bv bm ba tx17.length bz 34 (by decide) (by rw [show (zB 34).length = 7 by decide +kernel]; omega) hB.2.1 hB.1 hB.2.2.1) (cwV 1 hts gL_loads_J4_append_15ec4 rfl rfl rfl hdJ4_append_15ec4 ⟨Nat.le_of_ble_eq_true rfl, Nat.le_of_ble_eq_true rfl⟩) hY hZ hK hB hL (by decide +kernel) List.length_append.symm (zL_lt 34 (by decide)) (fun _ h => h) hP hD hS hA rfl hl.1 rfl (Nat.le_of_ble_eq_true rfl) dL_loads_154 ⟨by show _ ≤ 120; omega, by show _ ≤ 132000; omega⟩ (fun tx18 bv bm ba H locs ex18 hB hL hP hD hS => ?_)
  replace hL : (tx18).length ≤ 74 := hL
  refine lv_iconst (v := 1) hx hb dL_loads_157 rfl ?_
  refine lv_aload_n hx hb dL_loads_158 rfl (lv_at hl 2 rfl) ?_
  refine lv_iconst (v := 3) hx hb dL_loads_159 rfl ?_
  refine jd_dg (k := k + 9) (n9 := 3) (rest := [.int 1, .ref lbn]) hN (by omega) (by decide) (by decide) ⟨hx, hb, hml, hown, hts⟩ (cwV 1 hts gL_loads_L_draw rfl rfl rfl hdL_draw ⟨Nat.le_of_ble_eq_true rfl, Nat.le_of_ble_eq_true rfl⟩) hY hZ hK hP hD hS hA hl.1 rfl (Nat.le_of_ble_eq_true rfl) dL_loads_160 ⟨by show _ ≤ 120; omega, by show _ ≤ 132000; omega⟩ (fun d10 H locs hd10 ld10 hP hD hS => ?_)
  refine lv_iadd hx hb dL_loads_163 ?_
  rw [show (1 + (nI d10) : Int32) = nI (1 + d10) from nI_add 1 d10]
  refine jd_app (k := k + 10) (b9 := 74) (c9 := 3) (t := tx18) (s9 := decL (1 + d10)) (n1 := tx18.length + (decL (1 + d10)).length) (As := [.int (nI (1 + d10))]) (rest := []) ⟨hx, hb, hml, hown, hts⟩ (cJ4_append_bf812M l D cy za zv Y H.size lbn bv bm ba tx18.length bz (1 + d10) (by omega) (by omega) hB.2.1 hB.1 hB.2.2.1) (cwV 1 hts gL_loads_J4_append_bf812 rfl rfl rfl hdJ4_append_bf812 ⟨Nat.le_of_ble_eq_true rfl, Nat.le_of_ble_eq_true rfl⟩) hY hZ hK hB hL (decL_le _) List.length_append.symm (decL_lt (by omega)) (fun _ h => h) hP hD hS hA rfl hl.1 rfl (Nat.le_of_ble_eq_true rfl) dL_loads_164 ⟨by show _ ≤ 120; omega, by show _ ≤ 132000; omega⟩ (fun tx19 bv bm ba H locs ex19 hB hL hP hD hS => ?_)
  replace hL : (tx19).length ≤ 77 := hL
  refine lv_bipush (v := 32) hx hb dL_loads_167 rfl ?_
  refine jd_app (k := k + 10) (b9 := 77) (c9 := 1) (t := tx19) (s9 := [32]) (n1 := tx19.length + 1) (As := [.int 32]) (rest := []) ⟨hx, hb, hml, hown, hts⟩ (cJ4_append_cf468M l D cy za zv Y H.size lbn bv bm ba tx19.length bz 32 (by decide) (by omega) hB.2.1 hB.1 hB.2.2.1) (cwV 1 hts gL_loads_J4_append_cf468 rfl rfl rfl hdJ4_append_cf468 ⟨Nat.le_of_ble_eq_true rfl, Nat.le_of_ble_eq_true rfl⟩) hY hZ hK hB hL (Nat.le_refl 1) (by simp) (chr_lt (by decide)) (fun _ h => jApp_chr h) hP hD hS hA rfl hl.1 rfl (Nat.le_of_ble_eq_true rfl) dL_loads_169 ⟨by show _ ≤ 120; omega, by show _ ≤ 132000; omega⟩ (fun tx20 bv bm ba H locs ex20 hB hL hP hD hS => ?_)
  replace hL : (tx20).length ≤ 78 := hL
  refine lv_aload_n hx hb dL_loads_172 rfl (lv_at hl 2 rfl) ?_
  refine lv_iconst (v := 5) hx hb dL_loads_173 rfl ?_
  refine jd_dg (k := k + 10) (n9 := 5) (rest := [.ref lbn]) hN (by omega) (by decide) (by decide) ⟨hx, hb, hml, hown, hts⟩ (cwV 1 hts gL_loads_L_draw rfl rfl rfl hdL_draw ⟨Nat.le_of_ble_eq_true rfl, Nat.le_of_ble_eq_true rfl⟩) hY hZ hK hP hD hS hA hl.1 rfl (Nat.le_of_ble_eq_true rfl) dL_loads_174 ⟨by show _ ≤ 120; omega, by show _ ≤ 132000; omega⟩ (fun d11 H locs hd11 ld11 hP hD hS => ?_)
  refine jd_app (k := k + 11) (b9 := 78) (c9 := 3) (t := tx20) (s9 := decL d11) (n1 := tx20.length + (decL d11).length) (As := [.int (nI d11)]) (rest := []) ⟨hx, hb, hml, hown, hts⟩ (cJ4_append_bf812M l D cy za zv Y H.size lbn bv bm ba tx20.length bz d11 (by omega) (by omega) hB.2.1 hB.1 hB.2.2.1) (cwV 1 hts gL_loads_J4_append_bf812 rfl rfl rfl hdJ4_append_bf812 ⟨Nat.le_of_ble_eq_true rfl, Nat.le_of_ble_eq_true rfl⟩) hY hZ hK hB hL (decL_le _) List.length_append.symm (decL_lt (by omega)) (fun _ h => h) hP hD hS hA rfl hl.1 rfl (Nat.le_of_ble_eq_true rfl) dL_loads_177 ⟨by show _ ≤ 120; omega, by show _ ≤ 132000; omega⟩ (fun tx21 bv bm ba H locs ex21 hB hL hP hD hS => ?_)
  replace hL : (tx21).length ≤ 81 := hL
  refine lv_bipush (v := 32) hx hb dL_loads_180 rfl ?_
  refine jd_app (k := k + 11) (b9 := 81) (c9 := 1) (t := tx21) (s9 := [32]) (n1 := tx21.length + 1) (As := [.int 32]) (rest := []) ⟨hx, hb, hml, hown, hts⟩ (cJ4_append_cf468M l D cy za zv Y H.size lbn bv bm ba tx21.length bz 32 (by decide) (by omega) hB.2.1 hB.1 hB.2.2.1) (cwV 1 hts gL_loads_J4_append_cf468 rfl rfl rfl hdJ4_append_cf468 ⟨Nat.le_of_ble_eq_true rfl, Nat.le_of_ble_eq_true rfl⟩) hY hZ hK hB hL (Nat.le_refl 1) (by simp) (chr_lt (by decide)) (fun _ h => jApp_chr h) hP hD hS hA rfl hl.1 rfl (Nat.le_of_ble_eq_true rfl) dL_loads_182 ⟨by show _ ≤ 120; omega, by show _ ≤ 132000; omega⟩ (fun tx22 bv bm ba H locs ex22 hB hL hP hD hS => ?_)
  replace hL : (tx22).length ≤ 82 := hL
  refine lv_aload_n hx hb dL_loads_185 rfl (lv_at hl 2 rfl) ?_
  refine lv_iconst (v := 3) hx hb dL_loads_186 rfl ?_
  refine jd_dg (k := k + 11) (n9 := 3) (rest := [.ref lbn]) hN (by omega) (by decide) (by decide) ⟨hx, hb, hml, hown, hts⟩ (cwV 1 hts gL_loads_L_draw rfl rfl rfl hdL_draw ⟨Nat.le_of_ble_eq_true rfl, Nat.le_of_ble_eq_true rfl⟩) hY hZ hK hP hD hS hA hl.1 rfl (Nat.le_of_ble_eq_true rfl) dL_loads_187 ⟨by show _ ≤ 120; omega, by show _ ≤ 132000; omega⟩ (fun d12 H locs hd12 ld12 hP hD hS => ?_)
  refine jd_app (k := k + 12) (b9 := 82) (c9 := 3) (t := tx22) (s9 := decL d12) (n1 := tx22.length + (decL d12).length) (As := [.int (nI d12)]) (rest := []) ⟨hx, hb, hml, hown, hts⟩ (cJ4_append_bf812M l D cy za zv Y H.size lbn bv bm ba tx22.length bz d12 (by omega) (by omega) hB.2.1 hB.1 hB.2.2.1) (cwV 1 hts gL_loads_J4_append_bf812 rfl rfl rfl hdJ4_append_bf812 ⟨Nat.le_of_ble_eq_true rfl, Nat.le_of_ble_eq_true rfl⟩) hY hZ hK hB hL (decL_le _) List.length_append.symm (decL_lt (by omega)) (fun _ h => h) hP hD hS hA rfl hl.1 rfl (Nat.le_of_ble_eq_true rfl) dL_loads_190 ⟨by show _ ≤ 120; omega, by show _ ≤ 132000; omega⟩ (fun tx23 bv bm ba H locs ex23 hB hL hP hD hS => ?_)
  replace hL : (tx23).length ≤ 85 := hL
  refine k_ldcS (tx := ";cross ") (q := za 35) hx hb hown (k_site hZ 35 (by decide)) dL_loads_193 ?_
  refine jd_app (k := k + 12) (b9 := 85) (c9 := 7) (t := tx23) (s9 := zL 35) (n1 := tx23.length + (zL 35).length) (As := [.ref (za 35)]) (rest := []) ⟨hx, hb, hml, hown, hts⟩ (cJ4_append_15ec4M l D cy za zv Y H.size lbn bv bm ba tx23.length bz 35 (by decide) (by rw [show (zB 35).length = 7 by decide +kernel]; omega) hB.2.1 hB.1 hB.2.2.1) (cwV 1 hts gL_loads_J4_append_15ec4 rfl rfl rfl hdJ4_append_15ec4 ⟨Nat.le_of_ble_eq_true rfl, Nat.le_of_ble_eq_true rfl⟩) hY hZ hK hB hL (by decide +kernel) List.length_append.symm (zL_lt 35 (by decide)) (fun _ h => h) hP hD hS hA rfl hl.1 rfl (Nat.le_of_ble_eq_true rfl) dL_loads_195 ⟨by show _ ≤ 120; omega, by show _ ≤ 132000; omega⟩ (fun tx24 bv bm ba H locs ex24 hB hL hP hD hS => ?_)
  replace hL : (tx24).length ≤ 92 := hL
  refine lv_iconst (v := 1) hx hb dL_loads_198 rfl ?_
  refine lv_aload_n hx hb dL_loads_199 rfl (lv_at hl 2 rfl) ?_
  refine lv_iconst (v := 3) hx hb dL_loads_200 rfl ?_
  refine jd_dg (k := k + 12) (n9 := 3) (rest := [.int 1, .ref lbn]) hN (by omega) (by decide) (by decide) ⟨hx, hb, hml, hown, hts⟩ (cwV 1 hts gL_loads_L_draw rfl rfl rfl hdL_draw ⟨Nat.le_of_ble_eq_true rfl, Nat.le_of_ble_eq_true rfl⟩) hY hZ hK hP hD hS hA hl.1 rfl (Nat.le_of_ble_eq_true rfl) dL_loads_201 ⟨by show _ ≤ 120; omega, by show _ ≤ 132000; omega⟩ (fun d13 H locs hd13 ld13 hP hD hS => ?_)
  refine lv_iadd hx hb dL_loads_204 ?_
  rw [show (1 + (nI d13) : Int32) = nI (1 + d13) from nI_add 1 d13]
  refine jd_app (k := k + 13) (b9 := 92) (c9 := 3) (t := tx24) (s9 := decL (1 + d13)) (n1 := tx24.length + (decL (1 + d13)).length) (As := [.int (nI (1 + d13))]) (rest := []) ⟨hx, hb, hml, hown, hts⟩ (cJ4_append_bf812M l D cy za zv Y H.size lbn bv bm ba tx24.length bz (1 + d13) (by omega) (by omega) hB.2.1 hB.1 hB.2.2.1) (cwV 1 hts gL_loads_J4_append_bf812 rfl rfl rfl hdJ4_append_bf812 ⟨Nat.le_of_ble_eq_true rfl, Nat.le_of_ble_eq_true rfl⟩) hY hZ hK hB hL (decL_le _) List.length_append.symm (decL_lt (by omega)) (fun _ h => h) hP hD hS hA rfl hl.1 rfl (Nat.le_of_ble_eq_true rfl) dL_loads_205 ⟨by show _ ≤ 120; omega, by show _ ≤ 132000; omega⟩ (fun tx25 bv bm ba H locs ex25 hB hL hP hD hS => ?_)
  replace hL : (tx25).length ≤ 95 := hL
  refine k_ldcS (tx := " patience ") (q := za 36) hx hb hown (k_site hZ 36 (by decide)) dL_loads_208 ?_
  refine jd_app (k := k + 13) (b9 := 95) (c9 := 10) (t := tx25) (s9 := zL 36) (n1 := tx25.length + (zL 36).length) (As := [.ref (za 36)]) (rest := []) ⟨hx, hb, hml, hown, hts⟩ (cJ4_append_15ec4M l D cy za zv Y H.size lbn bv bm ba tx25.length bz 36 (by decide) (by rw [show (zB 36).length = 10 by decide +kernel]; omega) hB.2.1 hB.1 hB.2.2.1) (cwV 1 hts gL_loads_J4_append_15ec4 rfl rfl rfl hdJ4_append_15ec4 ⟨Nat.le_of_ble_eq_true rfl, Nat.le_of_ble_eq_true rfl⟩) hY hZ hK hB hL (by decide +kernel) List.length_append.symm (zL_lt 36 (by decide)) (fun _ h => h) hP hD hS hA rfl hl.1 rfl (Nat.le_of_ble_eq_true rfl) dL_loads_210 ⟨by show _ ≤ 120; omega, by show _ ≤ 132000; omega⟩ (fun tx26 bv bm ba H locs ex26 hB hL hP hD hS => ?_)
  replace hL : (tx26).length ≤ 105 := hL
  refine lv_iconst (v := 1) hx hb dL_loads_213 rfl ?_
  refine lv_aload_n hx hb dL_loads_214 rfl (lv_at hl 2 rfl) ?_
  refine lv_iconst (v := 4) hx hb dL_loads_215 rfl ?_
  refine jd_dg (k := k + 13) (n9 := 4) (rest := [.int 1, .ref lbn]) hN (by omega) (by decide) (by decide) ⟨hx, hb, hml, hown, hts⟩ (cwV 1 hts gL_loads_L_draw rfl rfl rfl hdL_draw ⟨Nat.le_of_ble_eq_true rfl, Nat.le_of_ble_eq_true rfl⟩) hY hZ hK hP hD hS hA hl.1 rfl (Nat.le_of_ble_eq_true rfl) dL_loads_216 ⟨by show _ ≤ 120; omega, by show _ ≤ 132000; omega⟩ (fun d14 H locs hd14 ld14 hP hD hS => ?_)
  refine lv_iadd hx hb dL_loads_219 ?_
  rw [show (1 + (nI d14) : Int32) = nI (1 + d14) from nI_add 1 d14]
  refine jd_app (k := k + 14) (b9 := 105) (c9 := 3) (t := tx26) (s9 := decL (1 + d14)) (n1 := tx26.length + (decL (1 + d14)).length) (As := [.int (nI (1 + d14))]) (rest := []) ⟨hx, hb, hml, hown, hts⟩ (cJ4_append_bf812M l D cy za zv Y H.size lbn bv bm ba tx26.length bz (1 + d14) (by omega) (by omega) hB.2.1 hB.1 hB.2.2.1) (cwV 1 hts gL_loads_J4_append_bf812 rfl rfl rfl hdJ4_append_bf812 ⟨Nat.le_of_ble_eq_true rfl, Nat.le_of_ble_eq_true rfl⟩) hY hZ hK hB hL (decL_le _) List.length_append.symm (decL_lt (by omega)) (fun _ h => h) hP hD hS hA rfl hl.1 rfl (Nat.le_of_ble_eq_true rfl) dL_loads_220 ⟨by show _ ≤ 120; omega, by show _ ≤ 132000; omega⟩ (fun tx27 bv bm ba H locs ex27 hB hL hP hD hS => ?_)
  replace hL : (tx27).length ≤ 108 := hL
  refine lv_bipush (v := 59) hx hb dL_loads_223 rfl ?_
  refine jd_app (k := k + 14) (b9 := 108) (c9 := 1) (t := tx27) (s9 := [59]) (n1 := tx27.length + 1) (As := [.int 59]) (rest := []) ⟨hx, hb, hml, hown, hts⟩ (cJ4_append_cf468M l D cy za zv Y H.size lbn bv bm ba tx27.length bz 59 (by decide) (by omega) hB.2.1 hB.1 hB.2.2.1) (cwV 1 hts gL_loads_J4_append_cf468 rfl rfl rfl hdJ4_append_cf468 ⟨Nat.le_of_ble_eq_true rfl, Nat.le_of_ble_eq_true rfl⟩) hY hZ hK hB hL (Nat.le_refl 1) (by simp) (chr_lt (by decide)) (fun _ h => jApp_chr h) hP hD hS hA rfl hl.1 rfl (Nat.le_of_ble_eq_true rfl) dL_loads_225 ⟨by show _ ≤ 120; omega, by show _ ≤ 132000; omega⟩ (fun tx28 bv bm ba H locs ex28 hB hL hP hD hS => ?_)
  replace hL : (tx28).length ≤ 109 := hL
  refine lv_pop hx hb dL_loads_228 rfl ?_
  refine lv_iconst (v := 0) hx hb dL_loads_229 rfl ?_
  refine lv_istore_n (lv' := [(3, .int 0), (2, .int (nI (3 + d2))), (1, .int (nI d1)), (0, .ref hLn)]) hx hb dL_loads_230 rfl hl (by decide) rfl (fun ls hl => ?_)
  have hcr : 3 + d2 ≤ 8 := by omega
  have eT : tx28 = [] ++ zL 27 ++ decL d1 ++ [32] ++ decL (d1 + d3) ++ zL 28 ++ decL (2 + d4) ++ zL 29 ++ decL d5 ++ zL 30 ++ decL (5 + d6) ++ zL 31 ++ decL (3 + d7) ++ zL 32 ++ decL (150 + d8) ++ zL 33 ++ decL (40 + d9) ++ zL 34 ++ decL (1 + d10) ++ [32] ++ decL d11 ++ [32] ++ decL d12 ++ zL 35 ++ decL (1 + d13) ++ zL 36 ++ decL (1 + d14) ++ [59] := by rw [ex28, ex27, ex26, ex25, ex24, ex23, ex22, ex21, ex20, ex19, ex18, ex17, ex16, ex15, ex14, ex13, ex12, ex11, ex10, ex9, ex8, ex7, ex6, ex5, ex4, ex3, ex2]
  rw [eT] at hB hL hP hD
  subst hd1
  subst hd2
  subst hd3
  subst hd4
  subst hd5
  subst hd6
  subst hd7
  subst hd8
  subst hd9
  subst hd10
  subst hd11
  subst hd12
  subst hd13
  subst hd14
  change tB (ldA Y k) bm ba at hB
  change (ldA Y k).length ≤ _ at hL
  refine W.widen (k := cells + 28) (n := slots + 30800) (by omega) (by omega) ?_
  exact kk bv bm ba bz H locs ls hcr (lv_sub hl [0, 1, 3] rfl) hB hL hP hD hS
def ldB (Y : YB) : Nat → Nat → List Nat × Nat → List Nat × Nat
  | 0, _, q => q
  | n + 1, j, q => ldB Y n (j + 1) (if drN Y q.2 2 = 0 then (q.1 ++ zL 37 ++ decL j ++ [32] ++ decL (8 + (drN Y (q.2 + 1) 30)) ++ [32] ++ decL (2 + (drN Y (q.2 + 2) 9)) ++ [32] ++ decL (1 + (drN Y (q.2 + 3) 3)) ++ [59], q.2 + 4) else (q.1, q.2 + 1))
set_option maxHeartbeats 4000000 in
set_option maxRecDepth 100000 in
theorem tLd_b (hN : Y.2.2.1 < 2147483648) (E : mE D cy RL cL_loads 4 (some .boolean) wsL_loads A p s m args meth c) (hZ : mZ za zv A s s.heap) (hY : mY Y A s s.heap) (cr : Nat) (bz : Int32) : ∀ (n j k b cells slots bv bm : Nat) (t : List Nat) (ba : Nat → Int32) (H : Heap) (locs : List Loc) (ls : Array Slot), j + n = 4 → k + 4 * n < 2000000 → tB t bm ba → t.length ≤ b → b + 21 * n ≤ 400 → cells + 9 * n ≤ 120 → slots + 9900 * n ≤ 132000 → lv_has ls 4 [(3, .int (nI j)), (2, .int (nI cr)), (0, .ref hLn)] → va_P D kCl (w3 cy hLn lbn ad hh aa pa Y k u bv bm ba t.length bz) H → va_D A (w3 cy hLn lbn ad hh aa pa Y k u bv bm ba t.length bz) → va_S A s.heap H locs →
    (∀ (bv bm : Nat) (ba : Nat → Int32) (H : Heap) (locs : List Loc) (ls : Array Slot), lv_has ls 4 [(2, .int (nI cr)), (0, .ref hLn)] → tB (ldB Y n j (t, k)).1 bm ba → (ldB Y n j (t, k)).1.length ≤ b + 21 * n → (ldB Y n j (t, k)).2 ≤ k + 4 * n → va_P D kCl (w3 cy hLn lbn ad hh aa pa Y (ldB Y n j (t, k)).2 u bv bm ba (ldB Y n j (t, k)).1.length bz) H → va_D A (w3 cy hLn lbn ad hh aa pa Y (ldB Y n j (t, k)).2 u bv bm ba (ldB Y n j (t, k)).1.length bz) → va_S A s.heap H locs → W p l e rmL_loads s m args below meth c H locs (cells + 9 * n) (slots + 9900 * n) Q (F0 m 317 ls [])) → W p l e rmL_loads s m args below meth c H locs cells slots Q (F0 m 231 ls []) := by
  obtain ⟨hx, hb, hr, hml, hown, hts, hlocks, hK, hA⟩ := id E
  intro n
  induction n with
  | zero =>
    intro j k b cells slots bv bm t ba H locs ls hj hk hB hL hb9 hc hs hl hP hD hS kk
    refine lv_iload_n hx hb dL_loads_231 rfl (lv_at hl 0 rfl) ?_
    refine lv_iconst (v := 4) hx hb dL_loads_232 rfl ?_
    refine lv_icmp_ge (tgt := 317) hx hb dL_loads_233 (by decide) (fun _ => ?_) (fun c9 => absurd (by rw [show j = 4 by omega]; decide) c9)
    exact kk bv bm ba H locs ls (lv_sub hl [1, 2] rfl) hB hL (Nat.le_refl _) hP hD hS
  | succ n ih =>
    intro j k b cells slots bv bm t ba H locs ls hj hk hB hL hb9 hc hs hl hP hD hS kk
    refine lv_iload_n hx hb dL_loads_231 rfl (lv_at hl 0 rfl) ?_
    refine lv_iconst (v := 4) hx hb dL_loads_232 rfl ?_
    refine lv_icmp_ge (tgt := 317) hx hb dL_loads_233 (by decide) (fun c9 => absurd c9 (jd_nle (b := 4) (by omega) (by decide))) (fun _ => ?_)
    refine lv_aload_n hx hb dL_loads_236 rfl (lv_at hl 2 rfl) ?_
    refine lv_iconst (v := 2) hx hb dL_loads_237 rfl ?_
    refine jd_dg (k := k) (n9 := 2) (rest := []) hN (by omega) (by decide) (by decide) ⟨hx, hb, hml, hown, hts⟩ (cwV 1 hts gL_loads_L_draw rfl rfl rfl hdL_draw ⟨Nat.le_of_ble_eq_true rfl, Nat.le_of_ble_eq_true rfl⟩) hY hZ hK hP hD hS hA hl.1 rfl (Nat.le_of_ble_eq_true rfl) dL_loads_238 ⟨by show _ ≤ 120; omega, by show _ ≤ 132000; omega⟩ (fun d1 H locs hd1 ld1 hP hD hS => ?_)
    refine lv_if_ne (tgt := 311) hx hb dL_loads_241 (by decide) (fun c9 => ?_) (fun c9 => ?_)
    · have e0 : ¬ drN Y k 2 = 0 := fun q => c9 (by rw [hd1, q]; rfl)
      subst hd1
      refine lv_iinc (v := nI (j + 1)) (lv' := [(3, .int (nI (j + 1))), (2, .int (nI cr)), (0, .ref hLn)]) hx hb dL_loads_311 hl (k := 0) rfl (nI_1 j) (by decide) rfl (fun ls hl => ?_)
      refine lv_goto (tgt := 231) hx hb dL_loads_314 (by decide) ?_
      have e : ldB Y (n + 1) j (t, k) = ldB Y n (j + 1) (t, k + 1) := by rw [ldB, if_neg e0]
      rw [e] at kk
      exact ih (j + 1) (k + 1) b cells slots bv bm t ba H locs ls (by omega) (by omega) hB hL (by omega) (by omega) (by omega) hl hP hD hS (fun bv bm ba H locs ls hl hB hL hk9 hP hD hS => W.widen (by omega) (by omega) (kk bv bm ba H locs ls hl hB (by omega) (by omega) hP hD hS))
    · have e0 : drN Y k 2 = 0 := by
        rw [← hd1]
        exact (nI_eq (by omega) (by decide)).mp (show nI d1 = nI 0 from c9)
      refine lv_aload_n hx hb dL_loads_244 rfl (lv_at hl 2 rfl) ?_
      refine k_get (v := .ref lbn) (C := RL) (T := TL) (N := 4) hx hb hts inL_loads_L hown hK hP 0 rfl rfl 3 (by decide) lkL_loads_19 rfl dL_loads_245 ?_
      refine k_ldcS (tx := "kind ") (q := za 37) hx hb hown (k_site hZ 37 (by decide)) dL_loads_248 ?_
      refine jd_app (k := k + 1) (b9 := b) (c9 := 5) (t := t) (s9 := zL 37) (n1 := t.length + (zL 37).length) (As := [.ref (za 37)]) (rest := []) ⟨hx, hb, hml, hown, hts⟩ (cJ4_append_15ec4M l D cy za zv Y H.size lbn bv bm ba t.length bz 37 (by decide) (by rw [show (zB 37).length = 5 by decide +kernel]; omega) hB.2.1 hB.1 hB.2.2.1) (cwV 1 hts gL_loads_J4_append_15ec4 rfl rfl rfl hdJ4_append_15ec4 ⟨Nat.le_of_ble_eq_true rfl, Nat.le_of_ble_eq_true rfl⟩) hY hZ hK hB hL (by decide +kernel) List.length_append.symm (zL_lt 37 (by decide)) (fun _ h => h) hP hD hS hA rfl hl.1 rfl (Nat.le_of_ble_eq_true rfl) dL_loads_250 ⟨by show _ ≤ 120; omega, by show _ ≤ 132000; omega⟩ (fun tx1 bv bm ba H locs ex1 hB hL hP hD hS => ?_)
      refine lv_iload_n hx hb dL_loads_253 rfl (lv_at hl 0 rfl) ?_
      refine jd_app (k := k + 1) (b9 := b + 5) (c9 := 3) (t := tx1) (s9 := decL j) (n1 := tx1.length + (decL j).length) (As := [.int (nI j)]) (rest := []) ⟨hx, hb, hml, hown, hts⟩ (cJ4_append_bf812M l D cy za zv Y H.size lbn bv bm ba tx1.length bz j (by omega) (by omega) hB.2.1 hB.1 hB.2.2.1) (cwV 1 hts gL_loads_J4_append_bf812 rfl rfl rfl hdJ4_append_bf812 ⟨Nat.le_of_ble_eq_true rfl, Nat.le_of_ble_eq_true rfl⟩) hY hZ hK hB hL (decL_le _) List.length_append.symm (decL_lt (by omega)) (fun _ h => h) hP hD hS hA rfl hl.1 rfl (Nat.le_of_ble_eq_true rfl) dL_loads_254 ⟨by show _ ≤ 120; omega, by show _ ≤ 132000; omega⟩ (fun tx2 bv bm ba H locs ex2 hB hL hP hD hS => ?_)
      refine lv_bipush (v := 32) hx hb dL_loads_257 rfl ?_
      refine jd_app (k := k + 1) (b9 := b + 5 + 3) (c9 := 1) (t := tx2) (s9 := [32]) (n1 := tx2.length + 1) (As := [.int 32]) (rest := []) ⟨hx, hb, hml, hown, hts⟩ (cJ4_append_cf468M l D cy za zv Y H.size lbn bv bm ba tx2.length bz 32 (by decide) (by omega) hB.2.1 hB.1 hB.2.2.1) (cwV 1 hts gL_loads_J4_append_cf468 rfl rfl rfl hdJ4_append_cf468 ⟨Nat.le_of_ble_eq_true rfl, Nat.le_of_ble_eq_true rfl⟩) hY hZ hK hB hL (Nat.le_refl 1) (by simp) (chr_lt (by decide)) (fun _ h => jApp_chr h) hP hD hS hA rfl hl.1 rfl (Nat.le_of_ble_eq_true rfl) dL_loads_259 ⟨by show _ ≤ 120; omega, by show _ ≤ 132000; omega⟩ (fun tx3 bv bm ba H locs ex3 hB hL hP hD hS => ?_)
      refine lv_bipush (v := 8) hx hb dL_loads_262 rfl ?_
      refine lv_aload_n hx hb dL_loads_264 rfl (lv_at hl 2 rfl) ?_
      refine lv_bipush (v := 30) hx hb dL_loads_265 rfl ?_
      refine jd_dg (k := k + 1) (n9 := 30) (rest := [.int 8, .ref lbn]) hN (by omega) (by decide) (by decide) ⟨hx, hb, hml, hown, hts⟩ (cwV 1 hts gL_loads_L_draw rfl rfl rfl hdL_draw ⟨Nat.le_of_ble_eq_true rfl, Nat.le_of_ble_eq_true rfl⟩) hY hZ hK hP hD hS hA hl.1 rfl (Nat.le_of_ble_eq_true rfl) dL_loads_267 ⟨by show _ ≤ 120; omega, by show _ ≤ 132000; omega⟩ (fun d2 H locs hd2 ld2 hP hD hS => ?_)
      refine lv_iadd hx hb dL_loads_270 ?_
      rw [show (8 + (nI d2) : Int32) = nI (8 + d2) from nI_add 8 d2]
      refine jd_app (k := k + 2) (b9 := b + 5 + 3 + 1) (c9 := 3) (t := tx3) (s9 := decL (8 + d2)) (n1 := tx3.length + (decL (8 + d2)).length) (As := [.int (nI (8 + d2))]) (rest := []) ⟨hx, hb, hml, hown, hts⟩ (cJ4_append_bf812M l D cy za zv Y H.size lbn bv bm ba tx3.length bz (8 + d2) (by omega) (by omega) hB.2.1 hB.1 hB.2.2.1) (cwV 1 hts gL_loads_J4_append_bf812 rfl rfl rfl hdJ4_append_bf812 ⟨Nat.le_of_ble_eq_true rfl, Nat.le_of_ble_eq_true rfl⟩) hY hZ hK hB hL (decL_le _) List.length_append.symm (decL_lt (by omega)) (fun _ h => h) hP hD hS hA rfl hl.1 rfl (Nat.le_of_ble_eq_true rfl) dL_loads_271 ⟨by show _ ≤ 120; omega, by show _ ≤ 132000; omega⟩ (fun tx4 bv bm ba H locs ex4 hB hL hP hD hS => ?_)
      refine lv_bipush (v := 32) hx hb dL_loads_274 rfl ?_
      refine jd_app (k := k + 2) (b9 := b + 5 + 3 + 1 + 3) (c9 := 1) (t := tx4) (s9 := [32]) (n1 := tx4.length + 1) (As := [.int 32]) (rest := []) ⟨hx, hb, hml, hown, hts⟩ (cJ4_append_cf468M l D cy za zv Y H.size lbn bv bm ba tx4.length bz 32 (by decide) (by omega) hB.2.1 hB.1 hB.2.2.1) (cwV 1 hts gL_loads_J4_append_cf468 rfl rfl rfl hdJ4_append_cf468 ⟨Nat.le_of_ble_eq_true rfl, Nat.le_of_ble_eq_true rfl⟩) hY hZ hK hB hL (Nat.le_refl 1) (by simp) (chr_lt (by decide)) (fun _ h => jApp_chr h) hP hD hS hA rfl hl.1 rfl (Nat.le_of_ble_eq_true rfl) dL_loads_276 ⟨by show _ ≤ 120; omega, by show _ ≤ 132000; omega⟩ (fun tx5 bv bm ba H locs ex5 hB hL hP hD hS => ?_)
      refine lv_iconst (v := 2) hx hb dL_loads_279 rfl ?_
      refine lv_aload_n hx hb dL_loads_280 rfl (lv_at hl 2 rfl) ?_
      refine lv_bipush (v := 9) hx hb dL_loads_281 rfl ?_
      refine jd_dg (k := k + 2) (n9 := 9) (rest := [.int 2, .ref lbn]) hN (by omega) (by decide) (by decide) ⟨hx, hb, hml, hown, hts⟩ (cwV 1 hts gL_loads_L_draw rfl rfl rfl hdL_draw ⟨Nat.le_of_ble_eq_true rfl, Nat.le_of_ble_eq_true rfl⟩) hY hZ hK hP hD hS hA hl.1 rfl (Nat.le_of_ble_eq_true rfl) dL_loads_283 ⟨by show _ ≤ 120; omega, by show _ ≤ 132000; omega⟩ (fun d3 H locs hd3 ld3 hP hD hS => ?_)
      refine lv_iadd hx hb dL_loads_286 ?_
      rw [show (2 + (nI d3) : Int32) = nI (2 + d3) from nI_add 2 d3]
      refine jd_app (k := k + 3) (b9 := b + 5 + 3 + 1 + 3 + 1) (c9 := 3) (t := tx5) (s9 := decL (2 + d3)) (n1 := tx5.length + (decL (2 + d3)).length) (As := [.int (nI (2 + d3))]) (rest := []) ⟨hx, hb, hml, hown, hts⟩ (cJ4_append_bf812M l D cy za zv Y H.size lbn bv bm ba tx5.length bz (2 + d3) (by omega) (by omega) hB.2.1 hB.1 hB.2.2.1) (cwV 1 hts gL_loads_J4_append_bf812 rfl rfl rfl hdJ4_append_bf812 ⟨Nat.le_of_ble_eq_true rfl, Nat.le_of_ble_eq_true rfl⟩) hY hZ hK hB hL (decL_le _) List.length_append.symm (decL_lt (by omega)) (fun _ h => h) hP hD hS hA rfl hl.1 rfl (Nat.le_of_ble_eq_true rfl) dL_loads_287 ⟨by show _ ≤ 120; omega, by show _ ≤ 132000; omega⟩ (fun tx6 bv bm ba H locs ex6 hB hL hP hD hS => ?_)
      refine lv_bipush (v := 32) hx hb dL_loads_290 rfl ?_
      refine jd_app (k := k + 3) (b9 := b + 5 + 3 + 1 + 3 + 1 + 3) (c9 := 1) (t := tx6) (s9 := [32]) (n1 := tx6.length + 1) (As := [.int 32]) (rest := []) ⟨hx, hb, hml, hown, hts⟩ (cJ4_append_cf468M l D cy za zv Y H.size lbn bv bm ba tx6.length bz 32 (by decide) (by omega) hB.2.1 hB.1 hB.2.2.1) (cwV 1 hts gL_loads_J4_append_cf468 rfl rfl rfl hdJ4_append_cf468 ⟨Nat.le_of_ble_eq_true rfl, Nat.le_of_ble_eq_true rfl⟩) hY hZ hK hB hL (Nat.le_refl 1) (by simp) (chr_lt (by decide)) (fun _ h => jApp_chr h) hP hD hS hA rfl hl.1 rfl (Nat.le_of_ble_eq_true rfl) dL_loads_292 ⟨by show _ ≤ 120; omega, by show _ ≤ 132000; omega⟩ (fun tx7 bv bm ba H locs ex7 hB hL hP hD hS => ?_)
      refine lv_iconst (v := 1) hx hb dL_loads_295 rfl ?_
      refine lv_aload_n hx hb dL_loads_296 rfl (lv_at hl 2 rfl) ?_
      refine lv_iconst (v := 3) hx hb dL_loads_297 rfl ?_
      refine jd_dg (k := k + 3) (n9 := 3) (rest := [.int 1, .ref lbn]) hN (by omega) (by decide) (by decide) ⟨hx, hb, hml, hown, hts⟩ (cwV 1 hts gL_loads_L_draw rfl rfl rfl hdL_draw ⟨Nat.le_of_ble_eq_true rfl, Nat.le_of_ble_eq_true rfl⟩) hY hZ hK hP hD hS hA hl.1 rfl (Nat.le_of_ble_eq_true rfl) dL_loads_298 ⟨by show _ ≤ 120; omega, by show _ ≤ 132000; omega⟩ (fun d4 H locs hd4 ld4 hP hD hS => ?_)
      refine lv_iadd hx hb dL_loads_301 ?_
      rw [show (1 + (nI d4) : Int32) = nI (1 + d4) from nI_add 1 d4]
      refine jd_app (k := k + 4) (b9 := b + 5 + 3 + 1 + 3 + 1 + 3 + 1) (c9 := 3) (t := tx7) (s9 := decL (1 + d4)) (n1 := tx7.length + (decL (1 + d4)).length) (As := [.int (nI (1 + d4))]) (rest := []) ⟨hx, hb, hml, hown, hts⟩ (cJ4_append_bf812M l D cy za zv Y H.size lbn bv bm ba tx7.length bz (1 + d4) (by omega) (by omega) hB.2.1 hB.1 hB.2.2.1) (cwV 1 hts gL_loads_J4_append_bf812 rfl rfl rfl hdJ4_append_bf812 ⟨Nat.le_of_ble_eq_true rfl, Nat.le_of_ble_eq_true rfl⟩) hY hZ hK hB hL (decL_le _) List.length_append.symm (decL_lt (by omega)) (fun _ h => h) hP hD hS hA rfl hl.1 rfl (Nat.le_of_ble_eq_true rfl) dL_loads_302 ⟨by show _ ≤ 120; omega, by show _ ≤ 132000; omega⟩ (fun tx8 bv bm ba H locs ex8 hB hL hP hD hS => ?_)
      refine lv_bipush (v := 59) hx hb dL_loads_305 rfl ?_
      refine jd_app (k := k + 4) (b9 := b + 5 + 3 + 1 + 3 + 1 + 3 + 1 + 3) (c9 := 1) (t := tx8) (s9 := [59]) (n1 := tx8.length + 1) (As := [.int 59]) (rest := []) ⟨hx, hb, hml, hown, hts⟩ (cJ4_append_cf468M l D cy za zv Y H.size lbn bv bm ba tx8.length bz 59 (by decide) (by omega) hB.2.1 hB.1 hB.2.2.1) (cwV 1 hts gL_loads_J4_append_cf468 rfl rfl rfl hdJ4_append_cf468 ⟨Nat.le_of_ble_eq_true rfl, Nat.le_of_ble_eq_true rfl⟩) hY hZ hK hB hL (Nat.le_refl 1) (by simp) (chr_lt (by decide)) (fun _ h => jApp_chr h) hP hD hS hA rfl hl.1 rfl (Nat.le_of_ble_eq_true rfl) dL_loads_307 ⟨by show _ ≤ 120; omega, by show _ ≤ 132000; omega⟩ (fun tx9 bv bm ba H locs ex9 hB hL hP hD hS => ?_)
      refine lv_pop hx hb dL_loads_310 rfl ?_
      have eT : tx9 = t ++ zL 37 ++ decL j ++ [32] ++ decL (8 + d2) ++ [32] ++ decL (2 + d3) ++ [32] ++ decL (1 + d4) ++ [59] := by rw [ex9, ex8, ex7, ex6, ex5, ex4, ex3, ex2, ex1]
      rw [eT] at hB hL hP hD
      subst hd1
      subst hd2
      subst hd3
      subst hd4
      refine lv_iinc (v := nI (j + 1)) (lv' := [(3, .int (nI (j + 1))), (2, .int (nI cr)), (0, .ref hLn)]) hx hb dL_loads_311 hl (k := 0) rfl (nI_1 j) (by decide) rfl (fun ls hl => ?_)
      refine lv_goto (tgt := 231) hx hb dL_loads_314 (by decide) ?_
      have e : ldB Y (n + 1) j (t, k) = ldB Y n (j + 1) (t ++ zL 37 ++ decL j ++ [32] ++ decL (8 + (drN Y (k + 1) 30)) ++ [32] ++ decL (2 + (drN Y (k + 2) 9)) ++ [32] ++ decL (1 + (drN Y (k + 3) 3)) ++ [59], k + 4) := by rw [ldB, if_pos e0]
      rw [e] at kk
      refine W.widen (k := cells + 9) (n := slots + 9900) (by omega) (by omega) ?_
      exact ih (j + 1) (k + 4) (b + 21) (cells + 9) (slots + 9900) bv bm _ ba H locs ls (by omega) (by omega) hB (by omega) (by omega) (by omega) (by omega) hl hP hD hS (fun bv bm ba H locs ls hl hB hL hk9 hP hD hS => W.widen (by omega) (by omega) (kk bv bm ba H locs ls hl hB (by omega) (by omega) hP hD hS))
end JE
