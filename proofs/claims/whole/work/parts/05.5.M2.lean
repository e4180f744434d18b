-- X10_byteAt
theorem inX10_byteAt_X10 : ∀ w ∈ u_ws RX10 TX10 23, w ∈ wsX10_byteAt := k_lays 3 rfl
theorem lkX10_byteAt_158 : Cond.fieldLink RX10 158 "FerryRampModel" "textLength" "I" ∈ wsX10_byteAt := List.mem_of_getElem? (i := 1) rfl
theorem lkX10_byteAt_32 : Cond.fieldLink RX10 32 "FerryRampModel" "text" "[I" ∈ wsX10_byteAt := List.mem_of_getElem? (i := 2) rfl
abbrev rmX10_byteAt : Room := { frames := 0, cells := 0, slots := 0, locals := 0 }
def fX10_byteAt_b0 (x1 : Int32) (u : RS) : Option (Int32) :=
  (if (mTl u) ≤ x1 then some (-1) else grd (inb x1 500) (some (mTx u (ix x1))))
set_option maxHeartbeats 4000000 in
set_option maxRecDepth 100000 in
theorem tX10_byteAt_b0 {p : Program} {l : Launch} {e : Env} {s : State} {m : MethodId} {args : Array Value} {below : List Frame} {meth : Method} {c : Code} {D : va_G} {cy : Nat → ClassId} {A : Nat → Prop} {h : Nat} {a : Nat → Nat} (K : Int32 → Prop) (E : mE D cy RX10 cX10_byteAt 2 (some .int) wsX10_byteAt A p s m args meth c) (u : RS)
     (x1 : Int32) (H : Heap) (locs : List Loc) (ls : Array Slot) (hl : lv_has ls 2 [(0, .ref h), (1, .int x1)]) (hP : va_P D vwCl (wM cy h a u) H) (hD : va_D A (wM cy h a u)) (hS : va_S A s.heap H locs) (h1 : Ok (fX10_byteAt_b0 x1 u) K) :
    kW p l e rmX10_byteAt s m args below meth c H locs (va_Qi (fun r (_ : Unit) => K r) (fun _ => kPost D A (wM cy h a u)) A) A 0 ls [] := by
  obtain ⟨hx, hb, hr, hml, hown, hts, hlocks, hK, hA⟩ := id E
  unfold fX10_byteAt_b0 at h1
  refine lv_iload_n hx hb dX10_byteAt_0 rfl (lv_at hl 1 rfl) ?_
  refine lv_aload_n hx hb dX10_byteAt_1 rfl (lv_at hl 0 rfl) ?_
  refine k_get (v := .int (mTl u)) (C := RX10) (T := TX10) (N := 23) hx hb hts inX10_byteAt_X10 hown hK hP 0 (wM_a0 _ _ _ _) rfl 12 (by decide) lkX10_byteAt_158 (mFs_12 _ _) dX10_byteAt_2 ?_
  refine lv_icmp_ge (tgt := 17) hx hb dX10_byteAt_5 (by decide) (fun c5 => ?_) (fun c5 => ?_)
  · replace h1 := Ok.pos c5 h1
    refine lv_iconst (v := (-1)) hx hb dX10_byteAt_17 rfl ?_
    exact kret_r hx hb hr hlocks hP hD hS h1 dX10_byteAt_18
  · replace h1 := Ok.neg c5 h1
    refine lv_aload_n hx hb dX10_byteAt_8 rfl (lv_at hl 0 rfl) ?_
    refine k_get (v := .ref (a 7)) (C := RX10) (T := TX10) (N := 23) hx hb hts inX10_byteAt_X10 hown hK hP 0 (wM_a0 _ _ _ _) rfl 9 (by decide) lkX10_byteAt_32 (mFs_9 _ _) dX10_byteAt_9 ?_
    refine lv_iload_n hx hb dX10_byteAt_12 rfl (lv_at hl 1 rfl) ?_
    have g13 := h1.grd1
    replace h1 := h1.grd2
    refine k_iald (k := (ix x1)) hx hb hK hP 8 (wM_a8 _ _ _ _) g13 rfl dX10_byteAt_13 ?_
    refine lv_goto (tgt := 18) hx hb dX10_byteAt_14 (by decide) ?_
    exact kret_r hx hb hr hlocks hP hD hS h1 dX10_byteAt_18
def fX10_byteAt (p1 : Int32) (u : RS) : Option (Int32) := fX10_byteAt_b0 p1 u
set_option maxHeartbeats 4000000 in
set_option maxRecDepth 100000 in
theorem cX10_byteAtM (l : Launch) (D : va_G) (cy : Nat → ClassId) (h : Nat) (a : Nat → Nat) (sz : Nat) (u : RS) (p1 : Int32) : ∀ (K : Int32 → Prop), Ok (fX10_byteAt p1 u) K → Met l yX10_byteAt wsX10_byteAt rmX10_byteAt (va_Pc [.ref h, .int p1] (kPre D cy sz (wM cy h a u))) (va_Qi (fun r (_ : Unit) => K r) (fun _ => kPost D (va_A (wM cy h a u) sz) (wM cy h a u)) (va_A (wM cy h a u) sz)) 0 0 (va_A (wM cy h a u) sz) := by
  intro K h1
  refine Met.ofW (cc := cX10_byteAt) (maxL := 2) (ret := (some .int)) (by decide) rfl ?_
  intro p e s m args below meth c s₁ B hml hv
  obtain ⟨rfl, hsz, hP, hK, hD0⟩ := hv
  subst hsz
  have E : mE D cy RX10 cX10_byteAt 2 (some .int) wsX10_byteAt (va_A (wM cy h a u) s.heap.size) p s m _ meth c := ⟨B.exec, B.bytes, B.returns, hml, findClass_of_methodNamed B.named, atoms_spec (ws := wsX10_byteAt) B.pre, B.notSynchronized, hK, fun q h => Or.inr h⟩
  have hl := lv_entry ([.ref h, .int p1]) (n := 2) (Nat.le_of_ble_eq_true rfl)
  rw [lg_entry_eq]
  generalize (lg_sl ([.ref h, .int p1]) ++ List.replicate (2 - (lg_sl ([.ref h, .int p1])).length) Slot.unset).toArray = ls at hl ⊢
  exact tX10_byteAt_b0 K E u p1 _ _ _ hl hP hD0.self va_S.rf h1
-- X10_advance
theorem inX10_advance_X10 : ∀ w ∈ u_ws RX10 TX10 23, w ∈ wsX10_advance := k_lays 23 rfl
theorem lkX10_advance_164 : Cond.fieldLink RX10 164 "FerryRampModel" "position" "I" ∈ wsX10_advance := List.mem_of_getElem? (i := 1) rfl
theorem hdX10_byteAt : yX10_byteAt.cls = RX10 ∧ yX10_byteAt.cls ≠ "java/lang/invoke/MethodHandle" ∧ yX10_byteAt.cls ≠ "java/lang/invoke/VarHandle" ∧ (parseMethodDescriptor yX10_byteAt.desc).map (fun d => d.parameters.length) = some 1 := by decide +kernel
theorem lkX10_advance_170 : Cond.fieldLink RX10 170 "FerryRampModel" "tokenStart" "I" ∈ wsX10_advance := List.mem_of_getElem? (i := 2) rfl
theorem lkX10_advance_173 : Cond.fieldLink RX10 173 "FerryRampModel" "number" "I" ∈ wsX10_advance := List.mem_of_getElem? (i := 3) rfl
theorem lkX10_advance_158 : Cond.fieldLink RX10 158 "FerryRampModel" "textLength" "I" ∈ wsX10_advance := List.mem_of_getElem? (i := 4) rfl
theorem heX10_isLetter : yX10_isLetter.cls ≠ "java/lang/invoke/MethodHandle" ∧ yX10_isLetter.cls ≠ "java/lang/invoke/VarHandle" ∧ (parseMethodDescriptor yX10_isLetter.desc).map (fun d => d.parameters.length) = some 1 := by decide +kernel
theorem heX10_isDigit : yX10_isDigit.cls ≠ "java/lang/invoke/MethodHandle" ∧ yX10_isDigit.cls ≠ "java/lang/invoke/VarHandle" ∧ (parseMethodDescriptor yX10_isDigit.desc).map (fun d => d.parameters.length) = some 1 := by decide +kernel
theorem lkX10_advance_176 : Cond.fieldLink RX10 176 "FerryRampModel" "token" "I" ∈ wsX10_advance := List.mem_of_getElem? (i := 5) rfl
theorem lcX10_advance_185 : Cond.constant RX10 185 (1000000) ∈ wsX10_advance := List.mem_of_getElem? (i := 6) rfl
abbrev rmX10_advance : Room := { frames := 1, cells := 0, slots := 0, locals := 40 }
def fX10_advance_b26 (k0 : RS → Option (RS)) (u : RS) : Option (RS) :=
  k0 (nPo u ((mPo u) + 1))
set_option maxHeartbeats 4000000 in
set_option maxRecDepth 100000 in
theorem tX10_advance_b26 {p : Program} {l : Launch} {e : Env} {s : State} {m : MethodId} {args : Array Value} {below : List Frame} {meth : Method} {c : Code} {D : va_G} {cy : Nat → ClassId} {A : Nat → Prop} {h : Nat} {a : Nat → Nat} (K : RS → Prop) (E : mE D cy RX10 cX10_advance 2 none wsX10_advance A p s m args meth c)
    (k0 : RS → Option (RS)) (hk0 : ∀ (u : RS) (H : Heap) (locs : List Loc) (ls : Array Slot), lv_has ls 2 [(0, .ref h)] → va_P D vwCl (wM cy h a u) H → va_D A (wM cy h a u) → va_S A s.heap H locs → Ok (k0 u) K → kW p l e rmX10_advance s m args below meth c H locs (va_Qv K (fun q => kPost D A (wM cy h a q)) A) A 0 ls [])
     (u : RS) (H : Heap) (locs : List Loc) (ls : Array Slot) (hl : lv_has ls 2 [(0, .ref h)]) (hP : va_P D vwCl (wM cy h a u) H) (hD : va_D A (wM cy h a u)) (hS : va_S A s.heap H locs) (h1 : Ok (fX10_advance_b26 k0 u) K) :
    kW p l e rmX10_advance s m args below meth c H locs (va_Qv K (fun q => kPost D A (wM cy h a q)) A) A 26 ls [] := by
  obtain ⟨hx, hb, hr, hml, hown, hts, hlocks, hK, hA⟩ := id E
  unfold fX10_advance_b26 at h1
  refine lv_aload_n hx hb dX10_advance_26 rfl (lv_at hl 0 rfl) ?_
  refine lv_dup hx hb dX10_advance_27 rfl ?_
  refine k_get (v := .int (mPo u)) (C := RX10) (T := TX10) (N := 23) hx hb hts inX10_advance_X10 hown hK hP 0 (wM_a0 _ _ _ _) rfl 13 (by decide) lkX10_advance_164 (mFs_13 _ _) dX10_advance_28 ?_
  refine lv_iconst (v := 1) hx hb dX10_advance_31 rfl ?_
  refine lv_iadd hx hb dX10_advance_32 ?_
  refine k_put (v := .int ((mPo u) + 1)) (ty := .int) (C := RX10) (T := TX10) (N := 23) hx hb hts inX10_advance_X10 tyX10 tyX10_ok nmX10 hown hK hP hD hS 0 (wM_a0 _ _ _ _) rfl 13 (by decide) lkX10_advance_164 rfl (by decide +kernel) rfl rfl (Nat.le_of_ble_eq_true rfl) (ws' := wM cy h a (nPo u ((mPo u) + 1))) (wM_nPo _ _ _ _ _) dX10_advance_33 (fun H locs hP hD hS => ?_)
  refine lv_goto (tgt := 0) hx hb dX10_advance_36 (by decide) ?_
  exact hk0 (nPo u ((mPo u) + 1)) H locs ls (lv_sub hl [0] rfl) hP hD hS h1
def fX10_advance_b222 (s1 : Int32) (u : RS) : Option (RS) :=
  some (nPo (nTo u s1) ((mPo (nTo u s1)) + 1))
set_option maxHeartbeats 4000000 in
set_option maxRecDepth 100000 in
theorem tX10_advance_b222 {p : Program} {l : Launch} {e : Env} {s : State} {m : MethodId} {args : Array Value} {below : List Frame} {meth : Method} {c : Code} {D : va_G} {cy : Nat → ClassId} {A : Nat → Prop} {h : Nat} {a : Nat → Nat} (K : RS → Prop) (E : mE D cy RX10 cX10_advance 2 none wsX10_advance A p s m args meth c)
     (s1 : Int32) (u : RS) (H : Heap) (locs : List Loc) (ls : Array Slot) (hl : lv_has ls 2 [(0, .ref h)]) (hP : va_P D vwCl (wM cy h a u) H) (hD : va_D A (wM cy h a u)) (hS : va_S A s.heap H locs) (h1 : Ok (fX10_advance_b222 s1 u) K) :
    kW p l e rmX10_advance s m args below meth c H locs (va_Qv K (fun q => kPost D A (wM cy h a q)) A) A 222 ls [.int s1, .ref h] := by
  obtain ⟨hx, hb, hr, hml, hown, hts, hlocks, hK, hA⟩ := id E
  unfold fX10_advance_b222 at h1
  refine k_put (v := .int s1) (ty := .int) (C := RX10) (T := TX10) (N := 23) hx hb hts inX10_advance_X10 tyX10 tyX10_ok nmX10 hown hK hP hD hS 0 (wM_a0 _ _ _ _) rfl 15 (by decide) lkX10_advance_176 rfl (by decide +kernel) rfl rfl (Nat.le_of_ble_eq_true rfl) (ws' := wM cy h a (nTo u s1)) (wM_nTo _ _ _ _ _) dX10_advance_222 (fun H locs hP hD hS => ?_)
  refine lv_aload_n hx hb dX10_advance_225 rfl (lv_at hl 0 rfl) ?_
  refine lv_dup hx hb dX10_advance_226 rfl ?_
  refine k_get (v := .int (mPo (nTo u s1))) (C := RX10) (T := TX10) (N := 23) hx hb hts inX10_advance_X10 hown hK hP 0 (wM_a0 _ _ _ _) rfl 13 (by decide) lkX10_advance_164 (mFs_13 _ _) dX10_advance_227 ?_
  refine lv_iconst (v := 1) hx hb dX10_advance_230 rfl ?_
  refine lv_iadd hx hb dX10_advance_231 ?_
  refine k_put (v := .int ((mPo (nTo u s1)) + 1)) (ty := .int) (C := RX10) (T := TX10) (N := 23) hx hb hts inX10_advance_X10 tyX10 tyX10_ok nmX10 hown hK hP hD hS 0 (wM_a0 _ _ _ _) rfl 13 (by decide) lkX10_advance_164 rfl (by decide +kernel) rfl rfl (Nat.le_of_ble_eq_true rfl) (ws' := wM cy h a (nPo (nTo u s1) ((mPo (nTo u s1)) + 1))) (wM_nPo _ _ _ _ _) dX10_advance_232 (fun H locs hP hD hS => ?_)
  exact kret_v hx hb hr hlocks hP hD hS h1 dX10_advance_235
def fX10_advance_b136 (k136 : RS → Option (RS)) (u : RS) : Option (RS) :=
  bnd (fX10_byteAt (mPo u) u) (fun r141 => bnd (fX10_isDigit r141) (fun r144 => (if r144 = 0 then some u else bnd (fX10_byteAt (mPo u) u) (fun r165 => k136 (nPo (nNu u (if (((10 * (mNu u)) + r165) - 48) < 1000000 then (((10 * (mNu u)) + r165) - 48) else 1000000)) ((mPo (nNu u (if (((10 * (mNu u)) + r165) - 48) < 1000000 then (((10 * (mNu u)) + r165) - 48) else 1000000))) + 1))))))
set_option maxHeartbeats 4000000 in
set_option maxRecDepth 100000 in
theorem tX10_advance_b136 {p : Program} {l : Launch} {e : Env} {s : State} {m : MethodId} {args : Array Value} {below : List Frame} {meth : Method} {c : Code} {D : va_G} {cy : Nat → ClassId} {A : Nat → Prop} {h : Nat} {a : Nat → Nat} (K : RS → Prop) (E : mE D cy RX10 cX10_advance 2 none wsX10_advance A p s m args meth c)
    (k136 : RS → Option (RS)) (hk136 : ∀ (u : RS) (H : Heap) (locs : List Loc) (ls : Array Slot), lv_has ls 2 [(0, .ref h)] → va_P D vwCl (wM cy h a u) H → va_D A (wM cy h a u) → va_S A s.heap H locs → Ok (k136 u) K → kW p l e rmX10_advance s m args below meth c H locs (va_Qv K (fun q => kPost D A (wM cy h a q)) A) A 136 ls [])
     (u : RS) (H : Heap) (locs : List Loc) (ls : Array Slot) (hl : lv_has ls 2 [(0, .ref h)]) (hP : va_P D vwCl (wM cy h a u) H) (hD : va_D A (wM cy h a u)) (hS : va_S A s.heap H locs) (h1 : Ok (fX10_advance_b136 k136 u) K) :
    kW p l e rmX10_advance s m args below meth c H locs (va_Qv K (fun q => kPost D A (wM cy h a q)) A) A 136 ls [] := by
  obtain ⟨hx, hb, hr, hml, hown, hts, hlocks, hK, hA⟩ := id E
  unfold fX10_advance_b136 at h1
  refine lv_aload_n hx hb dX10_advance_136 rfl (lv_at hl 0 rfl) ?_
  refine lv_aload_n hx hb dX10_advance_137 rfl (lv_at hl 0 rfl) ?_
  refine k_get (v := .int (mPo u)) (C := RX10) (T := TX10) (N := 23) hx hb hts inX10_advance_X10 hown hK hP 0 (wM_a0 _ _ _ _) rfl 13 (by decide) lkX10_advance_164 (mFs_13 _ _) dX10_advance_138 ?_
  refine kc_rV0 (b := h) (As := [.int (mPo u)]) (rest := []) h1 ⟨hx, hb, hml, hown, hts⟩ (cX10_byteAtM l D cy h a H.size u (mPo u)) (cwV 1 hts gX10_advance_X10_byteAt rfl rfl rfl hdX10_byteAt ⟨Nat.le_of_ble_eq_true rfl, Nat.le_of_ble_eq_true rfl⟩) hK hP hD hS hA (q0 := 0) rfl rfl rfl hl.1 rfl (Nat.le_of_ble_eq_true rfl) dX10_advance_141 ⟨Nat.zero_le _, Nat.zero_le _⟩ (fun r141 H locs h1 hP hS => ?_)
  refine kc_rS (As := [.int r141]) (rest := []) (wc := []) (wr := _) h1 ⟨hx, hb, hml, hown, hts⟩ (cX10_isDigitM l D cy H.size r141) (va_cwS 1 hts gX10_advance_X10_isDigit rfl rfl rfl heX10_isDigit ⟨Nat.le_of_ble_eq_true rfl, Nat.le_of_ble_eq_true rfl⟩) hK (List.Perm.refl _) hP hD hS hA rfl hl.1 rfl (Nat.le_of_ble_eq_true rfl) dX10_advance_144 ⟨Nat.zero_le _, Nat.zero_le _⟩ (fun r144 H locs h1 hP hS => ?_)
  refine lv_if_eq (tgt := 235) hx hb dX10_advance_147 (by decide) (fun c147 => ?_) (fun c147 => ?_)
  · replace h1 := Ok.pos c147 h1
    exact kret_v hx hb hr hlocks hP hD hS h1 dX10_advance_235
  · replace h1 := Ok.neg c147 h1
    refine lv_aload_n hx hb dX10_advance_150 rfl (lv_at hl 0 rfl) ?_
    refine lv_ldc (v := 1000000) hx hb hown (hts _ lcX10_advance_185) dX10_advance_151 ?_
    refine lv_bipush (v := 10) hx hb dX10_advance_153 rfl ?_
    refine lv_aload_n hx hb dX10_advance_155 rfl (lv_at hl 0 rfl) ?_
    refine k_get (v := .int (mNu u)) (C := RX10) (T := TX10) (N := 23) hx hb hts inX10_advance_X10 hown hK hP 0 (wM_a0 _ _ _ _) rfl 16 (by decide) lkX10_advance_173 (mFs_16 _ _) dX10_advance_156 ?_
    refine lv_imul hx hb dX10_advance_159 ?_
    refine lv_aload_n hx hb dX10_advance_160 rfl (lv_at hl 0 rfl) ?_
    refine lv_aload_n hx hb dX10_advance_161 rfl (lv_at hl 0 rfl) ?_
    refine k_get (v := .int (mPo u)) (C := RX10) (T := TX10) (N := 23) hx hb hts inX10_advance_X10 hown hK hP 0 (wM_a0 _ _ _ _) rfl 13 (by decide) lkX10_advance_164 (mFs_13 _ _) dX10_advance_162 ?_
    refine kc_rV0 (b := h) (As := [.int (mPo u)]) (rest := [.int (10 * (mNu u)), .int 1000000, .ref h]) h1 ⟨hx, hb, hml, hown, hts⟩ (cX10_byteAtM l D cy h a H.size u (mPo u)) (cwV 1 hts gX10_advance_X10_byteAt rfl rfl rfl hdX10_byteAt ⟨Nat.le_of_ble_eq_true rfl, Nat.le_of_ble_eq_true rfl⟩) hK hP hD hS hA (q0 := 0) rfl rfl rfl hl.1 rfl (Nat.le_of_ble_eq_true rfl) dX10_advance_165 ⟨Nat.zero_le _, Nat.zero_le _⟩ (fun r165 H locs h1 hP hS => ?_)
    refine lv_iadd hx hb dX10_advance_168 ?_
    refine lv_bipush (v := 48) hx hb dX10_advance_169 rfl ?_
    refine lv_isub hx hb dX10_advance_171 ?_
    refine va_mmin hx hb (hml.trans hl.1.symm) hown (hts _ (List.mem_of_getElem? (i := 7) rfl)) (hts _ (List.mem_of_getElem? (i := 8) rfl)) (hts _ (List.mem_of_getElem? (i := 9) rfl)) (hts _ (List.mem_of_getElem? (i := 10) rfl)) (Nat.le_of_ble_eq_true rfl) (Nat.le_of_ble_eq_true rfl) (Nat.zero_le _) (Nat.zero_le _) dX10_advance_172 ?_
    refine k_put (v := .int (if (((10 * (mNu u)) + r165) - 48) < 1000000 then (((10 * (mNu u)) + r165) - 48) else 1000000)) (ty := .int) (C := RX10) (T := TX10) (N := 23) hx hb hts inX10_advance_X10 tyX10 tyX10_ok nmX10 hown hK hP hD hS 0 (wM_a0 _ _ _ _) rfl 16 (by decide) lkX10_advance_173 rfl (by decide +kernel) rfl rfl (Nat.le_of_ble_eq_true rfl) (ws' := wM cy h a (nNu u (if (((10 * (mNu u)) + r165) - 48) < 1000000 then (((10 * (mNu u)) + r165) - 48) else 1000000))) (wM_nNu _ _ _ _ _) dX10_advance_175 (fun H locs hP hD hS => ?_)
    refine lv_aload_n hx hb dX10_advance_178 rfl (lv_at hl 0 rfl) ?_
    refine lv_dup hx hb dX10_advance_179 rfl ?_
    refine k_get (v := .int (mPo (nNu u (if (((10 * (mNu u)) + r165) - 48) < 1000000 then (((10 * (mNu u)) + r165) - 48) else 1000000)))) (C := RX10) (T := TX10) (N := 23) hx hb hts inX10_advance_X10 hown hK hP 0 (wM_a0 _ _ _ _) rfl 13 (by decide) lkX10_advance_164 (mFs_13 _ _) dX10_advance_180 ?_
    refine lv_iconst (v := 1) hx hb dX10_advance_183 rfl ?_
    refine lv_iadd hx hb dX10_advance_184 ?_
    refine k_put (v := .int ((mPo (nNu u (if (((10 * (mNu u)) + r165) - 48) < 1000000 then (((10 * (mNu u)) + r165) - 48) else 1000000))) + 1)) (ty := .int) (C := RX10) (T := TX10) (N := 23) hx hb hts inX10_advance_X10 tyX10 tyX10_ok nmX10 hown hK hP hD hS 0 (wM_a0 _ _ _ _) rfl 13 (by decide) lkX10_advance_164 rfl (by decide +kernel) rfl rfl (Nat.le_of_ble_eq_true rfl) (ws' := wM cy h a (nPo (nNu u (if (((10 * (mNu u)) + r165) - 48) < 1000000 then (((10 * (mNu u)) + r165) - 48) else 1000000)) ((mPo (nNu u (if (((10 * (mNu u)) + r165) - 48) < 1000000 then (((10 * (mNu u)) + r165) - 48) else 1000000))) + 1))) (wM_nPo _ _ _ _ _) dX10_advance_185 (fun H locs hP hD hS => ?_)
    refine lv_goto (tgt := 136) hx hb dX10_advance_188 (by decide) ?_
    exact hk136 (nPo (nNu u (if (((10 * (mNu u)) + r165) - 48) < 1000000 then (((10 * (mNu u)) + r165) - 48) else 1000000)) ((mPo (nNu u (if (((10 * (mNu u)) + r165) - 48) < 1000000 then (((10 * (mNu u)) + r165) - 48) else 1000000))) + 1)) H locs ls (lv_sub hl [0] rfl) hP hD hS h1
theorem tX10_advance_l136 {p : Program} {l : Launch} {e : Env} {s : State} {m : MethodId} {args : Array Value} {below : List Frame} {meth : Method} {c : Code} {D : va_G} {cy : Nat → ClassId} {A : Nat → Prop} {h : Nat} {a : Nat → Nat} (K : RS → Prop) (E : mE D cy RX10 cX10_advance 2 none wsX10_advance A p s m args meth c) : ∀ (n9 : Nat) (u : RS) (H : Heap) (locs : List Loc) (ls : Array Slot), lv_has ls 2 [(0, .ref h)] → va_P D vwCl (wM cy h a u) H → va_D A (wM cy h a u) → va_S A s.heap H locs → Ok (lop (fun y z => fX10_advance_b136 y z) n9 u) K → kW p l e rmX10_advance s m args below meth c H locs (va_Qv K (fun q => kPost D A (wM cy h a q)) A) A 136 ls [] := by
  intro n9
  induction n9 with
  | zero =>
    intro u H locs ls hl hP hD hS h1
    exact h1.no
  | succ n9 ih =>
    intro u H locs ls hl hP hD hS h1
    exact tX10_advance_b136 K E (lop (fun y z => fX10_advance_b136 y z) n9) (fun u H locs ls hl hP hD hS h1 => ih u H locs ls hl hP hD hS h1) u H locs ls hl hP hD hS h1
def fX10_advance_b90 (k90 : RS → Option (RS)) (u : RS) : Option (RS) :=
  bnd (fX10_byteAt (mPo u) u) (fun r95 => bnd (fX10_isLetter r95) (fun r98 => (if r98 = 0 then some u else k90 (nPo u ((mPo u) + 1)))))
set_option maxHeartbeats 4000000 in
set_option maxRecDepth 100000 in
theorem tX10_advance_b90 {p : Program} {l : Launch} {e : Env} {s : State} {m : MethodId} {args : Array Value} {below : List Frame} {meth : Method} {c : Code} {D : va_G} {cy : Nat → ClassId} {A : Nat → Prop} {h : Nat} {a : Nat → Nat} (K : RS → Prop) (E : mE D cy RX10 cX10_advance 2 none wsX10_advance A p s m args meth c)
    (k90 : RS → Option (RS)) (hk90 : ∀ (u : RS) (H : Heap) (locs : List Loc) (ls : Array Slot), lv_has ls 2 [(0, .ref h)] → va_P D vwCl (wM cy h a u) H → va_D A (wM cy h a u) → va_S A s.heap H locs → Ok (k90 u) K → kW p l e rmX10_advance s m args below meth c H locs (va_Qv K (fun q => kPost D A (wM cy h a q)) A) A 90 ls [])
     (u : RS) (H : Heap) (locs : List Loc) (ls : Array Slot) (hl : lv_has ls 2 [(0, .ref h)]) (hP : va_P D vwCl (wM cy h a u) H) (hD : va_D A (wM cy h a u)) (hS : va_S A s.heap H locs) (h1 : Ok (fX10_advance_b90 k90 u) K) :
    kW p l e rmX10_advance s m args below meth c H locs (va_Qv K (fun q => kPost D A (wM cy h a q)) A) A 90 ls [] := by
  obtain ⟨hx, hb, hr, hml, hown, hts, hlocks, hK, hA⟩ := id E
  unfold fX10_advance_b90 at h1
  refine lv_aload_n hx hb dX10_advance_90 rfl (lv_at hl 0 rfl) ?_
  refine lv_aload_n hx hb dX10_advance_91 rfl (lv_at hl 0 rfl) ?_
  refine k_get (v := .int (mPo u)) (C := RX10) (T := TX10) (N := 23) hx hb hts inX10_advance_X10 hown hK hP 0 (wM_a0 _ _ _ _) rfl 13 (by decide) lkX10_advance_164 (mFs_13 _ _) dX10_advance_92 ?_
  refine kc_rV0 (b := h) (As := [.int (mPo u)]) (rest := []) h1 ⟨hx, hb, hml, hown, hts⟩ (cX10_byteAtM l D cy h a H.size u (mPo u)) (cwV 1 hts gX10_advance_X10_byteAt rfl rfl rfl hdX10_byteAt ⟨Nat.le_of_ble_eq_true rfl, Nat.le_of_ble_eq_true rfl⟩) hK hP hD hS hA (q0 := 0) rfl rfl rfl hl.1 rfl (Nat.le_of_ble_eq_true rfl) dX10_advance_95 ⟨Nat.zero_le _, Nat.zero_le _⟩ (fun r95 H locs h1 hP hS => ?_)
  refine kc_rS (As := [.int r95]) (rest := []) (wc := []) (wr := _) h1 ⟨hx, hb, hml, hown, hts⟩ (cX10_isLetterM l D cy H.size r95) (va_cwS 1 hts gX10_advance_X10_isLetter rfl rfl rfl heX10_isLetter ⟨Nat.le_of_ble_eq_true rfl, Nat.le_of_ble_eq_true rfl⟩) hK (List.Perm.refl _) hP hD hS hA rfl hl.1 rfl (Nat.le_of_ble_eq_true rfl) dX10_advance_98 ⟨Nat.zero_le _, Nat.zero_le _⟩ (fun r98 H locs h1 hP hS => ?_)
  refine lv_if_eq (tgt := 235) hx hb dX10_advance_101 (by decide) (fun c101 => ?_) (fun c101 => ?_)
  · replace h1 := Ok.pos c101 h1
    exact kret_v hx hb hr hlocks hP hD hS h1 dX10_advance_235
  · replace h1 := Ok.neg c101 h1
    refine lv_aload_n hx hb dX10_advance_104 rfl (lv_at hl 0 rfl) ?_
    refine lv_dup hx hb dX10_advance_105 rfl ?_
    refine k_get (v := .int (mPo u)) (C := RX10) (T := TX10) (N := 23) hx hb hts inX10_advance_X10 hown hK hP 0 (wM_a0 _ _ _ _) rfl 13 (by decide) lkX10_advance_164 (mFs_13 _ _) dX10_advance_106 ?_
    refine lv_iconst (v := 1) hx hb dX10_advance_109 rfl ?_
    refine lv_iadd hx hb dX10_advance_110 ?_
    refine k_put (v := .int ((mPo u) + 1)) (ty := .int) (C := RX10) (T := TX10) (N := 23) hx hb hts inX10_advance_X10 tyX10 tyX10_ok nmX10 hown hK hP hD hS 0 (wM_a0 _ _ _ _) rfl 13 (by decide) lkX10_advance_164 rfl (by decide +kernel) rfl rfl (Nat.le_of_ble_eq_true rfl) (ws' := wM cy h a (nPo u ((mPo u) + 1))) (wM_nPo _ _ _ _ _) dX10_advance_111 (fun H locs hP hD hS => ?_)
    refine lv_goto (tgt := 90) hx hb dX10_advance_114 (by decide) ?_
    exact hk90 (nPo u ((mPo u) + 1)) H locs ls (lv_sub hl [0] rfl) hP hD hS h1
theorem tX10_advance_l90 {p : Program} {l : Launch} {e : Env} {s : State} {m : MethodId} {args : Array Value} {below : List Frame} {meth : Method} {c : Code} {D : va_G} {cy : Nat → ClassId} {A : Nat → Prop} {h : Nat} {a : Nat → Nat} (K : RS → Prop) (E : mE D cy RX10 cX10_advance 2 none wsX10_advance A p s m args meth c) : ∀ (n9 : Nat) (u : RS) (H : Heap) (locs : List Loc) (ls : Array Slot), lv_has ls 2 [(0, .ref h)] → va_P D vwCl (wM cy h a u) H → va_D A (wM cy h a u) → va_S A s.heap H locs → Ok (lop (fun y z => fX10_advance_b90 y z) n9 u) K → kW p l e rmX10_advance s m args below meth c H locs (va_Qv K (fun q => kPost D A (wM cy h a q)) A) A 90 ls [] := by
  intro n9
  induction n9 with
  | zero =>
    intro u H locs ls hl hP hD hS h1
    exact h1.no
  | succ n9 ih =>
    intro u H locs ls hl hP hD hS h1
    exact tX10_advance_b90 K E (lop (fun y z => fX10_advance_b90 y z) n9) (fun u H locs ls hl hP hD hS h1 => ih u H locs ls hl hP hD hS h1) u H locs ls hl hP hD hS h1
def fX10_advance_b0 (k0 : RS → Option (RS)) (u : RS) : Option (RS) :=
  bnd (fX10_byteAt (mPo u) u) (fun r5 => (if r5 = 32 then fX10_advance_b26 k0 u else bnd (fX10_byteAt (mPo u) u) (fun r18 => (if r18 = 10 then fX10_advance_b26 k0 u else (if (mPo (nNu (nTs u (mPo u)) 0)) < (mTl (nNu (nTs u (mPo u)) 0)) then bnd (fX10_byteAt (mPo (nNu (nTs u (mPo u)) 0)) (nNu (nTs u (mPo u)) 0)) (fun r76 => bnd (fX10_isLetter r76) (fun r79 => (if r79 = 0 then bnd (fX10_byteAt (mPo (nNu (nTs u (mPo u)) 0)) (nNu (nTs u (mPo u)) 0)) (fun r122 => bnd (fX10_isDigit r122) (fun r125 => (if r125 = 0 then bnd (fX10_byteAt (mPo (nNu (nTs u (mPo u)) 0)) (nNu (nTs u (mPo u)) 0)) (fun r196 => (if r196 = 59 then fX10_advance_b222 4 (nNu (nTs u (mPo u)) 0) else (if r196 = 45 then fX10_advance_b222 3 (nNu (nTs u (mPo u)) 0) else fX10_advance_b222 5 (nNu (nTs u (mPo u)) 0)))) else lop (fun y z => fX10_advance_b136 y z) LF (nTo (nNu (nTs u (mPo u)) 0) 2)))) else lop (fun y z => fX10_advance_b90 y z) LF (nTo (nNu (nTs u (mPo u)) 0) 1)))) else some (nTo (nNu (nTs u (mPo u)) 0) 0))))))
set_option maxHeartbeats 4000000 in
set_option maxRecDepth 100000 in
theorem tX10_advance_b0 {p : Program} {l : Launch} {e : Env} {s : State} {m : MethodId} {args : Array Value} {below : List Frame} {meth : Method} {c : Code} {D : va_G} {cy : Nat → ClassId} {A : Nat → Prop} {h : Nat} {a : Nat → Nat} (K : RS → Prop) (E : mE D cy RX10 cX10_advance 2 none wsX10_advance A p s m args meth c)
    (k0 : RS → Option (RS)) (hk0 : ∀ (u : RS) (H : Heap) (locs : List Loc) (ls : Array Slot), lv_has ls 2 [(0, .ref h)] → va_P D vwCl (wM cy h a u) H → va_D A (wM cy h a u) → va_S A s.heap H locs → Ok (k0 u) K → kW p l e rmX10_advance s m args below meth c H locs (va_Qv K (fun q => kPost D A (wM cy h a q)) A) A 0 ls [])
     (u : RS) (H : Heap) (locs : List Loc) (ls : Array Slot) (hl : lv_has ls 2 [(0, .ref h)]) (hP : va_P D vwCl (wM cy h a u) H) (hD : va_D A (wM cy h a u)) (hS : va_S A s.heap H locs) (h1 : Ok (fX10_advance_b0 k0 u) K) :
    kW p l e rmX10_advance s m args below meth c H locs (va_Qv K (fun q => kPost D A (wM cy h a q)) A) A 0 ls [] := by
  obtain ⟨hx, hb, hr, hml, hown, hts, hlocks, hK, hA⟩ := id E
  unfold fX10_advance_b0 at h1
  refine lv_aload_n hx hb dX10_advance_0 rfl (lv_at hl 0 rfl) ?_
  refine lv_aload_n hx hb dX10_advance_1 rfl (lv_at hl 0 rfl) ?_
  refine k_get (v := .int (mPo u)) (C := RX10) (T := TX10) (N := 23) hx hb hts inX10_advance_X10 hown hK hP 0 (wM_a0 _ _ _ _) rfl 13 (by decide) lkX10_advance_164 (mFs_13 _ _) dX10_advance_2 ?_
  refine kc_rV0 (b := h) (As := [.int (mPo u)]) (rest := []) h1 ⟨hx, hb, hml, hown, hts⟩ (cX10_byteAtM l D cy h a H.size u (mPo u)) (cwV 1 hts gX10_advance_X10_byteAt rfl rfl rfl hdX10_byteAt ⟨Nat.le_of_ble_eq_true rfl, Nat.le_of_ble_eq_true rfl⟩) hK hP hD hS hA (q0 := 0) rfl rfl rfl hl.1 rfl (Nat.le_of_ble_eq_true rfl) dX10_advance_5 ⟨Nat.zero_le _, Nat.zero_le _⟩ (fun r5 H locs h1 hP hS => ?_)
  refine lv_bipush (v := 32) hx hb dX10_advance_8 rfl ?_
  refine lv_icmp_eq (tgt := 26) hx hb dX10_advance_10 (by decide) (fun c10 => ?_) (fun c10 => ?_)
  · replace h1 := Ok.pos c10 h1
    exact tX10_advance_b26 K E k0 hk0 u H locs ls (lv_sub hl [0] rfl) hP hD hS h1
  · replace h1 := Ok.neg c10 h1
    refine lv_aload_n hx hb dX10_advance_13 rfl (lv_at hl 0 rfl) ?_
    refine lv_aload_n hx hb dX10_advance_14 rfl (lv_at hl 0 rfl) ?_
    refine k_get (v := .int (mPo u)) (C := RX10) (T := TX10) (N := 23) hx hb hts inX10_advance_X10 hown hK hP 0 (wM_a0 _ _ _ _) rfl 13 (by decide) lkX10_advance_164 (mFs_13 _ _) dX10_advance_15 ?_
    refine kc_rV0 (b := h) (As := [.int (mPo u)]) (rest := []) h1 ⟨hx, hb, hml, hown, hts⟩ (cX10_byteAtM l D cy h a H.size u (mPo u)) (cwV 1 hts gX10_advance_X10_byteAt rfl rfl rfl hdX10_byteAt ⟨Nat.le_of_ble_eq_true rfl, Nat.le_of_ble_eq_true rfl⟩) hK hP hD hS hA (q0 := 0) rfl rfl rfl hl.1 rfl (Nat.le_of_ble_eq_true rfl) dX10_advance_18 ⟨Nat.zero_le _, Nat.zero_le _⟩ (fun r18 H locs h1 hP hS => ?_)
    refine lv_bipush (v := 10) hx hb dX10_advance_21 rfl ?_
    refine lv_icmp_ne (tgt := 39) hx hb dX10_advance_23 (by decide) (fun c23 => ?_) (fun c23 => ?_)
    · replace h1 := Ok.neg c23 h1
      refine lv_aload_n hx hb dX10_advance_39 rfl (lv_at hl 0 rfl) ?_
      refine lv_aload_n hx hb dX10_advance_40 rfl (lv_at hl 0 rfl) ?_
      refine k_get (v := .int (mPo u)) (C := RX10) (T := TX10) (N := 23) hx hb hts inX10_advance_X10 hown hK hP 0 (wM_a0 _ _ _ _) rfl 13 (by decide) lkX10_advance_164 (mFs_13 _ _) dX10_advance_41 ?_
      refine k_put (v := .int (mPo u)) (ty := .int) (C := RX10) (T := TX10) (N := 23) hx hb hts inX10_advance_X10 tyX10 tyX10_ok nmX10 hown hK hP hD hS 0 (wM_a0 _ _ _ _) rfl 14 (by decide) lkX10_advance_170 rfl (by decide +kernel) rfl rfl (Nat.le_of_ble_eq_true rfl) (ws' := wM cy h a (nTs u (mPo u))) (wM_nTs _ _ _ _ _) dX10_advance_44 (fun H locs hP hD hS => ?_)
      refine lv_aload_n hx hb dX10_advance_47 rfl (lv_at hl 0 rfl) ?_
      refine lv_iconst (v := 0) hx hb dX10_advance_48 rfl ?_
      refine k_put (v := .int 0) (ty := .int) (C := RX10) (T := TX10) (N := 23) hx hb hts inX10_advance_X10 tyX10 tyX10_ok nmX10 hown hK hP hD hS 0 (wM_a0 _ _ _ _) rfl 16 (by decide) lkX10_advance_173 rfl (by decide +kernel) rfl rfl (Nat.le_of_ble_eq_true rfl) (ws' := wM cy h a (nNu (nTs u (mPo u)) 0)) (wM_nNu _ _ _ _ _) dX10_advance_49 (fun H locs hP hD hS => ?_)
      refine lv_aload_n hx hb dX10_advance_52 rfl (lv_at hl 0 rfl) ?_
      refine k_get (v := .int (mPo (nNu (nTs u (mPo u)) 0))) (C := RX10) (T := TX10) (N := 23) hx hb hts inX10_advance_X10 hown hK hP 0 (wM_a0 _ _ _ _) rfl 13 (by decide) lkX10_advance_164 (mFs_13 _ _) dX10_advance_53 ?_
      refine lv_aload_n hx hb dX10_advance_56 rfl (lv_at hl 0 rfl) ?_
      refine k_get (v := .int (mTl (nNu (nTs u (mPo u)) 0))) (C := RX10) (T := TX10) (N := 23) hx hb hts inX10_advance_X10 hown hK hP 0 (wM_a0 _ _ _ _) rfl 12 (by decide) lkX10_advance_158 (mFs_12 _ _) dX10_advance_57 ?_
      refine lv_icmp_lt (tgt := 71) hx hb dX10_advance_60 (by decide) (fun c60 => ?_) (fun c60 => ?_)
      · replace h1 := Ok.pos c60 h1
        refine lv_aload_n hx hb dX10_advance_71 rfl (lv_at hl 0 rfl) ?_
        refine lv_aload_n hx hb dX10_advance_72 rfl (lv_at hl 0 rfl) ?_
        refine k_get (v := .int (mPo (nNu (nTs u (mPo u)) 0))) (C := RX10) (T := TX10) (N := 23) hx hb hts inX10_advance_X10 hown hK hP 0 (wM_a0 _ _ _ _) rfl 13 (by decide) lkX10_advance_164 (mFs_13 _ _) dX10_advance_73 ?_
        refine kc_rV0 (b := h) (As := [.int (mPo (nNu (nTs u (mPo u)) 0))]) (rest := []) h1 ⟨hx, hb, hml, hown, hts⟩ (cX10_byteAtM l D cy h a H.size (nNu (nTs u (mPo u)) 0) (mPo (nNu (nTs u (mPo u)) 0))) (cwV 1 hts gX10_advance_X10_byteAt rfl rfl rfl hdX10_byteAt ⟨Nat.le_of_ble_eq_true rfl, Nat.le_of_ble_eq_true rfl⟩) hK hP hD hS hA (q0 := 0) rfl rfl rfl hl.1 rfl (Nat.le_of_ble_eq_true rfl) dX10_advance_76 ⟨Nat.zero_le _, Nat.zero_le _⟩ (fun r76 H locs h1 hP hS => ?_)
        refine kc_rS (As := [.int r76]) (rest := []) (wc := []) (wr := _) h1 ⟨hx, hb, hml, hown, hts⟩ (cX10_isLetterM l D cy H.size r76) (va_cwS 1 hts gX10_advance_X10_isLetter rfl rfl rfl heX10_isLetter ⟨Nat.le_of_ble_eq_true rfl, Nat.le_of_ble_eq_true rfl⟩) hK (List.Perm.refl _) hP hD hS hA rfl hl.1 rfl (Nat.le_of_ble_eq_true rfl) dX10_advance_79 ⟨Nat.zero_le _, Nat.zero_le _⟩ (fun r79 H locs h1 hP hS => ?_)
        refine lv_if_eq (tgt := 117) hx hb dX10_advance_82 (by decide) (fun c82 => ?_) (fun c82 => ?_)
        · replace h1 := Ok.pos c82 h1
          refine lv_aload_n hx hb dX10_advance_117 rfl (lv_at hl 0 rfl) ?_
          refine lv_aload_n hx hb dX10_advance_118 rfl (lv_at hl 0 rfl) ?_
          refine k_get (v := .int (mPo (nNu (nTs u (mPo u)) 0))) (C := RX10) (T := TX10) (N := 23) hx hb hts inX10_advance_X10 hown hK hP 0 (wM_a0 _ _ _ _) rfl 13 (by decide) lkX10_advance_164 (mFs_13 _ _) dX10_advance_119 ?_
          refine kc_rV0 (b := h) (As := [.int (mPo (nNu (nTs u (mPo u)) 0))]) (rest := []) h1 ⟨hx, hb, hml, hown, hts⟩ (cX10_byteAtM l D cy h a H.size (nNu (nTs u (mPo u)) 0) (mPo (nNu (nTs u (mPo u)) 0))) (cwV 1 hts gX10_advance_X10_byteAt rfl rfl rfl hdX10_byteAt ⟨Nat.le_of_ble_eq_true rfl, Nat.le_of_ble_eq_true rfl⟩) hK hP hD hS hA (q0 := 0) rfl rfl rfl hl.1 rfl (Nat.le_of_ble_eq_true rfl) dX10_advance_122 ⟨Nat.zero_le _, Nat.zero_le _⟩ (fun r122 H locs h1 hP hS => ?_)
          refine kc_rS (As := [.int r122]) (rest := []) (wc := []) (wr := _) h1 ⟨hx, hb, hml, hown, hts⟩ (cX10_isDigitM l D cy H.size r122) (va_cwS 1 hts gX10_advance_X10_isDigit rfl rfl rfl heX10_isDigit ⟨Nat.le_of_ble_eq_true rfl, Nat.le_of_ble_eq_true rfl⟩) hK (List.Perm.refl _) hP hD hS hA rfl hl.1 rfl (Nat.le_of_ble_eq_true rfl) dX10_advance_125 ⟨Nat.zero_le _, Nat.zero_le _⟩ (fun r125 H locs h1 hP hS => ?_)
          refine lv_if_eq (tgt := 191) hx hb dX10_advance_128 (by decide) (fun c128 => ?_) (fun c128 => ?_)
          · replace h1 := Ok.pos c128 h1
            refine lv_aload_n hx hb dX10_advance_191 rfl (lv_at hl 0 rfl) ?_
            refine lv_aload_n hx hb dX10_advance_192 rfl (lv_at hl 0 rfl) ?_
            refine k_get (v := .int (mPo (nNu (nTs u (mPo u)) 0))) (C := RX10) (T := TX10) (N := 23) hx hb hts inX10_advance_X10 hown hK hP 0 (wM_a0 _ _ _ _) rfl 13 (by decide) lkX10_advance_164 (mFs_13 _ _) dX10_advance_193 ?_
            refine kc_rV0 (b := h) (As := [.int (mPo (nNu (nTs u (mPo u)) 0))]) (rest := []) h1 ⟨hx, hb, hml, hown, hts⟩ (cX10_byteAtM l D cy h a H.size (nNu (nTs u (mPo u)) 0) (mPo (nNu (nTs u (mPo u)) 0))) (cwV 1 hts gX10_advance_X10_byteAt rfl rfl rfl hdX10_byteAt ⟨Nat.le_of_ble_eq_true rfl, Nat.le_of_ble_eq_true rfl⟩) hK hP hD hS hA (q0 := 0) rfl rfl rfl hl.1 rfl (Nat.le_of_ble_eq_true rfl) dX10_advance_196 ⟨Nat.zero_le _, Nat.zero_le _⟩ (fun r196 H locs h1 hP hS => ?_)
            refine lv_istore_n (lv' := [(1, .int r196), (0, .ref h)]) hx hb dX10_advance_199 rfl hl (by decide) rfl (fun ls hl => ?_)
            refine lv_aload_n hx hb dX10_advance_200 rfl (lv_at hl 1 rfl) ?_
            refine lv_iload_n hx hb dX10_advance_201 rfl (lv_at hl 0 rfl) ?_
            refine lv_bipush (v := 59) hx hb dX10_advance_202 rfl ?_
            refine lv_icmp_ne (tgt := 211) hx hb dX10_advance_204 (by decide) (fun c204 => ?_) (fun c204 => ?_)
            · replace h1 := Ok.neg c204 h1
              refine lv_iload_n hx hb dX10_advance_211 rfl (lv_at hl 0 rfl) ?_
              refine lv_bipush (v := 45) hx hb dX10_advance_212 rfl ?_
              refine lv_icmp_ne (tgt := 221) hx hb dX10_advance_214 (by decide) (fun c214 => ?_) (fun c214 => ?_)
              · replace h1 := Ok.neg c214 h1
                refine lv_iconst (v := 5) hx hb dX10_advance_221 rfl ?_
                exact tX10_advance_b222 K E 5 (nNu (nTs u (mPo u)) 0) H locs ls (lv_sub hl [1] rfl) hP hD hS h1
              · replace h1 := Ok.pos c214 h1
                refine lv_iconst (v := 3) hx hb dX10_advance_217 rfl ?_
                refine lv_goto (tgt := 222) hx hb dX10_advance_218 (by decide) ?_
                exact tX10_advance_b222 K E 3 (nNu (nTs u (mPo u)) 0) H locs ls (lv_sub hl [1] rfl) hP hD hS h1
            · replace h1 := Ok.pos c204 h1
              refine lv_iconst (v := 4) hx hb dX10_advance_207 rfl ?_
              refine lv_goto (tgt := 222) hx hb dX10_advance_208 (by decide) ?_
              exact tX10_advance_b222 K E 4 (nNu (nTs u (mPo u)) 0) H locs ls (lv_sub hl [1] rfl) hP hD hS h1
          · replace h1 := Ok.neg c128 h1
            refine lv_aload_n hx hb dX10_advance_131 rfl (lv_at hl 0 rfl) ?_
            refine lv_iconst (v := 2) hx hb dX10_advance_132 rfl ?_
            refine k_put (v := .int 2) (ty := .int) (C := RX10) (T := TX10) (N := 23) hx hb hts inX10_advance_X10 tyX10 tyX10_ok nmX10 hown hK hP hD hS 0 (wM_a0 _ _ _ _) rfl 15 (by decide) lkX10_advance_176 rfl (by decide +kernel) rfl rfl (Nat.le_of_ble_eq_true rfl) (ws' := wM cy h a (nTo (nNu (nTs u (mPo u)) 0) 2)) (wM_nTo _ _ _ _ _) dX10_advance_133 (fun H locs hP hD hS => ?_)
            exact tX10_advance_l136 K E LF (nTo (nNu (nTs u (mPo u)) 0) 2) H locs ls (lv_sub hl [0] rfl) hP hD hS h1
        · replace h1 := Ok.neg c82 h1
          refine lv_aload_n hx hb dX10_advance_85 rfl (lv_at hl 0 rfl) ?_
          refine lv_iconst (v := 1) hx hb dX10_advance_86 rfl ?_
          refine k_put (v := .int 1) (ty := .int) (C := RX10) (T := TX10) (N := 23) hx hb hts inX10_advance_X10 tyX10 tyX10_ok nmX10 hown hK hP hD hS 0 (wM_a0 _ _ _ _) rfl 15 (by decide) lkX10_advance_176 rfl (by decide +kernel) rfl rfl (Nat.le_of_ble_eq_true rfl) (ws' := wM cy h a (nTo (nNu (nTs u (mPo u)) 0) 1)) (wM_nTo _ _ _ _ _) dX10_advance_87 (fun H locs hP hD hS => ?_)
          exact tX10_advance_l90 K E LF (nTo (nNu (nTs u (mPo u)) 0) 1) H locs ls (lv_sub hl [0] rfl) hP hD hS h1
      · replace h1 := Ok.neg c60 h1
        refine lv_aload_n hx hb dX10_advance_63 rfl (lv_at hl 0 rfl) ?_
        refine lv_iconst (v := 0) hx hb dX10_advance_64 rfl ?_
        refine k_put (v := .int 0) (ty := .int) (C := RX10) (T := TX10) (N := 23) hx hb hts inX10_advance_X10 tyX10 tyX10_ok nmX10 hown hK hP hD hS 0 (wM_a0 _ _ _ _) rfl 15 (by decide) lkX10_advance_176 rfl (by decide +kernel) rfl rfl (Nat.le_of_ble_eq_true rfl) (ws' := wM cy h a (nTo (nNu (nTs u (mPo u)) 0) 0)) (wM_nTo _ _ _ _ _) dX10_advance_65 (fun H locs hP hD hS => ?_)
        refine lv_goto (tgt := 235) hx hb dX10_advance_68 (by decide) ?_
        exact kret_v hx hb hr hlocks hP hD hS h1 dX10_advance_235
    · replace h1 := Ok.pos c23 h1
      exact tX10_advance_b26 K E k0 hk0 u H locs ls (lv_sub hl [0] rfl) hP hD hS h1
theorem tX10_advance_l0 {p : Program} {l : Launch} {e : Env} {s : State} {m : MethodId} {args : Array Value} {below : List Frame} {meth : Method} {c : Code} {D : va_G} {cy : Nat → ClassId} {A : Nat → Prop} {h : Nat} {a : Nat → Nat} (K : RS → Prop) (E : mE D cy RX10 cX10_advance 2 none wsX10_advance A p s m args meth c) : ∀ (n9 : Nat) (u : RS) (H : Heap) (locs : List Loc) (ls : Array Slot), lv_has ls 2 [(0, .ref h)] → va_P D vwCl (wM cy h a u) H → va_D A (wM cy h a u) → va_S A s.heap H locs → Ok (lop (fun y z => fX10_advance_b0 y z) n9 u) K → kW p l e rmX10_advance s m args below meth c H locs (va_Qv K (fun q => kPost D A (wM cy h a q)) A) A 0 ls [] := by
  intro n9
  induction n9 with
  | zero =>
    intro u H locs ls hl hP hD hS h1
    exact h1.no
  | succ n9 ih =>
    intro u H locs ls hl hP hD hS h1
    exact tX10_advance_b0 K E (lop (fun y z => fX10_advance_b0 y z) n9) (fun u H locs ls hl hP hD hS h1 => ih u H locs ls hl hP hD hS h1) u H locs ls hl hP hD hS h1
def fX10_advance (u : RS) : Option (RS) := lop (fun y z => fX10_advance_b0 y z) LF u
set_option maxHeartbeats 4000000 in
set_option maxRecDepth 100000 in
theorem cX10_advanceM (l : Launch) (D : va_G) (cy : Nat → ClassId) (h : Nat) (a : Nat → Nat) (sz : Nat) (u : RS) : ∀ (K : RS → Prop), Ok (fX10_advance u) K → Met l yX10_advance wsX10_advance rmX10_advance (va_Pc [.ref h] (kPre D cy sz (wM cy h a u))) (va_Qv K (fun q => kPost D (va_A (wM cy h a u) sz) (wM cy h a q)) (va_A (wM cy h a u) sz)) 0 0 (va_A (wM cy h a u) sz) := by
  intro K h1
  refine Met.ofW (cc := cX10_advance) (maxL := 2) (ret := none) (by decide) rfl ?_
  intro p e s m args below meth c s₁ B hml hv
  obtain ⟨rfl, hsz, hP, hK, hD0⟩ := hv
  subst hsz
  have E : mE D cy RX10 cX10_advance 2 none wsX10_advance (va_A (wM cy h a u) s.heap.size) p s m _ meth c := ⟨B.exec, B.bytes, B.returns, hml, findClass_of_methodNamed B.named, atoms_spec (ws := wsX10_advance) B.pre, B.notSynchronized, hK, fun q h => Or.inr h⟩
  have hl := lv_entry ([.ref h]) (n := 2) (Nat.le_of_ble_eq_true rfl)
  rw [lg_entry_eq]
  generalize (lg_sl ([.ref h]) ++ List.replicate (2 - (lg_sl ([.ref h])).length) Slot.unset).toArray = ls at hl ⊢
  exact tX10_advance_l0 K E LF u _ _ _ hl hP hD0.self va_S.rf h1
-- X10_isFine
theorem inX10_isFine_X10 : ∀ w ∈ u_ws RX10 TX10 23, w ∈ wsX10_isFine := k_lays 2 rfl
theorem lkX10_isFine_186 : Cond.fieldLink RX10 186 "FerryRampModel" "errorCode" "I" ∈ wsX10_isFine := List.mem_of_getElem? (i := 1) rfl
abbrev rmX10_isFine : Room := { frames := 0, cells := 0, slots := 0, locals := 0 }
def fX10_isFine_b0 (u : RS) : Option (Int32) :=
  (if (mEc u) = 0 then some 1 else some 0)
set_option maxHeartbeats 4000000 in
set_option maxRecDepth 100000 in
theorem tX10_isFine_b0 {p : Program} {l : Launch} {e : Env} {s : State} {m : MethodId} {args : Array Value} {below : List Frame} {meth : Method} {c : Code} {D : va_G} {cy : Nat → ClassId} {A : Nat → Prop} {h : Nat} {a : Nat → Nat} (K : Int32 → Prop) (E : mE D cy RX10 cX10_isFine 1 (some .boolean) wsX10_isFine A p s m args meth c) (u : RS)
     (H : Heap) (locs : List Loc) (ls : Array Slot) (hl : lv_has ls 1 [(0, .ref h)]) (hP : va_P D vwCl (wM cy h a u) H) (hD : va_D A (wM cy h a u)) (hS : va_S A s.heap H locs) (h1 : Ok (fX10_isFine_b0 u) K) :
    kW p l e rmX10_isFine s m args below meth c H locs (va_Qi (fun r (_ : Unit) => K r) (fun _ => kPost D A (wM cy h a u)) A) A 0 ls [] := by
  obtain ⟨hx, hb, hr, hml, hown, hts, hlocks, hK, hA⟩ := id E
  unfold fX10_isFine_b0 at h1
  refine lv_aload_n hx hb dX10_isFine_0 rfl (lv_at hl 0 rfl) ?_
  refine k_get (v := .int (mEc u)) (C := RX10) (T := TX10) (N := 23) hx hb hts inX10_isFine_X10 hown hK hP 0 (wM_a0 _ _ _ _) rfl 17 (by decide) lkX10_isFine_186 (mFs_17 _ _) dX10_isFine_1 ?_
  refine lv_if_ne (tgt := 11) hx hb dX10_isFine_4 (by decide) (fun c4 => ?_) (fun c4 => ?_)
  · replace h1 := Ok.neg c4 h1
    refine lv_iconst (v := 0) hx hb dX10_isFine_11 rfl ?_
    exact kret_rz hx hb hr rfl hlocks hP hD hS h1 dX10_isFine_12
  · replace h1 := Ok.pos c4 h1
    refine lv_iconst (v := 1) hx hb dX10_isFine_7 rfl ?_
    refine lv_goto (tgt := 12) hx hb dX10_isFine_8 (by decide) ?_
    exact kret_rz hx hb hr rfl hlocks hP hD hS h1 dX10_isFine_12
def fX10_isFine (u : RS) : Option (Int32) := fX10_isFine_b0 u
set_option maxHeartbeats 4000000 in
set_option maxRecDepth 100000 in
theorem cX10_isFineM (l : Launch) (D : va_G) (cy : Nat → ClassId) (h : Nat) (a : Nat → Nat) (sz : Nat) (u : RS) : ∀ (K : Int32 → Prop), Ok (fX10_isFine u) K → Met l yX10_isFine wsX10_isFine rmX10_isFine (va_Pc [.ref h] (kPre D cy sz (wM cy h a u))) (va_Qi (fun r (_ : Unit) => K r) (fun _ => kPost D (va_A (wM cy h a u) sz) (wM cy h a u)) (va_A (wM cy h a u) sz)) 0 0 (va_A (wM cy h a u) sz) := by
  intro K h1
  refine Met.ofW (cc := cX10_isFine) (maxL := 1) (ret := (some .boolean)) (by decide) rfl ?_
  intro p e s m args below meth c s₁ B hml hv
  obtain ⟨rfl, hsz, hP, hK, hD0⟩ := hv
  subst hsz
  have E : mE D cy RX10 cX10_isFine 1 (some .boolean) wsX10_isFine (va_A (wM cy h a u) s.heap.size) p s m _ meth c := ⟨B.exec, B.bytes, B.returns, hml, findClass_of_methodNamed B.named, atoms_spec (ws := wsX10_isFine) B.pre, B.notSynchronized, hK, fun q h => Or.inr h⟩
  have hl := lv_entry ([.ref h]) (n := 1) (Nat.le_of_ble_eq_true rfl)
  rw [lg_entry_eq]
  generalize (lg_sl ([.ref h]) ++ List.replicate (1 - (lg_sl ([.ref h])).length) Slot.unset).toArray = ls at hl ⊢
  exact tX10_isFine_b0 K E u _ _ _ hl hP hD0.self va_S.rf h1
-- X10_require
theorem inX10_require_X10 : ∀ w ∈ u_ws RX10 TX10 23, w ∈ wsX10_require := k_lays 4 rfl
theorem lkX10_require_186 : Cond.fieldLink RX10 186 "FerryRampModel" "errorCode" "I" ∈ wsX10_require := List.mem_of_getElem? (i := 1) rfl
theorem lkX10_require_170 : Cond.fieldLink RX10 170 "FerryRampModel" "tokenStart" "I" ∈ wsX10_require := List.mem_of_getElem? (i := 2) rfl
theorem lkX10_require_38 : Cond.fieldLink RX10 38 "FerryRampModel" "errorPosition" "I" ∈ wsX10_require := List.mem_of_getElem? (i := 3) rfl
abbrev rmX10_require : Room := { frames := 0, cells := 0, slots := 0, locals := 0 }
def fX10_require_b0 (x1 : Int32) (x2 : Int32) (u : RS) : Option (RS) :=
  (if x1 = 0 then (if (mEc u) = 0 then some (nEp (nEc u x2) (mTs (nEc u x2))) else some u) else some u)
set_option maxHeartbeats 4000000 in
set_option maxRecDepth 100000 in
theorem tX10_require_b0 {p : Program} {l : Launch} {e : Env} {s : State} {m : MethodId} {args : Array Value} {below : List Frame} {meth : Method} {c : Code} {D : va_G} {cy : Nat → ClassId} {A : Nat → Prop} {h : Nat} {a : Nat → Nat} (K : RS → Prop) (E : mE D cy RX10 cX10_require 3 none wsX10_require A p s m args meth c)
     (x1 : Int32) (x2 : Int32) (u : RS) (H : Heap) (locs : List Loc) (ls : Array Slot) (hl : lv_has ls 3 [(0, .ref h), (1, .int x1), (2, .int x2)]) (hP : va_P D vwCl (wM cy h a u) H) (hD : va_D A (wM cy h a u)) (hS : va_S A s.heap H locs) (h1 : Ok (fX10_require_b0 x1 x2 u) K) :
    kW p l e rmX10_require s m args below meth c H locs (va_Qv K (fun q => kPost D A (wM cy h a q)) A) A 0 ls [] := by
  obtain ⟨hx, hb, hr, hml, hown, hts, hlocks, hK, hA⟩ := id E
  unfold fX10_require_b0 at h1
  refine lv_iload_n hx hb dX10_require_0 rfl (lv_at hl 1 rfl) ?_
  refine lv_if_ne (tgt := 24) hx hb dX10_require_1 (by decide) (fun c1 => ?_) (fun c1 => ?_)
  · replace h1 := Ok.neg c1 h1
    exact kret_v hx hb hr hlocks hP hD hS h1 dX10_require_24
  · replace h1 := Ok.pos c1 h1
    refine lv_aload_n hx hb dX10_require_4 rfl (lv_at hl 0 rfl) ?_
    refine k_get (v := .int (mEc u)) (C := RX10) (T := TX10) (N := 23) hx hb hts inX10_require_X10 hown hK hP 0 (wM_a0 _ _ _ _) rfl 17 (by decide) lkX10_require_186 (mFs_17 _ _) dX10_require_5 ?_
    refine lv_if_ne (tgt := 24) hx hb dX10_require_8 (by decide) (fun c8 => ?_) (fun c8 => ?_)
    · replace h1 := Ok.neg c8 h1
      exact kret_v hx hb hr hlocks hP hD hS h1 dX10_require_24
    · replace h1 := Ok.pos c8 h1
      refine lv_aload_n hx hb dX10_require_11 rfl (lv_at hl 0 rfl) ?_
      refine lv_iload_n hx hb dX10_require_12 rfl (lv_at hl 2 rfl) ?_
      refine k_put (v := .int x2) (ty := .int) (C := RX10) (T := TX10) (N := 23) hx hb hts inX10_require_X10 tyX10 tyX10_ok nmX10 hown hK hP hD hS 0 (wM_a0 _ _ _ _) rfl 17 (by decide) lkX10_require_186 rfl (by decide +kernel) rfl rfl (Nat.le_of_ble_eq_true rfl) (ws' := wM cy h a (nEc u x2)) (wM_nEc _ _ _ _ _) dX10_require_13 (fun H locs hP hD hS => ?_)
      refine lv_aload_n hx hb dX10_require_16 rfl (lv_at hl 0 rfl) ?_
      refine lv_aload_n hx hb dX10_require_17 rfl (lv_at hl 0 rfl) ?_
      refine k_get (v := .int (mTs (nEc u x2))) (C := RX10) (T := TX10) (N := 23) hx hb hts inX10_require_X10 hown hK hP 0 (wM_a0 _ _ _ _) rfl 14 (by decide) lkX10_require_170 (mFs_14 _ _) dX10_require_18 ?_
      refine k_put (v := .int (mTs (nEc u x2))) (ty := .int) (C := RX10) (T := TX10) (N := 23) hx hb hts inX10_require_X10 tyX10 tyX10_ok nmX10 hown hK hP hD hS 0 (wM_a0 _ _ _ _) rfl 18 (by decide) lkX10_require_38 rfl (by decide +kernel) rfl rfl (Nat.le_of_ble_eq_true rfl) (ws' := wM cy h a (nEp (nEc u x2) (mTs (nEc u x2)))) (wM_nEp _ _ _ _ _) dX10_require_21 (fun H locs hP hD hS => ?_)
      exact kret_v hx hb hr hlocks hP hD hS h1 dX10_require_24
def fX10_require (p1 : Int32) (p2 : Int32) (u : RS) : Option (RS) := fX10_require_b0 p1 p2 u
set_option maxHeartbeats 4000000 in
set_option maxRecDepth 100000 in
theorem cX10_requireM (l : Launch) (D : va_G) (cy : Nat → ClassId) (h : Nat) (a : Nat → Nat) (sz : Nat) (u : RS) (p1 : Int32) (p2 : Int32) : ∀ (K : RS → Prop), Ok (fX10_require p1 p2 u) K → Met l yX10_require wsX10_require rmX10_require (va_Pc [.ref h, .int p1, .int p2] (kPre D cy sz (wM cy h a u))) (va_Qv K (fun q => kPost D (va_A (wM cy h a u) sz) (wM cy h a q)) (va_A (wM cy h a u) sz)) 0 0 (va_A (wM cy h a u) sz) := by
  intro K h1
  refine Met.ofW (cc := cX10_require) (maxL := 3) (ret := none) (by decide) rfl ?_
  intro p e s m args below meth c s₁ B hml hv
  obtain ⟨rfl, hsz, hP, hK, hD0⟩ := hv
  subst hsz
  have E : mE D cy RX10 cX10_require 3 none wsX10_require (va_A (wM cy h a u) s.heap.size) p s m _ meth c := ⟨B.exec, B.bytes, B.returns, hml, findClass_of_methodNamed B.named, atoms_spec (ws := wsX10_require) B.pre, B.notSynchronized, hK, fun q h => Or.inr h⟩
  have hl := lv_entry ([.ref h, .int p1, .int p2]) (n := 3) (Nat.le_of_ble_eq_true rfl)
  rw [lg_entry_eq]
  generalize (lg_sl ([.ref h, .int p1, .int p2]) ++ List.replicate (3 - (lg_sl ([.ref h, .int p1, .int p2])).length) Slot.unset).toArray = ls at hl ⊢
  exact tX10_require_b0 K E p1 p2 u _ _ _ hl hP hD0.self va_S.rf h1
-- X10_proceed
theorem hdX10_isFine : yX10_isFine.cls = RX10 ∧ yX10_isFine.cls ≠ "java/lang/invoke/MethodHandle" ∧ yX10_isFine.cls ≠ "java/lang/invoke/VarHandle" ∧ (parseMethodDescriptor yX10_isFine.desc).map (fun d => d.parameters.length) = some 0 := by decide +kernel
theorem hdX10_advance : yX10_advance.cls = RX10 ∧ yX10_advance.cls ≠ "java/lang/invoke/MethodHandle" ∧ yX10_advance.cls ≠ "java/lang/invoke/VarHandle" ∧ (parseMethodDescriptor yX10_advance.desc).map (fun d => d.parameters.length) = some 0 := by decide +kernel
abbrev rmX10_proceed : Room := { frames := 2, cells := 0, slots := 0, locals := 61 }
def fX10_proceed_b0 (u : RS) : Option (RS) :=
  bnd (fX10_isFine u) (fun r1 => (if r1 = 0 then some u else bnd (fX10_advance u) (fun u8 => some u8)))
set_option maxHeartbeats 4000000 in
set_option maxRecDepth 100000 in
theorem tX10_proceed_b0 {p : Program} {l : Launch} {e : Env} {s : State} {m : MethodId} {args : Array Value} {below : List Frame} {meth : Method} {c : Code} {D : va_G} {cy : Nat → ClassId} {A : Nat → Prop} {h : Nat} {a : Nat → Nat} (K : RS → Prop) (E : mE D cy RX10 cX10_proceed 1 none wsX10_proceed A p s m args meth c)
     (u : RS) (H : Heap) (locs : List Loc) (ls : Array Slot) (hl : lv_has ls 1 [(0, .ref h)]) (hP : va_P D vwCl (wM cy h a u) H) (hD : va_D A (wM cy h a u)) (hS : va_S A s.heap H locs) (h1 : Ok (fX10_proceed_b0 u) K) :
    kW p l e rmX10_proceed s m args below meth c H locs (va_Qv K (fun q => kPost D A (wM cy h a q)) A) A 0 ls [] := by
  obtain ⟨hx, hb, hr, hml, hown, hts, hlocks, hK, hA⟩ := id E
  unfold fX10_proceed_b0 at h1
  refine lv_aload_n hx hb dX10_proceed_0 rfl (lv_at hl 0 rfl) ?_
  refine kc_rV0 (b := h) (As := []) (rest := []) h1 ⟨hx, hb, hml, hown, hts⟩ (cX10_isFineM l D cy h a H.size u) (cwV 0 hts gX10_proceed_X10_isFine rfl rfl rfl hdX10_isFine ⟨Nat.le_of_ble_eq_true rfl, Nat.le_of_ble_eq_true rfl⟩) hK hP hD hS hA (q0 := 0) rfl rfl rfl hl.1 rfl (Nat.le_of_ble_eq_true rfl) dX10_proceed_1 ⟨Nat.zero_le _, Nat.zero_le _⟩ (fun r1 H locs h1 hP hS => ?_)
  refine lv_if_eq (tgt := 11) hx hb dX10_proceed_4 (by decide) (fun c4 => ?_) (fun c4 => ?_)
  · replace h1 := Ok.pos c4 h1
    exact kret_v hx hb hr hlocks hP hD hS h1 dX10_proceed_11
  · replace h1 := Ok.neg c4 h1
    refine lv_aload_n hx hb dX10_proceed_7 rfl (lv_at hl 0 rfl) ?_
    refine kc_vV0 (b := h) (As := []) (rest := []) h1 ⟨hx, hb, hml, hown, hts⟩ (cX10_advanceM l D cy h a H.size u) (cwV 0 hts gX10_proceed_X10_advance rfl rfl rfl hdX10_advance ⟨Nat.le_of_ble_eq_true rfl, Nat.le_of_ble_eq_true rfl⟩) hK hP hD hS hA (q0 := 0) rfl rfl rfl hl.1 rfl (Nat.le_of_ble_eq_true rfl) dX10_proceed_8 ⟨Nat.zero_le _, Nat.zero_le _⟩ (fun u8 H locs h1 hP hD hS => ?_)
    exact kret_v hx hb hr hlocks hP hD hS h1 dX10_proceed_11
def fX10_proceed (u : RS) : Option (RS) := fX10_proceed_b0 u
set_option maxHeartbeats 4000000 in
set_option maxRecDepth 100000 in
theorem cX10_proceedM (l : Launch) (D : va_G) (cy : Nat → ClassId) (h : Nat) (a : Nat → Nat) (sz : Nat) (u : RS) : ∀ (K : RS → Prop), Ok (fX10_proceed u) K → Met l yX10_proceed wsX10_proceed rmX10_proceed (va_Pc [.ref h] (kPre D cy sz (wM cy h a u))) (va_Qv K (fun q => kPost D (va_A (wM cy h a u) sz) (wM cy h a q)) (va_A (wM cy h a u) sz)) 0 0 (va_A (wM cy h a u) sz) := by
  intro K h1
  refine Met.ofW (cc := cX10_proceed) (maxL := 1) (ret := none) (by decide) rfl ?_
  intro p e s m args below meth c s₁ B hml hv
  obtain ⟨rfl, hsz, hP, hK, hD0⟩ := hv
  subst hsz
  have E : mE D cy RX10 cX10_proceed 1 none wsX10_proceed (va_A (wM cy h a u) s.heap.size) p s m _ meth c := ⟨B.exec, B.bytes, B.returns, hml, findClass_of_methodNamed B.named, atoms_spec (ws := wsX10_proceed) B.pre, B.notSynchronized, hK, fun q h => Or.inr h⟩
  have hl := lv_entry ([.ref h]) (n := 1) (Nat.le_of_ble_eq_true rfl)
  rw [lg_entry_eq]
  generalize (lg_sl ([.ref h]) ++ List.replicate (1 - (lg_sl ([.ref h])).length) Slot.unset).toArray = ls at hl ⊢
  exact tX10_proceed_b0 K E u _ _ _ hl hP hD0.self va_S.rf h1
-- X10_parseEnd
theorem inX10_parseEnd_X10 : ∀ w ∈ u_ws RX10 TX10 23, w ∈ wsX10_parseEnd := k_lays 41 rfl
theorem lkX10_parseEnd_176 : Cond.fieldLink RX10 176 "FerryRampModel" "token" "I" ∈ wsX10_parseEnd := List.mem_of_getElem? (i := 1) rfl
theorem hdX10_require : yX10_require.cls = RX10 ∧ yX10_require.cls ≠ "java/lang/invoke/MethodHandle" ∧ yX10_require.cls ≠ "java/lang/invoke/VarHandle" ∧ (parseMethodDescriptor yX10_require.desc).map (fun d => d.parameters.length) = some 2 := by decide +kernel
theorem hdX10_proceed : yX10_proceed.cls = RX10 ∧ yX10_proceed.cls ≠ "java/lang/invoke/MethodHandle" ∧ yX10_proceed.cls ≠ "java/lang/invoke/VarHandle" ∧ (parseMethodDescriptor yX10_proceed.desc).map (fun d => d.parameters.length) = some 0 := by decide +kernel
abbrev rmX10_parseEnd : Room := { frames := 3, cells := 0, slots := 0, locals := 81 }
def fX10_parseEnd_b14 (s1 : Int32) (u : RS) : Option (RS) :=
  bnd (fX10_require s1 1 u) (fun u15 => bnd (fX10_proceed u15) (fun u19 => some u19))
set_option maxHeartbeats 4000000 in
set_option maxRecDepth 100000 in
theorem tX10_parseEnd_b14 {p : Program} {l : Launch} {e : Env} {s : State} {m : MethodId} {args : Array Value} {below : List Frame} {meth : Method} {c : Code} {D : va_G} {cy : Nat → ClassId} {A : Nat → Prop} {h : Nat} {a : Nat → Nat} (K : RS → Prop) (E : mE D cy RX10 cX10_parseEnd 1 none wsX10_parseEnd A p s m args meth c)
     (s1 : Int32) (u : RS) (H : Heap) (locs : List Loc) (ls : Array Slot) (hl : lv_has ls 1 [(0, .ref h)]) (hP : va_P D vwCl (wM cy h a u) H) (hD : va_D A (wM cy h a u)) (hS : va_S A s.heap H locs) (h1 : Ok (fX10_parseEnd_b14 s1 u) K) :
    kW p l e rmX10_parseEnd s m args below meth c H locs (va_Qv K (fun q => kPost D A (wM cy h a q)) A) A 14 ls [.int s1, .ref h] := by
  obtain ⟨hx, hb, hr, hml, hown, hts, hlocks, hK, hA⟩ := id E
  unfold fX10_parseEnd_b14 at h1
  refine lv_iconst (v := 1) hx hb dX10_parseEnd_14 rfl ?_
  refine kc_vV0 (b := h) (As := [.int s1, .int 1]) (rest := []) h1 ⟨hx, hb, hml, hown, hts⟩ (cX10_requireM l D cy h a H.size u s1 1) (cwV 2 hts gX10_parseEnd_X10_require rfl rfl rfl hdX10_require ⟨Nat.le_of_ble_eq_true rfl, Nat.le_of_ble_eq_true rfl⟩) hK hP hD hS hA (q0 := 0) rfl rfl rfl hl.1 rfl (Nat.le_of_ble_eq_true rfl) dX10_parseEnd_15 ⟨Nat.zero_le _, Nat.zero_le _⟩ (fun u15 H locs h1 hP hD hS => ?_)
  refine lv_aload_n hx hb dX10_parseEnd_18 rfl (lv_at hl 0 rfl) ?_
  refine kc_vV0 (b := h) (As := []) (rest := []) h1 ⟨hx, hb, hml, hown, hts⟩ (cX10_proceedM l D cy h a H.size u15) (cwV 0 hts gX10_parseEnd_X10_proceed rfl rfl rfl hdX10_proceed ⟨Nat.le_of_ble_eq_true rfl, Nat.le_of_ble_eq_true rfl⟩) hK hP hD hS hA (q0 := 0) rfl rfl rfl hl.1 rfl (Nat.le_of_ble_eq_true rfl) dX10_parseEnd_19 ⟨Nat.zero_le _, Nat.zero_le _⟩ (fun u19 H locs h1 hP hD hS => ?_)
  exact kret_v hx hb hr hlocks hP hD hS h1 dX10_parseEnd_22
def fX10_parseEnd_b0 (u : RS) : Option (RS) :=
  (if (mTo u) = 4 then fX10_parseEnd_b14 1 u else fX10_parseEnd_b14 0 u)
set_option maxHeartbeats 4000000 in
set_option maxRecDepth 100000 in
theorem tX10_parseEnd_b0 {p : Program} {l : Launch} {e : Env} {s : State} {m : MethodId} {args : Array Value} {below : List Frame} {meth : Method} {c : Code} {D : va_G} {cy : Nat → ClassId} {A : Nat → Prop} {h : Nat} {a : Nat → Nat} (K : RS → Prop) (E : mE D cy RX10 cX10_parseEnd 1 none wsX10_parseEnd A p s m args meth c)
     (u : RS) (H : Heap) (locs : List Loc) (ls : Array Slot) (hl : lv_has ls 1 [(0, .ref h)]) (hP : va_P D vwCl (wM cy h a u) H) (hD : va_D A (wM cy h a u)) (hS : va_S A s.heap H locs) (h1 : Ok (fX10_parseEnd_b0 u) K) :
    kW p l e rmX10_parseEnd s m args below meth c H locs (va_Qv K (fun q => kPost D A (wM cy h a q)) A) A 0 ls [] := by
  obtain ⟨hx, hb, hr, hml, hown, hts, hlocks, hK, hA⟩ := id E
  unfold fX10_parseEnd_b0 at h1
  refine lv_aload_n hx hb dX10_parseEnd_0 rfl (lv_at hl 0 rfl) ?_
  refine lv_aload_n hx hb dX10_parseEnd_1 rfl (lv_at hl 0 rfl) ?_
  refine k_get (v := .int (mTo u)) (C := RX10) (T := TX10) (N := 23) hx hb hts inX10_parseEnd_X10 hown hK hP 0 (wM_a0 _ _ _ _) rfl 15 (by decide) lkX10_parseEnd_176 (mFs_15 _ _) dX10_parseEnd_2 ?_
  refine lv_iconst (v := 4) hx hb dX10_parseEnd_5 rfl ?_
  refine lv_icmp_ne (tgt := 13) hx hb dX10_parseEnd_6 (by decide) (fun c6 => ?_) (fun c6 => ?_)
  · replace h1 := Ok.neg c6 h1
    refine lv_iconst (v := 0) hx hb dX10_parseEnd_13 rfl ?_
    exact tX10_parseEnd_b14 K E 0 u H locs ls (lv_sub hl [0] rfl) hP hD hS h1
  · replace h1 := Ok.pos c6 h1
    refine lv_iconst (v := 1) hx hb dX10_parseEnd_9 rfl ?_
    refine lv_goto (tgt := 14) hx hb dX10_parseEnd_10 (by decide) ?_
    exact tX10_parseEnd_b14 K E 1 u H locs ls (lv_sub hl [0] rfl) hP hD hS h1
def fX10_parseEnd (u : RS) : Option (RS) := fX10_parseEnd_b0 u
set_option maxHeartbeats 4000000 in
set_option maxRecDepth 100000 in
theorem cX10_parseEndM (l : Launch) (D : va_G) (cy : Nat → ClassId) (h : Nat) (a : Nat → Nat) (sz : Nat) (u : RS) : ∀ (K : RS → Prop), Ok (fX10_parseEnd u) K → Met l yX10_parseEnd wsX10_parseEnd rmX10_parseEnd (va_Pc [.ref h] (kPre D cy sz (wM cy h a u))) (va_Qv K (fun q => kPost D (va_A (wM cy h a u) sz) (wM cy h a q)) (va_A (wM cy h a u) sz)) 0 0 (va_A (wM cy h a u) sz) := by
  intro K h1
  refine Met.ofW (cc := cX10_parseEnd) (maxL := 1) (ret := none) (by decide) rfl ?_
  intro p e s m args below meth c s₁ B hml hv
  obtain ⟨rfl, hsz, hP, hK, hD0⟩ := hv
  subst hsz
  have E : mE D cy RX10 cX10_parseEnd 1 none wsX10_parseEnd (va_A (wM cy h a u) s.heap.size) p s m _ meth c := ⟨B.exec, B.bytes, B.returns, hml, findClass_of_methodNamed B.named, atoms_spec (ws := wsX10_parseEnd) B.pre, B.notSynchronized, hK, fun q h => Or.inr h⟩
  have hl := lv_entry ([.ref h]) (n := 1) (Nat.le_of_ble_eq_true rfl)
  rw [lg_entry_eq]
  generalize (lg_sl ([.ref h]) ++ List.replicate (1 - (lg_sl ([.ref h])).length) Slot.unset).toArray = ls at hl ⊢
  exact tX10_parseEnd_b0 K E u _ _ _ hl hP hD0.self va_S.rf h1
-- X10_look
theorem inX10_look_X10 : ∀ w ∈ u_ws RX10 TX10 23, w ∈ wsX10_look := k_lays 18 rfl
theorem lkX10_look_176 : Cond.fieldLink RX10 176 "FerryRampModel" "token" "I" ∈ wsX10_look := List.mem_of_getElem? (i := 1) rfl
theorem lkX10_look_173 : Cond.fieldLink RX10 173 "FerryRampModel" "number" "I" ∈ wsX10_look := List.mem_of_getElem? (i := 2) rfl
abbrev rmX10_look : Room := { frames := 1, cells := 0, slots := 0, locals := 22 }
def fX10_look_b14 (x1 : Int32) (x2 : Int32) (s1 : Int32) (u : RS) : Option (Int32 × RS) :=
  bnd (fX10_require s1 1 u) (fun u15 => bnd (fX10_isBetween (mNu u15) x1 x2) (fun r25 => bnd (fX10_require r25 2 u15) (fun u29 => bnd (fX10_isFine u29) (fun r33 => (if r33 = 0 then some (x1, u29) else some (mNu u29, u29))))))
set_option maxHeartbeats 4000000 in
set_option maxRecDepth 100000 in
theorem tX10_look_b14 {p : Program} {l : Launch} {e : Env} {s : State} {m : MethodId} {args : Array Value} {below : List Frame} {meth : Method} {c : Code} {D : va_G} {cy : Nat → ClassId} {A : Nat → Prop} {h : Nat} {a : Nat → Nat} (K : Int32 × RS → Prop) (E : mE D cy RX10 cX10_look 3 (some .int) wsX10_look A p s m args meth c)
     (x1 : Int32) (x2 : Int32) (s1 : Int32) (u : RS) (H : Heap) (locs : List Loc) (ls : Array Slot) (hl : lv_has ls 3 [(0, .ref h), (1, .int x1), (2, .int x2)]) (hP : va_P D vwCl (wM cy h a u) H) (hD : va_D A (wM cy h a u)) (hS : va_S A s.heap H locs) (h1 : Ok (fX10_look_b14 x1 x2 s1 u) K) :
    kW p l e rmX10_look s m args below meth c H locs (va_Qi (fun r q => K (r, q)) (fun q => kPost D A (wM cy h a q)) A) A 14 ls [.int s1, .ref h] := by
  obtain ⟨hx, hb, hr, hml, hown, hts, hlocks, hK, hA⟩ := id E
  unfold fX10_look_b14 at h1
  refine lv_iconst (v := 1) hx hb dX10_look_14 rfl ?_
  refine kc_vV0 (b := h) (As := [.int s1, .int 1]) (rest := []) h1 ⟨hx, hb, hml, hown, hts⟩ (cX10_requireM l D cy h a H.size u s1 1) (cwV 2 hts gX10_look_X10_require rfl rfl rfl hdX10_require ⟨Nat.le_of_ble_eq_true rfl, Nat.le_of_ble_eq_true rfl⟩) hK hP hD hS hA (q0 := 0) rfl rfl rfl hl.1 rfl (Nat.le_of_ble_eq_true rfl) dX10_look_15 ⟨Nat.zero_le _, Nat.zero_le _⟩ (fun u15 H locs h1 hP hD hS => ?_)
  refine lv_aload_n hx hb dX10_look_18 rfl (lv_at hl 0 rfl) ?_
  refine lv_aload_n hx hb dX10_look_19 rfl (lv_at hl 0 rfl) ?_
  refine k_get (v := .int (mNu u15)) (C := RX10) (T := TX10) (N := 23) hx hb hts inX10_look_X10 hown hK hP 0 (wM_a0 _ _ _ _) rfl 16 (by decide) lkX10_look_173 (mFs_16 _ _) dX10_look_20 ?_
  refine lv_iload_n hx hb dX10_look_23 rfl (lv_at hl 1 rfl) ?_
  refine lv_iload_n hx hb dX10_look_24 rfl (lv_at hl 2 rfl) ?_
  refine kc_rS (As := [.int (mNu u15), .int x1, .int x2]) (rest := [.ref h]) (wc := []) (wr := _) h1 ⟨hx, hb, hml, hown, hts⟩ (cX10_isBetweenM l D cy H.size (mNu u15) x1 x2) (va_cwS 3 hts gX10_look_X10_isBetween rfl rfl rfl heX10_isBetween ⟨Nat.le_of_ble_eq_true rfl, Nat.le_of_ble_eq_true rfl⟩) hK (List.Perm.refl _) hP hD hS hA rfl hl.1 rfl (Nat.le_of_ble_eq_true rfl) dX10_look_25 ⟨Nat.zero_le _, Nat.zero_le _⟩ (fun r25 H locs h1 hP hS => ?_)
  refine lv_iconst (v := 2) hx hb dX10_look_28 rfl ?_
  refine kc_vV0 (b := h) (As := [.int r25, .int 2]) (rest := []) h1 ⟨hx, hb, hml, hown, hts⟩ (cX10_requireM l D cy h a H.size u15 r25 2) (cwV 2 hts gX10_look_X10_require rfl rfl rfl hdX10_require ⟨Nat.le_of_ble_eq_true rfl, Nat.le_of_ble_eq_true rfl⟩) hK hP hD hS hA (q0 := 0) rfl rfl rfl hl.1 rfl (Nat.le_of_ble_eq_true rfl) dX10_look_29 ⟨Nat.zero_le _, Nat.zero_le _⟩ (fun u29 H locs h1 hP hD hS => ?_)
  refine lv_aload_n hx hb dX10_look_32 rfl (lv_at hl 0 rfl) ?_
  refine kc_rV0 (b := h) (As := []) (rest := []) h1 ⟨hx, hb, hml, hown, hts⟩ (cX10_isFineM l D cy h a H.size u29) (cwV 0 hts gX10_look_X10_isFine rfl rfl rfl hdX10_isFine ⟨Nat.le_of_ble_eq_true rfl, Nat.le_of_ble_eq_true rfl⟩) hK hP hD hS hA (q0 := 0) rfl rfl rfl hl.1 rfl (Nat.le_of_ble_eq_true rfl) dX10_look_33 ⟨Nat.zero_le _, Nat.zero_le _⟩ (fun r33 H locs h1 hP hS => ?_)
  refine lv_if_eq (tgt := 46) hx hb dX10_look_36 (by decide) (fun c36 => ?_) (fun c36 => ?_)
  · replace h1 := Ok.pos c36 h1
    refine lv_iload_n hx hb dX10_look_46 rfl (lv_at hl 1 rfl) ?_
    exact kret_i hx hb hr hlocks hP hD hS h1 dX10_look_47
  · replace h1 := Ok.neg c36 h1
    refine lv_aload_n hx hb dX10_look_39 rfl (lv_at hl 0 rfl) ?_
    refine k_get (v := .int (mNu u29)) (C := RX10) (T := TX10) (N := 23) hx hb hts inX10_look_X10 hown hK hP 0 (wM_a0 _ _ _ _) rfl 16 (by decide) lkX10_look_173 (mFs_16 _ _) dX10_look_40 ?_
    refine lv_goto (tgt := 47) hx hb dX10_look_43 (by decide) ?_
    exact kret_i hx hb hr hlocks hP hD hS h1 dX10_look_47
def fX10_look_b0 (x1 : Int32) (x2 : Int32) (u : RS) : Option (Int32 × RS) :=
  (if (mTo u) = 2 then fX10_look_b14 x1 x2 1 u else fX10_look_b14 x1 x2 0 u)
set_option maxHeartbeats 4000000 in
set_option maxRecDepth 100000 in
theorem tX10_look_b0 {p : Program} {l : Launch} {e : Env} {s : State} {m : MethodId} {args : Array Value} {below : List Frame} {meth : Method} {c : Code} {D : va_G} {cy : Nat → ClassId} {A : Nat → Prop} {h : Nat} {a : Nat → Nat} (K : Int32 × RS → Prop) (E : mE D cy RX10 cX10_look 3 (some .int) wsX10_look A p s m args meth c)
     (x1 : Int32) (x2 : Int32) (u : RS) (H : Heap) (locs : List Loc) (ls : Array Slot) (hl : lv_has ls 3 [(0, .ref h), (1, .int x1), (2, .int x2)]) (hP : va_P D vwCl (wM cy h a u) H) (hD : va_D A (wM cy h a u)) (hS : va_S A s.heap H locs) (h1 : Ok (fX10_look_b0 x1 x2 u) K) :
    kW p l e rmX10_look s m args below meth c H locs (va_Qi (fun r q => K (r, q)) (fun q => kPost D A (wM cy h a q)) A) A 0 ls [] := by
  obtain ⟨hx, hb, hr, hml, hown, hts, hlocks, hK, hA⟩ := id E
  unfold fX10_look_b0 at h1
  refine lv_aload_n hx hb dX10_look_0 rfl (lv_at hl 0 rfl) ?_
  refine lv_aload_n hx hb dX10_look_1 rfl (lv_at hl 0 rfl) ?_
  refine k_get (v := .int (mTo u)) (C := RX10) (T := TX10) (N := 23) hx hb hts inX10_look_X10 hown hK hP 0 (wM_a0 _ _ _ _) rfl 15 (by decide) lkX10_look_176 (mFs_15 _ _) dX10_look_2 ?_
  refine lv_iconst (v := 2) hx hb dX10_look_5 rfl ?_
  refine lv_icmp_ne (tgt := 13) hx hb dX10_look_6 (by decide) (fun c6 => ?_) (fun c6 => ?_)
  · replace h1 := Ok.neg c6 h1
    refine lv_iconst (v := 0) hx hb dX10_look_13 rfl ?_
    exact tX10_look_b14 K E x1 x2 0 u H locs ls (lv_sub hl [0, 1, 2] rfl) hP hD hS h1
  · replace h1 := Ok.pos c6 h1
    refine lv_iconst (v := 1) hx hb dX10_look_9 rfl ?_
    refine lv_goto (tgt := 14) hx hb dX10_look_10 (by decide) ?_
    exact tX10_look_b14 K E x1 x2 1 u H locs ls (lv_sub hl [0, 1, 2] rfl) hP hD hS h1
def fX10_look (p1 : Int32) (p2 : Int32) (u : RS) : Option (Int32 × RS) := fX10_look_b0 p1 p2 u
set_option maxHeartbeats 4000000 in
set_option maxRecDepth 100000 in
theorem cX10_lookM (l : Launch) (D : va_G) (cy : Nat → ClassId) (h : Nat) (a : Nat → Nat) (sz : Nat) (u : RS) (p1 : Int32) (p2 : Int32) : ∀ (K : Int32 → RS → Prop), Ok (fX10_look p1 p2 u) (fun q => K q.1 q.2) → Met l yX10_look wsX10_look rmX10_look (va_Pc [.ref h, .int p1, .int p2] (kPre D cy sz (wM cy h a u))) (va_Qi K (fun q => kPost D (va_A (wM cy h a u) sz) (wM cy h a q)) (va_A (wM cy h a u) sz)) 0 0 (va_A (wM cy h a u) sz) := by
  intro K h1
  refine Met.ofW (cc := cX10_look) (maxL := 3) (ret := (some .int)) (by decide) rfl ?_
  intro p e s m args below meth c s₁ B hml hv
  obtain ⟨rfl, hsz, hP, hK, hD0⟩ := hv
  subst hsz
  have E : mE D cy RX10 cX10_look 3 (some .int) wsX10_look (va_A (wM cy h a u) s.heap.size) p s m _ meth c := ⟨B.exec, B.bytes, B.returns, hml, findClass_of_methodNamed B.named, atoms_spec (ws := wsX10_look) B.pre, B.notSynchronized, hK, fun q h => Or.inr h⟩
  have hl := lv_entry ([.ref h, .int p1, .int p2]) (n := 3) (Nat.le_of_ble_eq_true rfl)
  rw [lg_entry_eq]
  generalize (lg_sl ([.ref h, .int p1, .int p2]) ++ List.replicate (3 - (lg_sl ([.ref h, .int p1, .int p2])).length) Slot.unset).toArray = ls at hl ⊢
  exact tX10_look_b0 (fun q => K q.1 q.2) E p1 p2 u _ _ _ hl hP hD0.self va_S.rf h1
-- X10_parseNumber
theorem hdX10_look : yX10_look.cls = RX10 ∧ yX10_look.cls ≠ "java/lang/invoke/MethodHandle" ∧ yX10_look.cls ≠ "java/lang/invoke/VarHandle" ∧ (parseMethodDescriptor yX10_look.desc).map (fun d => d.parameters.length) = some 2 := by decide +kernel
abbrev rmX10_parseNumber : Room := { frames := 3, cells := 0, slots := 0, locals := 81 }
def fX10_parseNumber_b0 (x1 : Int32) (x2 : Int32) (u : RS) : Option (Int32 × RS) :=
  bnd2 (fX10_look x1 x2 u) (fun r3 u3 => bnd (fX10_proceed u3) (fun u8 => some (r3, u8)))
set_option maxHeartbeats 4000000 in
set_option maxRecDepth 100000 in
theorem tX10_parseNumber_b0 {p : Program} {l : Launch} {e : Env} {s : State} {m : MethodId} {args : Array Value} {below : List Frame} {meth : Method} {c : Code} {D : va_G} {cy : Nat → ClassId} {A : Nat → Prop} {h : Nat} {a : Nat → Nat} (K : Int32 × RS → Prop) (E : mE D cy RX10 cX10_parseNumber 4 (some .int) wsX10_parseNumber A p s m args meth c)
     (x1 : Int32) (x2 : Int32) (u : RS) (H : Heap) (locs : List Loc) (ls : Array Slot) (hl : lv_has ls 4 [(0, .ref h), (1, .int x1), (2, .int x2)]) (hP : va_P D vwCl (wM cy h a u) H) (hD : va_D A (wM cy h a u)) (hS : va_S A s.heap H locs) (h1 : Ok (fX10_parseNumber_b0 x1 x2 u) K) :
    kW p l e rmX10_parseNumber s m args below meth c H locs (va_Qi (fun r q => K (r, q)) (fun q => kPost D A (wM cy h a q)) A) A 0 ls [] := by
  obtain ⟨hx, hb, hr, hml, hown, hts, hlocks, hK, hA⟩ := id E
  unfold fX10_parseNumber_b0 at h1
  refine lv_aload_n hx hb dX10_parseNumber_0 rfl (lv_at hl 0 rfl) ?_
  refine lv_iload_n hx hb dX10_parseNumber_1 rfl (lv_at hl 1 rfl) ?_
  refine lv_iload_n hx hb dX10_parseNumber_2 rfl (lv_at hl 2 rfl) ?_
  refine kc_iV0 (b := h) (As := [.int x1, .int x2]) (rest := []) h1 ⟨hx, hb, hml, hown, hts⟩ (cX10_lookM l D cy h a H.size u x1 x2) (cwV 2 hts gX10_parseNumber_X10_look rfl rfl rfl hdX10_look ⟨Nat.le_of_ble_eq_true rfl, Nat.le_of_ble_eq_true rfl⟩) hK hP hD hS hA (q0 := 0) rfl rfl rfl hl.1 rfl (Nat.le_of_ble_eq_true rfl) dX10_parseNumber_3 ⟨Nat.zero_le _, Nat.zero_le _⟩ (fun r3 u3 H locs h1 hP hD hS => ?_)
  refine lv_istore_n (lv' := [(3, .int r3), (0, .ref h), (1, .int x1), (2, .int x2)]) hx hb dX10_parseNumber_6 rfl hl (by decide) rfl (fun ls hl => ?_)
  refine lv_aload_n hx hb dX10_parseNumber_7 rfl (lv_at hl 1 rfl) ?_
  refine kc_vV0 (b := h) (As := []) (rest := []) h1 ⟨hx, hb, hml, hown, hts⟩ (cX10_proceedM l D cy h a H.size u3) (cwV 0 hts gX10_parseNumber_X10_proceed rfl rfl rfl hdX10_proceed ⟨Nat.le_of_ble_eq_true rfl, Nat.le_of_ble_eq_true rfl⟩) hK hP hD hS hA (q0 := 0) rfl rfl rfl hl.1 rfl (Nat.le_of_ble_eq_true rfl) dX10_parseNumber_8 ⟨Nat.zero_le _, Nat.zero_le _⟩ (fun u8 H locs h1 hP hD hS => ?_)
  refine lv_iload_n hx hb dX10_parseNumber_11 rfl (lv_at hl 0 rfl) ?_
  exact kret_i hx hb hr hlocks hP hD hS h1 dX10_parseNumber_12
def fX10_parseNumber (p1 : Int32) (p2 : Int32) (u : RS) : Option (Int32 × RS) := fX10_parseNumber_b0 p1 p2 u
set_option maxHeartbeats 4000000 in
set_option maxRecDepth 100000 in
theorem cX10_parseNumberM (l : Launch) (D : va_G) (cy : Nat → ClassId) (h : Nat) (a : Nat → Nat) (sz : Nat) (u : RS) (p1 : Int32) (p2 : Int32) : ∀ (K : Int32 → RS → Prop), Ok (fX10_parseNumber p1 p2 u) (fun q => K q.1 q.2) → Met l yX10_parseNumber wsX10_parseNumber rmX10_parseNumber (va_Pc [.ref h, .int p1, .int p2] (kPre D cy sz (wM cy h a u))) (va_Qi K (fun q => kPost D (va_A (wM cy h a u) sz) (wM cy h a q)) (va_A (wM cy h a u) sz)) 0 0 (va_A (wM cy h a u) sz) := by
  intro K h1
  refine Met.ofW (cc := cX10_parseNumber) (maxL := 4) (ret := (some .int)) (by decide) rfl ?_
  intro p e s m args below meth c s₁ B hml hv
  obtain ⟨rfl, hsz, hP, hK, hD0⟩ := hv
  subst hsz
  have E : mE D cy RX10 cX10_parseNumber 4 (some .int) wsX10_parseNumber (va_A (wM cy h a u) s.heap.size) p s m _ meth c := ⟨B.exec, B.bytes, B.returns, hml, findClass_of_methodNamed B.named, atoms_spec (ws := wsX10_parseNumber) B.pre, B.notSynchronized, hK, fun q h => Or.inr h⟩
  have hl := lv_entry ([.ref h, .int p1, .int p2]) (n := 4) (Nat.le_of_ble_eq_true rfl)
  rw [lg_entry_eq]
  generalize (lg_sl ([.ref h, .int p1, .int p2]) ++ List.replicate (4 - (lg_sl ([.ref h, .int p1, .int p2])).length) Slot.unset).toArray = ls at hl ⊢
  exact tX10_parseNumber_b0 (fun q => K q.1 q.2) E p1 p2 u _ _ _ hl hP hD0.self va_S.rf h1
-- X10_lookHeight
theorem inX10_lookHeight_X10 : ∀ w ∈ u_ws RX10 TX10 23, w ∈ wsX10_lookHeight := k_lays 48 rfl
theorem lkX10_lookHeight_176 : Cond.fieldLink RX10 176 "FerryRampModel" "token" "I" ∈ wsX10_lookHeight := List.mem_of_getElem? (i := 1) rfl
abbrev rmX10_lookHeight : Room := { frames := 3, cells := 0, slots := 0, locals := 81 }
def fX10_lookHeight_b22 (x1 : Int32) (x2 : Int32) (u : RS) : Option (Int32 × RS) :=
  bnd2 (fX10_look 0 x1 u) (fun r25 u25 => (if x2 = 0 then some (r25, u25) else some (-r25, u25)))
set_option maxHeartbeats 4000000 in
set_option maxRecDepth 100000 in
theorem tX10_lookHeight_b22 {p : Program} {l : Launch} {e : Env} {s : State} {m : MethodId} {args : Array Value} {below : List Frame} {meth : Method} {c : Code} {D : va_G} {cy : Nat → ClassId} {A : Nat → Prop} {h : Nat} {a : Nat → Nat} (K : Int32 × RS → Prop) (E : mE D cy RX10 cX10_lookHeight 4 (some .int) wsX10_lookHeight A p s m args meth c)
     (x1 : Int32) (x2 : Int32) (u : RS) (H : Heap) (locs : List Loc) (ls : Array Slot) (hl : lv_has ls 4 [(0, .ref h), (1, .int x1), (2, .int x2)]) (hP : va_P D vwCl (wM cy h a u) H) (hD : va_D A (wM cy h a u)) (hS : va_S A s.heap H locs) (h1 : Ok (fX10_lookHeight_b22 x1 x2 u) K) :
    kW p l e rmX10_lookHeight s m args below meth c H locs (va_Qi (fun r q => K (r, q)) (fun q => kPost D A (wM cy h a q)) A) A 22 ls [] := by
  obtain ⟨hx, hb, hr, hml, hown, hts, hlocks, hK, hA⟩ := id E
  unfold fX10_lookHeight_b22 at h1
  refine lv_aload_n hx hb dX10_lookHeight_22 rfl (lv_at hl 0 rfl) ?_
  refine lv_iconst (v := 0) hx hb dX10_lookHeight_23 rfl ?_
  refine lv_iload_n hx hb dX10_lookHeight_24 rfl (lv_at hl 1 rfl) ?_
  refine kc_iV0 (b := h) (As := [.int 0, .int x1]) (rest := []) h1 ⟨hx, hb, hml, hown, hts⟩ (cX10_lookM l D cy h a H.size u 0 x1) (cwV 2 hts gX10_lookHeight_X10_look rfl rfl rfl hdX10_look ⟨Nat.le_of_ble_eq_true rfl, Nat.le_of_ble_eq_true rfl⟩) hK hP hD hS hA (q0 := 0) rfl rfl rfl hl.1 rfl (Nat.le_of_ble_eq_true rfl) dX10_lookHeight_25 ⟨Nat.zero_le _, Nat.zero_le _⟩ (fun r25 u25 H locs h1 hP hD hS => ?_)
  refine lv_istore_n (lv' := [(3, .int r25), (0, .ref h), (1, .int x1), (2, .int x2)]) hx hb dX10_lookHeight_28 rfl hl (by decide) rfl (fun ls hl => ?_)
  refine lv_iload_n hx hb dX10_lookHeight_29 rfl (lv_at hl 3 rfl) ?_
  refine lv_if_eq (tgt := 38) hx hb dX10_lookHeight_30 (by decide) (fun c30 => ?_) (fun c30 => ?_)
  · replace h1 := Ok.pos c30 h1
    refine lv_iload_n hx hb dX10_lookHeight_38 rfl (lv_at hl 0 rfl) ?_
    exact kret_i hx hb hr hlocks hP hD hS h1 dX10_lookHeight_39
  · replace h1 := Ok.neg c30 h1
    refine lv_iload_n hx hb dX10_lookHeight_33 rfl (lv_at hl 0 rfl) ?_
    refine lv_ineg hx hb dX10_lookHeight_34 ?_
    refine lv_goto (tgt := 39) hx hb dX10_lookHeight_35 (by decide) ?_
    exact kret_i hx hb hr hlocks hP hD hS h1 dX10_lookHeight_39
def fX10_lookHeight_b13 (x1 : Int32) (s0 : Int32) (u : RS) : Option (Int32 × RS) :=
  (if s0 = 0 then fX10_lookHeight_b22 x1 s0 u else bnd (fX10_proceed u) (fun u19 => fX10_lookHeight_b22 x1 s0 u19))
set_option maxHeartbeats 4000000 in
set_option maxRecDepth 100000 in
theorem tX10_lookHeight_b13 {p : Program} {l : Launch} {e : Env} {s : State} {m : MethodId} {args : Array Value} {below : List Frame} {meth : Method} {c : Code} {D : va_G} {cy : Nat → ClassId} {A : Nat → Prop} {h : Nat} {a : Nat → Nat} (K : Int32 × RS → Prop) (E : mE D cy RX10 cX10_lookHeight 4 (some .int) wsX10_lookHeight A p s m args meth c)
     (x1 : Int32) (s0 : Int32) (u : RS) (H : Heap) (locs : List Loc) (ls : Array Slot) (hl : lv_has ls 4 [(0, .ref h), (1, .int x1)]) (hP : va_P D vwCl (wM cy h a u) H) (hD : va_D A (wM cy h a u)) (hS : va_S A s.heap H locs) (h1 : Ok (fX10_lookHeight_b13 x1 s0 u) K) :
    kW p l e rmX10_lookHeight s m args below meth c H locs (va_Qi (fun r q => K (r, q)) (fun q => kPost D A (wM cy h a q)) A) A 13 ls [.int s0] := by
  obtain ⟨hx, hb, hr, hml, hown, hts, hlocks, hK, hA⟩ := id E
  unfold fX10_lookHeight_b13 at h1
  refine lv_istore_n (lv' := [(2, .int s0), (0, .ref h), (1, .int x1)]) hx hb dX10_lookHeight_13 rfl hl (by decide) rfl (fun ls hl => ?_)
  refine lv_iload_n hx hb dX10_lookHeight_14 rfl (lv_at hl 0 rfl) ?_
  refine lv_if_eq (tgt := 22) hx hb dX10_lookHeight_15 (by decide) (fun c15 => ?_) (fun c15 => ?_)
  · replace h1 := Ok.pos c15 h1
    exact tX10_lookHeight_b22 K E x1 s0 u H locs ls (lv_sub hl [1, 2, 0] rfl) hP hD hS h1
  · replace h1 := Ok.neg c15 h1
    refine lv_aload_n hx hb dX10_lookHeight_18 rfl (lv_at hl 1 rfl) ?_
    refine kc_vV0 (b := h) (As := []) (rest := []) h1 ⟨hx, hb, hml, hown, hts⟩ (cX10_proceedM l D cy h a H.size u) (cwV 0 hts gX10_lookHeight_X10_proceed rfl rfl rfl hdX10_proceed ⟨Nat.le_of_ble_eq_true rfl, Nat.le_of_ble_eq_true rfl⟩) hK hP hD hS hA (q0 := 0) rfl rfl rfl hl.1 rfl (Nat.le_of_ble_eq_true rfl) dX10_lookHeight_19 ⟨Nat.zero_le _, Nat.zero_le _⟩ (fun u19 H locs h1 hP hD hS => ?_)
    exact tX10_lookHeight_b22 K E x1 s0 u19 H locs ls (lv_sub hl [1, 2, 0] rfl) hP hD hS h1
def fX10_lookHeight_b0 (x1 : Int32) (u : RS) : Option (Int32 × RS) :=
  (if (mTo u) = 3 then fX10_lookHeight_b13 x1 1 u else fX10_lookHeight_b13 x1 0 u)
set_option maxHeartbeats 4000000 in
set_option maxRecDepth 100000 in
theorem tX10_lookHeight_b0 {p : Program} {l : Launch} {e : Env} {s : State} {m : MethodId} {args : Array Value} {below : List Frame} {meth : Method} {c : Code} {D : va_G} {cy : Nat → ClassId} {A : Nat → Prop} {h : Nat} {a : Nat → Nat} (K : Int32 × RS → Prop) (E : mE D cy RX10 cX10_lookHeight 4 (some .int) wsX10_lookHeight A p s m args meth c)
     (x1 : Int32) (u : RS) (H : Heap) (locs : List Loc) (ls : Array Slot) (hl : lv_has ls 4 [(0, .ref h), (1, .int x1)]) (hP : va_P D vwCl (wM cy h a u) H) (hD : va_D A (wM cy h a u)) (hS : va_S A s.heap H locs) (h1 : Ok (fX10_lookHeight_b0 x1 u) K) :
    kW p l e rmX10_lookHeight s m args below meth c H locs (va_Qi (fun r q => K (r, q)) (fun q => kPost D A (wM cy h a q)) A) A 0 ls [] := by
  obtain ⟨hx, hb, hr, hml, hown, hts, hlocks, hK, hA⟩ := id E
  unfold fX10_lookHeight_b0 at h1
  refine lv_aload_n hx hb dX10_lookHeight_0 rfl (lv_at hl 0 rfl) ?_
  refine k_get (v := .int (mTo u)) (C := RX10) (T := TX10) (N := 23) hx hb hts inX10_lookHeight_X10 hown hK hP 0 (wM_a0 _ _ _ _) rfl 15 (by decide) lkX10_lookHeight_176 (mFs_15 _ _) dX10_lookHeight_1 ?_
  refine lv_iconst (v := 3) hx hb dX10_lookHeight_4 rfl ?_
  refine lv_icmp_ne (tgt := 12) hx hb dX10_lookHeight_5 (by decide) (fun c5 => ?_) (fun c5 => ?_)
  · replace h1 := Ok.neg c5 h1
    refine lv_iconst (v := 0) hx hb dX10_lookHeight_12 rfl ?_
    exact tX10_lookHeight_b13 K E x1 0 u H locs ls (lv_sub hl [0, 1] rfl) hP hD hS h1
  · replace h1 := Ok.pos c5 h1
    refine lv_iconst (v := 1) hx hb dX10_lookHeight_8 rfl ?_
    refine lv_goto (tgt := 13) hx hb dX10_lookHeight_9 (by decide) ?_
    exact tX10_lookHeight_b13 K E x1 1 u H locs ls (lv_sub hl [0, 1] rfl) hP hD hS h1
def fX10_lookHeight (p1 : Int32) (u : RS) : Option (Int32 × RS) := fX10_lookHeight_b0 p1 u
set_option maxHeartbeats 4000000 in
set_option maxRecDepth 100000 in
theorem cX10_lookHeightM (l : Launch) (D : va_G) (cy : Nat → ClassId) (h : Nat) (a : Nat → Nat) (sz : Nat) (u : RS) (p1 : Int32) : ∀ (K : Int32 → RS → Prop), Ok (fX10_lookHeight p1 u) (fun q => K q.1 q.2) → Met l yX10_lookHeight wsX10_lookHeight rmX10_lookHeight (va_Pc [.ref h, .int p1] (kPre D cy sz (wM cy h a u))) (va_Qi K (fun q => kPost D (va_A (wM cy h a u) sz) (wM cy h a q)) (va_A (wM cy h a u) sz)) 0 0 (va_A (wM cy h a u) sz) := by
  intro K h1
  refine Met.ofW (cc := cX10_lookHeight) (maxL := 4) (ret := (some .int)) (by decide) rfl ?_
  intro p e s m args below meth c s₁ B hml hv
  obtain ⟨rfl, hsz, hP, hK, hD0⟩ := hv
  subst hsz
  have E : mE D cy RX10 cX10_lookHeight 4 (some .int) wsX10_lookHeight (va_A (wM cy h a u) s.heap.size) p s m _ meth c := ⟨B.exec, B.bytes, B.returns, hml, findClass_of_methodNamed B.named, atoms_spec (ws := wsX10_lookHeight) B.pre, B.notSynchronized, hK, fun q h => Or.inr h⟩
  have hl := lv_entry ([.ref h, .int p1]) (n := 4) (Nat.le_of_ble_eq_true rfl)
  rw [lg_entry_eq]
  generalize (lg_sl ([.ref h, .int p1]) ++ List.replicate (4 - (lg_sl ([.ref h, .int p1])).length) Slot.unset).toArray = ls at hl ⊢
  exact tX10_lookHeight_b0 (fun q => K q.1 q.2) E p1 u _ _ _ hl hP hD0.self va_S.rf h1
-- X10_parseHeight
theorem hdX10_lookHeight : yX10_lookHeight.cls = RX10 ∧ yX10_lookHeight.cls ≠ "java/lang/invoke/MethodHandle" ∧ yX10_lookHeight.cls ≠ "java/lang/invoke/VarHandle" ∧ (parseMethodDescriptor yX10_lookHeight.desc).map (fun d => d.parameters.length) = some 1 := by decide +kernel
abbrev rmX10_parseHeight : Room := { frames := 4, cells := 0, slots := 0, locals := 104 }
def fX10_parseHeight_b0 (x1 : Int32) (u : RS) : Option (Int32 × RS) :=
  bnd2 (fX10_lookHeight x1 u) (fun r2 u2 => bnd (fX10_proceed u2) (fun u7 => some (r2, u7)))
set_option maxHeartbeats 4000000 in
set_option maxRecDepth 100000 in
theorem tX10_parseHeight_b0 {p : Program} {l : Launch} {e : Env} {s : State} {m : MethodId} {args : Array Value} {below : List Frame} {meth : Method} {c : Code} {D : va_G} {cy : Nat → ClassId} {A : Nat → Prop} {h : Nat} {a : Nat → Nat} (K : Int32 × RS → Prop) (E : mE D cy RX10 cX10_parseHeight 3 (some .int) wsX10_parseHeight A p s m args meth c)
     (x1 : Int32) (u : RS) (H : Heap) (locs : List Loc) (ls : Array Slot) (hl : lv_has ls 3 [(0, .ref h), (1, .int x1)]) (hP : va_P D vwCl (wM cy h a u) H) (hD : va_D A (wM cy h a u)) (hS : va_S A s.heap H locs) (h1 : Ok (fX10_parseHeight_b0 x1 u) K) :
    kW p l e rmX10_parseHeight s m args below meth c H locs (va_Qi (fun r q => K (r, q)) (fun q => kPost D A (wM cy h a q)) A) A 0 ls [] := by
  obtain ⟨hx, hb, hr, hml, hown, hts, hlocks, hK, hA⟩ := id E
  unfold fX10_parseHeight_b0 at h1
  refine lv_aload_n hx hb dX10_parseHeight_0 rfl (lv_at hl 0 rfl) ?_
  refine lv_iload_n hx hb dX10_parseHeight_1 rfl (lv_at hl 1 rfl) ?_
  refine kc_iV0 (b := h) (As := [.int x1]) (rest := []) h1 ⟨hx, hb, hml, hown, hts⟩ (cX10_lookHeightM l D cy h a H.size u x1) (cwV 1 hts gX10_parseHeight_X10_lookHeight rfl rfl rfl hdX10_lookHeight ⟨Nat.le_of_ble_eq_true rfl, Nat.le_of_ble_eq_true rfl⟩) hK hP hD hS hA (q0 := 0) rfl rfl rfl hl.1 rfl (Nat.le_of_ble_eq_true rfl) dX10_parseHeight_2 ⟨Nat.zero_le _, Nat.zero_le _⟩ (fun r2 u2 H locs h1 hP hD hS => ?_)
  refine lv_istore_n (lv' := [(2, .int r2), (0, .ref h), (1, .int x1)]) hx hb dX10_parseHeight_5 rfl hl (by decide) rfl (fun ls hl => ?_)
  refine lv_aload_n hx hb dX10_parseHeight_6 rfl (lv_at hl 1 rfl) ?_
  refine kc_vV0 (b := h) (As := []) (rest := []) h1 ⟨hx, hb, hml, hown, hts⟩ (cX10_proceedM l D cy h a H.size u2) (cwV 0 hts gX10_parseHeight_X10_proceed rfl rfl rfl hdX10_proceed ⟨Nat.le_of_ble_eq_true rfl, Nat.le_of_ble_eq_true rfl⟩) hK hP hD hS hA (q0 := 0) rfl rfl rfl hl.1 rfl (Nat.le_of_ble_eq_true rfl) dX10_parseHeight_7 ⟨Nat.zero_le _, Nat.zero_le _⟩ (fun u7 H locs h1 hP hD hS => ?_)
  refine lv_iload_n hx hb dX10_parseHeight_10 rfl (lv_at hl 0 rfl) ?_
  exact kret_i hx hb hr hlocks hP hD hS h1 dX10_parseHeight_11
def fX10_parseHeight (p1 : Int32) (u : RS) : Option (Int32 × RS) := fX10_parseHeight_b0 p1 u
set_option maxHeartbeats 4000000 in
set_option maxRecDepth 100000 in
theorem cX10_parseHeightM (l : Launch) (D : va_G) (cy : Nat → ClassId) (h : Nat) (a : Nat → Nat) (sz : Nat) (u : RS) (p1 : Int32) : ∀ (K : Int32 → RS → Prop), Ok (fX10_parseHeight p1 u) (fun q => K q.1 q.2) → Met l yX10_parseHeight wsX10_parseHeight rmX10_parseHeight (va_Pc [.ref h, .int p1] (kPre D cy sz (wM cy h a u))) (va_Qi K (fun q => kPost D (va_A (wM cy h a u) sz) (wM cy h a q)) (va_A (wM cy h a u) sz)) 0 0 (va_A (wM cy h a u) sz) := by
  intro K h1
  refine Met.ofW (cc := cX10_parseHeight) (maxL := 3) (ret := (some .int)) (by decide) rfl ?_
  intro p e s m args below meth c s₁ B hml hv
  obtain ⟨rfl, hsz, hP, hK, hD0⟩ := hv
  subst hsz
  have E : mE D cy RX10 cX10_parseHeight 3 (some .int) wsX10_parseHeight (va_A (wM cy h a u) s.heap.size) p s m _ meth c := ⟨B.exec, B.bytes, B.returns, hml, findClass_of_methodNamed B.named, atoms_spec (ws := wsX10_parseHeight) B.pre, B.notSynchronized, hK, fun q h => Or.inr h⟩
  have hl := lv_entry ([.ref h, .int p1]) (n := 3) (Nat.le_of_ble_eq_true rfl)
  rw [lg_entry_eq]
  generalize (lg_sl ([.ref h, .int p1]) ++ List.replicate (3 - (lg_sl ([.ref h, .int p1])).length) Slot.unset).toArray = ls at hl ⊢
  exact tX10_parseHeight_b0 (fun q => K q.1 q.2) E p1 u _ _ _ hl hP hD0.self va_S.rf h1
-- X10_startText
theorem inX10_startText_X10 : ∀ w ∈ u_ws RX10 TX10 23, w ∈ wsX10_startText := k_lays 32 rfl
theorem lkX10_startText_186 : Cond.fieldLink RX10 186 "FerryRampModel" "errorCode" "I" ∈ wsX10_startText := List.mem_of_getElem? (i := 1) rfl
theorem lkX10_startText_38 : Cond.fieldLink RX10 38 "FerryRampModel" "errorPosition" "I" ∈ wsX10_startText := List.mem_of_getElem? (i := 2) rfl
theorem lkX10_startText_164 : Cond.fieldLink RX10 164 "FerryRampModel" "position" "I" ∈ wsX10_startText := List.mem_of_getElem? (i := 3) rfl
theorem lkX10_startText_222 : Cond.fieldLink RX10 222 "FerryRampModel" "commandCount" "I" ∈ wsX10_startText := List.mem_of_getElem? (i := 4) rfl
theorem lkX10_startText_225 : Cond.fieldLink RX10 225 "FerryRampModel" "told" "I" ∈ wsX10_startText := List.mem_of_getElem? (i := 5) rfl
theorem lkX10_startText_228 : Cond.fieldLink RX10 228 "FerryRampModel" "toldKinds" "I" ∈ wsX10_startText := List.mem_of_getElem? (i := 6) rfl
abbrev rmX10_startText : Room := { frames := 2, cells := 0, slots := 0, locals := 61 }
def fX10_startText_b0 (u : RS) : Option (RS) :=
  bnd (fX10_advance (nTk (nTd (nCc (nPo (nEp (nEc u 0) (-1)) 0) 0) 0) 0)) (fun u31 => some u31)
set_option maxHeartbeats 4000000 in
set_option maxRecDepth 100000 in
theorem tX10_startText_b0 {p : Program} {l : Launch} {e : Env} {s : State} {m : MethodId} {args : Array Value} {below : List Frame} {meth : Method} {c : Code} {D : va_G} {cy : Nat → ClassId} {A : Nat → Prop} {h : Nat} {a : Nat → Nat} (K : RS → Prop) (E : mE D cy RX10 cX10_startText 1 none wsX10_startText A p s m args meth c)
     (u : RS) (H : Heap) (locs : List Loc) (ls : Array Slot) (hl : lv_has ls 1 [(0, .ref h)]) (hP : va_P D vwCl (wM cy h a u) H) (hD : va_D A (wM cy h a u)) (hS : va_S A s.heap H locs) (h1 : Ok (fX10_startText_b0 u) K) :
    kW p l e rmX10_startText s m args below meth c H locs (va_Qv K (fun q => kPost D A (wM cy h a q)) A) A 0 ls [] := by
  obtain ⟨hx, hb, hr, hml, hown, hts, hlocks, hK, hA⟩ := id E
  unfold fX10_startText_b0 at h1
  refine lv_aload_n hx hb dX10_startText_0 rfl (lv_at hl 0 rfl) ?_
  refine lv_iconst (v := 0) hx hb dX10_startText_1 rfl ?_
  refine k_put (v := .int 0) (ty := .int) (C := RX10) (T := TX10) (N := 23) hx hb hts inX10_startText_X10 tyX10 tyX10_ok nmX10 hown hK hP hD hS 0 (wM_a0 _ _ _ _) rfl 17 (by decide) lkX10_startText_186 rfl (by decide +kernel) rfl rfl (Nat.le_of_ble_eq_true rfl) (ws' := wM cy h a (nEc u 0)) (wM_nEc _ _ _ _ _) dX10_startText_2 (fun H locs hP hD hS => ?_)
  refine lv_aload_n hx hb dX10_startText_5 rfl (lv_at hl 0 rfl) ?_
  refine lv_iconst (v := (-1)) hx hb dX10_startText_6 rfl ?_
  refine k_put (v := .int (-1)) (ty := .int) (C := RX10) (T := TX10) (N := 23) hx hb hts inX10_startText_X10 tyX10 tyX10_ok nmX10 hown hK hP hD hS 0 (wM_a0 _ _ _ _) rfl 18 (by decide) lkX10_startText_38 rfl (by decide +kernel) rfl rfl (Nat.le_of_ble_eq_true rfl) (ws' := wM cy h a (nEp (nEc u 0) (-1))) (wM_nEp _ _ _ _ _) dX10_startText_7 (fun H locs hP hD hS => ?_)
  refine lv_aload_n hx hb dX10_startText_10 rfl (lv_at hl 0 rfl) ?_
  refine lv_iconst (v := 0) hx hb dX10_startText_11 rfl ?_
  refine k_put (v := .int 0) (ty := .int) (C := RX10) (T := TX10) (N := 23) hx hb hts inX10_startText_X10 tyX10 tyX10_ok nmX10 hown hK hP hD hS 0 (wM_a0 _ _ _ _) rfl 13 (by decide) lkX10_startText_164 rfl (by decide +kernel) rfl rfl (Nat.le_of_ble_eq_true rfl) (ws' := wM cy h a (nPo (nEp (nEc u 0) (-1)) 0)) (wM_nPo _ _ _ _ _) dX10_startText_12 (fun H locs hP hD hS => ?_)
  refine lv_aload_n hx hb dX10_startText_15 rfl (lv_at hl 0 rfl) ?_
  refine lv_iconst (v := 0) hx hb dX10_startText_16 rfl ?_
  refine k_put (v := .int 0) (ty := .int) (C := RX10) (T := TX10) (N := 23) hx hb hts inX10_startText_X10 tyX10 tyX10_ok nmX10 hown hK hP hD hS 0 (wM_a0 _ _ _ _) rfl 11 (by decide) lkX10_startText_222 rfl (by decide +kernel) rfl rfl (Nat.le_of_ble_eq_true rfl) (ws' := wM cy h a (nCc (nPo (nEp (nEc u 0) (-1)) 0) 0)) (wM_nCc _ _ _ _ _) dX10_startText_17 (fun H locs hP hD hS => ?_)
  refine lv_aload_n hx hb dX10_startText_20 rfl (lv_at hl 0 rfl) ?_
  refine lv_iconst (v := 0) hx hb dX10_startText_21 rfl ?_
  refine k_put (v := .int 0) (ty := .int) (C := RX10) (T := TX10) (N := 23) hx hb hts inX10_startText_X10 tyX10 tyX10_ok nmX10 hown hK hP hD hS 0 (wM_a0 _ _ _ _) rfl 19 (by decide) lkX10_startText_225 rfl (by decide +kernel) rfl rfl (Nat.le_of_ble_eq_true rfl) (ws' := wM cy h a (nTd (nCc (nPo (nEp (nEc u 0) (-1)) 0) 0) 0)) (wM_nTd _ _ _ _ _) dX10_startText_22 (fun H locs hP hD hS => ?_)
  refine lv_aload_n hx hb dX10_startText_25 rfl (lv_at hl 0 rfl) ?_
  refine lv_iconst (v := 0) hx hb dX10_startText_26 rfl ?_
  refine k_put (v := .int 0) (ty := .int) (C := RX10) (T := TX10) (N := 23) hx hb hts inX10_startText_X10 tyX10 tyX10_ok nmX10 hown hK hP hD hS 0 (wM_a0 _ _ _ _) rfl 20 (by decide) lkX10_startText_228 rfl (by decide +kernel) rfl rfl (Nat.le_of_ble_eq_true rfl) (ws' := wM cy h a (nTk (nTd (nCc (nPo (nEp (nEc u 0) (-1)) 0) 0) 0) 0)) (wM_nTk _ _ _ _ _) dX10_startText_27 (fun H locs hP hD hS => ?_)
  refine lv_aload_n hx hb dX10_startText_30 rfl (lv_at hl 0 rfl) ?_
  refine kc_vV0 (b := h) (As := []) (rest := []) h1 ⟨hx, hb, hml, hown, hts⟩ (cX10_advanceM l D cy h a H.size (nTk (nTd (nCc (nPo (nEp (nEc u 0) (-1)) 0) 0) 0) 0)) (cwV 0 hts gX10_startText_X10_advance rfl rfl rfl hdX10_advance ⟨Nat.le_of_ble_eq_true rfl, Nat.le_of_ble_eq_true rfl⟩) hK hP hD hS hA (q0 := 0) rfl rfl rfl hl.1 rfl (Nat.le_of_ble_eq_true rfl) dX10_startText_31 ⟨Nat.zero_le _, Nat.zero_le _⟩ (fun u31 H locs h1 hP hD hS => ?_)
  exact kret_v hx hb hr hlocks hP hD hS h1 dX10_startText_34
def fX10_startText (u : RS) : Option (RS) := fX10_startText_b0 u
set_option maxHeartbeats 4000000 in
set_option maxRecDepth 100000 in
theorem cX10_startTextM (l : Launch) (D : va_G) (cy : Nat → ClassId) (h : Nat) (a : Nat → Nat) (sz : Nat) (u : RS) : ∀ (K : RS → Prop), Ok (fX10_startText u) K → Met l yX10_startText wsX10_startText rmX10_startText (va_Pc [.ref h] (kPre D cy sz (wM cy h a u))) (va_Qv K (fun q => kPost D (va_A (wM cy h a u) sz) (wM cy h a q)) (va_A (wM cy h a u) sz)) 0 0 (va_A (wM cy h a u) sz) := by
  intro K h1
  refine Met.ofW (cc := cX10_startText) (maxL := 1) (ret := none) (by decide) rfl ?_
  intro p e s m args below meth c s₁ B hml hv
  obtain ⟨rfl, hsz, hP, hK, hD0⟩ := hv
  subst hsz
  have E : mE D cy RX10 cX10_startText 1 none wsX10_startText (va_A (wM cy h a u) s.heap.size) p s m _ meth c := ⟨B.exec, B.bytes, B.returns, hml, findClass_of_methodNamed B.named, atoms_spec (ws := wsX10_startText) B.pre, B.notSynchronized, hK, fun q h => Or.inr h⟩
  have hl := lv_entry ([.ref h]) (n := 1) (Nat.le_of_ble_eq_true rfl)
  rw [lg_entry_eq]
  generalize (lg_sl ([.ref h]) ++ List.replicate (1 - (lg_sl ([.ref h])).length) Slot.unset).toArray = ls at hl ⊢
  exact tX10_startText_b0 K E u _ _ _ hl hP hD0.self va_S.rf h1
-- X10_set
theorem inX10_set_X10 : ∀ w ∈ u_ws RX10 TX10 23, w ∈ wsX10_set := k_lays 8 rfl
theorem lkX10_set_7 : Cond.fieldLink RX10 7 "FerryRampModel" "state" "[I" ∈ wsX10_set := List.mem_of_getElem? (i := 1) rfl
abbrev rmX10_set : Room := { frames := 1, cells := 0, slots := 0, locals := 20 }
def fX10_set_b0 (x1 : Int32) (x2 : Int32) (u : RS) : Option (RS) :=
  bnd (fX10_isFine u) (fun r1 => (if r1 = 0 then some u else grd (inb x1 561) (some (nSt u (ix x1) x2))))
set_option maxHeartbeats 4000000 in
set_option maxRecDepth 100000 in
theorem tX10_set_b0 {p : Program} {l : Launch} {e : Env} {s : State} {m : MethodId} {args : Array Value} {below : List Frame} {meth : Method} {c : Code} {D : va_G} {cy : Nat → ClassId} {A : Nat → Prop} {h : Nat} {a : Nat → Nat} (K : RS → Prop) (E : mE D cy RX10 cX10_set 3 none wsX10_set A p s m args meth c)
     (x1 : Int32) (x2 : Int32) (u : RS) (H : Heap) (locs : List Loc) (ls : Array Slot) (hl : lv_has ls 3 [(0, .ref h), (1, .int x1), (2, .int x2)]) (hP : va_P D vwCl (wM cy h a u) H) (hD : va_D A (wM cy h a u)) (hS : va_S A s.heap H locs) (h1 : Ok (fX10_set_b0 x1 x2 u) K) :
    kW p l e rmX10_set s m args below meth c H locs (va_Qv K (fun q => kPost D A (wM cy h a q)) A) A 0 ls [] := by
  obtain ⟨hx, hb, hr, hml, hown, hts, hlocks, hK, hA⟩ := id E
  unfold fX10_set_b0 at h1
  refine lv_aload_n hx hb dX10_set_0 rfl (lv_at hl 0 rfl) ?_
  refine kc_rV0 (b := h) (As := []) (rest := []) h1 ⟨hx, hb, hml, hown, hts⟩ (cX10_isFineM l D cy h a H.size u) (cwV 0 hts gX10_set_X10_isFine rfl rfl rfl hdX10_isFine ⟨Nat.le_of_ble_eq_true rfl, Nat.le_of_ble_eq_true rfl⟩) hK hP hD hS hA (q0 := 0) rfl rfl rfl hl.1 rfl (Nat.le_of_ble_eq_true rfl) dX10_set_1 ⟨Nat.zero_le _, Nat.zero_le _⟩ (fun r1 H locs h1 hP hS => ?_)
  refine lv_if_eq (tgt := 14) hx hb dX10_set_4 (by decide) (fun c4 => ?_) (fun c4 => ?_)
  · replace h1 := Ok.pos c4 h1
    exact kret_v hx hb hr hlocks hP hD hS h1 dX10_set_14
  · replace h1 := Ok.neg c4 h1
    refine lv_aload_n hx hb dX10_set_7 rfl (lv_at hl 0 rfl) ?_
    refine k_get (v := .ref (a 0)) (C := RX10) (T := TX10) (N := 23) hx hb hts inX10_set_X10 hown hK hP 0 (wM_a0 _ _ _ _) rfl 0 (by decide) lkX10_set_7 (mFs_0 _ _) dX10_set_8 ?_
    refine lv_iload_n hx hb dX10_set_11 rfl (lv_at hl 1 rfl) ?_
    refine lv_iload_n hx hb dX10_set_12 rfl (lv_at hl 2 rfl) ?_
    have g13 := h1.grd1
    replace h1 := h1.grd2
    refine k_iast (k := (ix x1)) (ws' := wM cy h a (nSt u (ix x1) x2)) hx hb hK hP hD hS 1 (wM_a1 _ _ _ _) g13 rfl (wM_nSt _ _ _ _ _ _) dX10_set_13 (fun H locs hP hD hS => ?_)
    exact kret_v hx hb hr hlocks hP hD hS h1 dX10_set_14
def fX10_set (p1 : Int32) (p2 : Int32) (u : RS) : Option (RS) := fX10_set_b0 p1 p2 u
set_option maxHeartbeats 4000000 in
set_option maxRecDepth 100000 in
theorem cX10_setM (l : Launch) (D : va_G) (cy : Nat → ClassId) (h : Nat) (a : Nat → Nat) (sz : Nat) (u : RS) (p1 : Int32) (p2 : Int32) : ∀ (K : RS → Prop), Ok (fX10_set p1 p2 u) K → Met l yX10_set wsX10_set rmX10_set (va_Pc [.ref h, .int p1, .int p2] (kPre D cy sz (wM cy h a u))) (va_Qv K (fun q => kPost D (va_A (wM cy h a u) sz) (wM cy h a q)) (va_A (wM cy h a u) sz)) 0 0 (va_A (wM cy h a u) sz) := by
  intro K h1
  refine Met.ofW (cc := cX10_set) (maxL := 3) (ret := none) (by decide) rfl ?_
  intro p e s m args below meth c s₁ B hml hv
  obtain ⟨rfl, hsz, hP, hK, hD0⟩ := hv
  subst hsz
  have E : mE D cy RX10 cX10_set 3 none wsX10_set (va_A (wM cy h a u) s.heap.size) p s m _ meth c := ⟨B.exec, B.bytes, B.returns, hml, findClass_of_methodNamed B.named, atoms_spec (ws := wsX10_set) B.pre, B.notSynchronized, hK, fun q h => Or.inr h⟩
  have hl := lv_entry ([.ref h, .int p1, .int p2]) (n := 3) (Nat.le_of_ble_eq_true rfl)
  rw [lg_entry_eq]
  generalize (lg_sl ([.ref h, .int p1, .int p2]) ++ List.replicate (3 - (lg_sl ([.ref h, .int p1, .int p2])).length) Slot.unset).toArray = ls at hl ⊢
  exact tX10_set_b0 K E p1 p2 u _ _ _ hl hP hD0.self va_S.rf h1
-- X10_passOnce
theorem inX10_passOnce_X10 : ∀ w ∈ u_ws RX10 TX10 23, w ∈ wsX10_passOnce := k_lays 42 rfl
theorem lkX10_passOnce_225 : Cond.fieldLink RX10 225 "FerryRampModel" "told" "I" ∈ wsX10_passOnce := List.mem_of_getElem? (i := 1) rfl
abbrev rmX10_passOnce : Room := { frames := 3, cells := 0, slots := 0, locals := 81 }
def fX10_passOnce_b17 (x1 : Int32) (s1 : Int32) (u : RS) : Option (RS) :=
  bnd (fX10_require s1 3 u) (fun u18 => bnd (fX10_proceed (nTd u18 ((mTd u18) ||| (1 <<< (x1 &&& 31))))) (fun u34 => some u34))
set_option maxHeartbeats 4000000 in
set_option maxRecDepth 100000 in
theorem tX10_passOnce_b17 {p : Program} {l : Launch} {e : Env} {s : State} {m : MethodId} {args : Array Value} {below : List Frame} {meth : Method} {c : Code} {D : va_G} {cy : Nat → ClassId} {A : Nat → Prop} {h : Nat} {a : Nat → Nat} (K : RS → Prop) (E : mE D cy RX10 cX10_passOnce 2 none wsX10_passOnce A p s m args meth c)
     (x1 : Int32) (s1 : Int32) (u : RS) (H : Heap) (locs : List Loc) (ls : Array Slot) (hl : lv_has ls 2 [(0, .ref h), (1, .int x1)]) (hP : va_P D vwCl (wM cy h a u) H) (hD : va_D A (wM cy h a u)) (hS : va_S A s.heap H locs) (h1 : Ok (fX10_passOnce_b17 x1 s1 u) K) :
    kW p l e rmX10_passOnce s m args below meth c H locs (va_Qv K (fun q => kPost D A (wM cy h a q)) A) A 17 ls [.int s1, .ref h] := by
  obtain ⟨hx, hb, hr, hml, hown, hts, hlocks, hK, hA⟩ := id E
  unfold fX10_passOnce_b17 at h1
  refine lv_iconst (v := 3) hx hb dX10_passOnce_17 rfl ?_
  refine kc_vV0 (b := h) (As := [.int s1, .int 3]) (rest := []) h1 ⟨hx, hb, hml, hown, hts⟩ (cX10_requireM l D cy h a H.size u s1 3) (cwV 2 hts gX10_passOnce_X10_require rfl rfl rfl hdX10_require ⟨Nat.le_of_ble_eq_true rfl, Nat.le_of_ble_eq_true rfl⟩) hK hP hD hS hA (q0 := 0) rfl rfl rfl hl.1 rfl (Nat.le_of_ble_eq_true rfl) dX10_passOnce_18 ⟨Nat.zero_le _, Nat.zero_le _⟩ (fun u18 H locs h1 hP hD hS => ?_)
  refine lv_aload_n hx hb dX10_passOnce_21 rfl (lv_at hl 0 rfl) ?_
  refine lv_dup hx hb dX10_passOnce_22 rfl ?_
  refine k_get (v := .int (mTd u18)) (C := RX10) (T := TX10) (N := 23) hx hb hts inX10_passOnce_X10 hown hK hP 0 (wM_a0 _ _ _ _) rfl 19 (by decide) lkX10_passOnce_225 (mFs_19 _ _) dX10_passOnce_23 ?_
  refine lv_iconst (v := 1) hx hb dX10_passOnce_26 rfl ?_
  refine lv_iload_n hx hb dX10_passOnce_27 rfl (lv_at hl 1 rfl) ?_
  refine lv_ishl hx hb dX10_passOnce_28 ?_
  refine lv_ior hx hb dX10_passOnce_29 ?_
  refine k_put (v := .int ((mTd u18) ||| (1 <<< (x1 &&& 31)))) (ty := .int) (C := RX10) (T := TX10) (N := 23) hx hb hts inX10_passOnce_X10 tyX10 tyX10_ok nmX10 hown hK hP hD hS 0 (wM_a0 _ _ _ _) rfl 19 (by decide) lkX10_passOnce_225 rfl (by decide +kernel) rfl rfl (Nat.le_of_ble_eq_true rfl) (ws' := wM cy h a (nTd u18 ((mTd u18) ||| (1 <<< (x1 &&& 31))))) (wM_nTd _ _ _ _ _) dX10_passOnce_30 (fun H locs hP hD hS => ?_)
  refine lv_aload_n hx hb dX10_passOnce_33 rfl (lv_at hl 0 rfl) ?_
  refine kc_vV0 (b := h) (As := []) (rest := []) h1 ⟨hx, hb, hml, hown, hts⟩ (cX10_proceedM l D cy h a H.size (nTd u18 ((mTd u18) ||| (1 <<< (x1 &&& 31))))) (cwV 0 hts gX10_passOnce_X10_proceed rfl rfl rfl hdX10_proceed ⟨Nat.le_of_ble_eq_true rfl, Nat.le_of_ble_eq_true rfl⟩) hK hP hD hS hA (q0 := 0) rfl rfl rfl hl.1 rfl (Nat.le_of_ble_eq_true rfl) dX10_passOnce_34 ⟨Nat.zero_le _, Nat.zero_le _⟩ (fun u34 H locs h1 hP hD hS => ?_)
  exact kret_v hx hb hr hlocks hP hD hS h1 dX10_passOnce_37
def fX10_passOnce_b0 (x1 : Int32) (u : RS) : Option (RS) :=
  (if (((mTd u) >>> (x1 &&& 31)) &&& 1) = 0 then fX10_passOnce_b17 x1 1 u else fX10_passOnce_b17 x1 0 u)
set_option maxHeartbeats 4000000 in
set_option maxRecDepth 100000 in
theorem tX10_passOnce_b0 {p : Program} {l : Launch} {e : Env} {s : State} {m : MethodId} {args : Array Value} {below : List Frame} {meth : Method} {c : Code} {D : va_G} {cy : Nat → ClassId} {A : Nat → Prop} {h : Nat} {a : Nat → Nat} (K : RS → Prop) (E : mE D cy RX10 cX10_passOnce 2 none wsX10_passOnce A p s m args meth c)
     (x1 : Int32) (u : RS) (H : Heap) (locs : List Loc) (ls : Array Slot) (hl : lv_has ls 2 [(0, .ref h), (1, .int x1)]) (hP : va_P D vwCl (wM cy h a u) H) (hD : va_D A (wM cy h a u)) (hS : va_S A s.heap H locs) (h1 : Ok (fX10_passOnce_b0 x1 u) K) :
    kW p l e rmX10_passOnce s m args below meth c H locs (va_Qv K (fun q => kPost D A (wM cy h a q)) A) A 0 ls [] := by
  obtain ⟨hx, hb, hr, hml, hown, hts, hlocks, hK, hA⟩ := id E
  unfold fX10_passOnce_b0 at h1
  refine lv_aload_n hx hb dX10_passOnce_0 rfl (lv_at hl 0 rfl) ?_
  refine lv_aload_n hx hb dX10_passOnce_1 rfl (lv_at hl 0 rfl) ?_
  refine k_get (v := .int (mTd u)) (C := RX10) (T := TX10) (N := 23) hx hb hts inX10_passOnce_X10 hown hK hP 0 (wM_a0 _ _ _ _) rfl 19 (by decide) lkX10_passOnce_225 (mFs_19 _ _) dX10_passOnce_2 ?_
  refine lv_iload_n hx hb dX10_passOnce_5 rfl (lv_at hl 1 rfl) ?_
  refine lv_ishr hx hb dX10_passOnce_6 ?_
  refine lv_iconst (v := 1) hx hb dX10_passOnce_7 rfl ?_
  refine lv_iand hx hb dX10_passOnce_8 ?_
  refine lv_if_ne (tgt := 16) hx hb dX10_passOnce_9 (by decide) (fun c9 => ?_) (fun c9 => ?_)
  · replace h1 := Ok.neg c9 h1
    refine lv_iconst (v := 0) hx hb dX10_passOnce_16 rfl ?_
    exact tX10_passOnce_b17 K E x1 0 u H locs ls (lv_sub hl [0, 1] rfl) hP hD hS h1
  · replace h1 := Ok.pos c9 h1
    refine lv_iconst (v := 1) hx hb dX10_passOnce_12 rfl ?_
    refine lv_goto (tgt := 17) hx hb dX10_passOnce_13 (by decide) ?_
    exact tX10_passOnce_b17 K E x1 1 u H locs ls (lv_sub hl [0, 1] rfl) hP hD hS h1
def fX10_passOnce (p1 : Int32) (u : RS) : Option (RS) := fX10_passOnce_b0 p1 u
set_option maxHeartbeats 4000000 in
set_option maxRecDepth 100000 in
theorem cX10_passOnceM (l : Launch) (D : va_G) (cy : Nat → ClassId) (h : Nat) (a : Nat → Nat) (sz : Nat) (u : RS) (p1 : Int32) : ∀ (K : RS → Prop), Ok (fX10_passOnce p1 u) K → Met l yX10_passOnce wsX10_passOnce rmX10_passOnce (va_Pc [.ref h, .int p1] (kPre D cy sz (wM cy h a u))) (va_Qv K (fun q => kPost D (va_A (wM cy h a u) sz) (wM cy h a q)) (va_A (wM cy h a u) sz)) 0 0 (va_A (wM cy h a u) sz) := by
  intro K h1
  refine Met.ofW (cc := cX10_passOnce) (maxL := 2) (ret := none) (by decide) rfl ?_
  intro p e s m args below meth c s₁ B hml hv
  obtain ⟨rfl, hsz, hP, hK, hD0⟩ := hv
  subst hsz
  have E : mE D cy RX10 cX10_passOnce 2 none wsX10_passOnce (va_A (wM cy h a u) s.heap.size) p s m _ meth c := ⟨B.exec, B.bytes, B.returns, hml, findClass_of_methodNamed B.named, atoms_spec (ws := wsX10_passOnce) B.pre, B.notSynchronized, hK, fun q h => Or.inr h⟩
  have hl := lv_entry ([.ref h, .int p1]) (n := 2) (Nat.le_of_ble_eq_true rfl)
  rw [lg_entry_eq]
  generalize (lg_sl ([.ref h, .int p1]) ++ List.replicate (2 - (lg_sl ([.ref h, .int p1])).length) Slot.unset).toArray = ls at hl ⊢
  exact tX10_passOnce_b0 K E p1 u _ _ _ hl hP hD0.self va_S.rf h1
-- X10_put
theorem inX10_put_X10 : ∀ w ∈ u_ws RX10 TX10 23, w ∈ wsX10_put := k_lays 9 rfl
theorem lkX10_put_35 : Cond.fieldLink RX10 35 "FerryRampModel" "commands" "[I" ∈ wsX10_put := List.mem_of_getElem? (i := 1) rfl
theorem lkX10_put_222 : Cond.fieldLink RX10 222 "FerryRampModel" "commandCount" "I" ∈ wsX10_put := List.mem_of_getElem? (i := 2) rfl
abbrev rmX10_put : Room := { frames := 1, cells := 0, slots := 0, locals := 20 }
def fX10_put_b0 (x1 : Int32) (x2 : Int32) (u : RS) : Option (RS) :=
  bnd (fX10_isFine u) (fun r1 => (if r1 = 0 then some u else grd (inb ((4 * (mCc u)) + x1) 160) (some (nCo u (ix ((4 * (mCc u)) + x1)) x2))))
set_option maxHeartbeats 4000000 in
set_option maxRecDepth 100000 in
theorem tX10_put_b0 {p : Program} {l : Launch} {e : Env} {s : State} {m : MethodId} {args : Array Value} {below : List Frame} {meth : Method} {c : Code} {D : va_G} {cy : Nat → ClassId} {A : Nat → Prop} {h : Nat} {a : Nat → Nat} (K : RS → Prop) (E : mE D cy RX10 cX10_put 3 none wsX10_put A p s m args meth c)
     (x1 : Int32) (x2 : Int32) (u : RS) (H : Heap) (locs : List Loc) (ls : Array Slot) (hl : lv_has ls 3 [(0, .ref h), (1, .int x1), (2, .int x2)]) (hP : va_P D vwCl (wM cy h a u) H) (hD : va_D A (wM cy h a u)) (hS : va_S A s.heap H locs) (h1 : Ok (fX10_put_b0 x1 x2 u) K) :
    kW p l e rmX10_put s m args below meth c H locs (va_Qv K (fun q => kPost D A (wM cy h a q)) A) A 0 ls [] := by
  obtain ⟨hx, hb, hr, hml, hown, hts, hlocks, hK, hA⟩ := id E
  unfold fX10_put_b0 at h1
  refine lv_aload_n hx hb dX10_put_0 rfl (lv_at hl 0 rfl) ?_
  refine kc_rV0 (b := h) (As := []) (rest := []) h1 ⟨hx, hb, hml, hown, hts⟩ (cX10_isFineM l D cy h a H.size u) (cwV 0 hts gX10_put_X10_isFine rfl rfl rfl hdX10_isFine ⟨Nat.le_of_ble_eq_true rfl, Nat.le_of_ble_eq_true rfl⟩) hK hP hD hS hA (q0 := 0) rfl rfl rfl hl.1 rfl (Nat.le_of_ble_eq_true rfl) dX10_put_1 ⟨Nat.zero_le _, Nat.zero_le _⟩ (fun r1 H locs h1 hP hS => ?_)
  refine lv_if_eq (tgt := 21) hx hb dX10_put_4 (by decide) (fun c4 => ?_) (fun c4 => ?_)
  · replace h1 := Ok.pos c4 h1
    exact kret_v hx hb hr hlocks hP hD hS h1 dX10_put_21
  · replace h1 := Ok.neg c4 h1
    refine lv_aload_n hx hb dX10_put_7 rfl (lv_at hl 0 rfl) ?_
    refine k_get (v := .ref (a 8)) (C := RX10) (T := TX10) (N := 23) hx hb hts inX10_put_X10 hown hK hP 0 (wM_a0 _ _ _ _) rfl 10 (by decide) lkX10_put_35 (mFs_10 _ _) dX10_put_8 ?_
    refine lv_iconst (v := 4) hx hb dX10_put_11 rfl ?_
    refine lv_aload_n hx hb dX10_put_12 rfl (lv_at hl 0 rfl) ?_
    refine k_get (v := .int (mCc u)) (C := RX10) (T := TX10) (N := 23) hx hb hts inX10_put_X10 hown hK hP 0 (wM_a0 _ _ _ _) rfl 11 (by decide) lkX10_put_222 (mFs_11 _ _) dX10_put_13 ?_
    refine lv_imul hx hb dX10_put_16 ?_
    refine lv_iload_n hx hb dX10_put_17 rfl (lv_at hl 1 rfl) ?_
    refine lv_iadd hx hb dX10_put_18 ?_
    refine lv_iload_n hx hb dX10_put_19 rfl (lv_at hl 2 rfl) ?_
    have g20 := h1.grd1
    replace h1 := h1.grd2
    refine k_iast (k := (ix ((4 * (mCc u)) + x1))) (ws' := wM cy h a (nCo u (ix ((4 * (mCc u)) + x1)) x2)) hx hb hK hP hD hS 9 (wM_a9 _ _ _ _) g20 rfl (wM_nCo _ _ _ _ _ _) dX10_put_20 (fun H locs hP hD hS => ?_)
    exact kret_v hx hb hr hlocks hP hD hS h1 dX10_put_21
def fX10_put (p1 : Int32) (p2 : Int32) (u : RS) : Option (RS) := fX10_put_b0 p1 p2 u
set_option maxHeartbeats 4000000 in
set_option maxRecDepth 100000 in
theorem cX10_putM (l : Launch) (D : va_G) (cy : Nat → ClassId) (h : Nat) (a : Nat → Nat) (sz : Nat) (u : RS) (p1 : Int32) (p2 : Int32) : ∀ (K : RS → Prop), Ok (fX10_put p1 p2 u) K → Met l yX10_put wsX10_put rmX10_put (va_Pc [.ref h, .int p1, .int p2] (kPre D cy sz (wM cy h a u))) (va_Qv K (fun q => kPost D (va_A (wM cy h a u) sz) (wM cy h a q)) (va_A (wM cy h a u) sz)) 0 0 (va_A (wM cy h a u) sz) := by
  intro K h1
  refine Met.ofW (cc := cX10_put) (maxL := 3) (ret := none) (by decide) rfl ?_
  intro p e s m args below meth c s₁ B hml hv
  obtain ⟨rfl, hsz, hP, hK, hD0⟩ := hv
  subst hsz
  have E : mE D cy RX10 cX10_put 3 none wsX10_put (va_A (wM cy h a u) s.heap.size) p s m _ meth c := ⟨B.exec, B.bytes, B.returns, hml, findClass_of_methodNamed B.named, atoms_spec (ws := wsX10_put) B.pre, B.notSynchronized, hK, fun q h => Or.inr h⟩
  have hl := lv_entry ([.ref h, .int p1, .int p2]) (n := 3) (Nat.le_of_ble_eq_true rfl)
  rw [lg_entry_eq]
  generalize (lg_sl ([.ref h, .int p1, .int p2]) ++ List.replicate (3 - (lg_sl ([.ref h, .int p1, .int p2])).length) Slot.unset).toArray = ls at hl ⊢
  exact tX10_put_b0 K E p1 p2 u _ _ _ hl hP hD0.self va_S.rf h1
-- X10_errorCode
theorem inX10_errorCode_X10 : ∀ w ∈ u_ws RX10 TX10 23, w ∈ wsX10_errorCode := k_lays 3 rfl
theorem lkX10_errorCode_48 : Cond.fieldLink RX10 48 "FerryRampModel" "thrown" "I" ∈ wsX10_errorCode := List.mem_of_getElem? (i := 1) rfl
theorem lkX10_errorCode_186 : Cond.fieldLink RX10 186 "FerryRampModel" "errorCode" "I" ∈ wsX10_errorCode := List.mem_of_getElem? (i := 2) rfl
abbrev rmX10_errorCode : Room := { frames := 0, cells := 0, slots := 0, locals := 0 }
def fX10_errorCode_b0 (u : RS) : Option (Int32 × RS) :=
  some (mEc (nTh u 0), nTh u 0)
set_option maxHeartbeats 4000000 in
set_option maxRecDepth 100000 in
theorem tX10_errorCode_b0 {p : Program} {l : Launch} {e : Env} {s : State} {m : MethodId} {args : Array Value} {below : List Frame} {meth : Method} {c : Code} {D : va_G} {cy : Nat → ClassId} {A : Nat → Prop} {h : Nat} {a : Nat → Nat} (K : Int32 × RS → Prop) (E : mE D cy RX10 cX10_errorCode 1 (some .int) wsX10_errorCode A p s m args meth c)
     (u : RS) (H : Heap) (locs : List Loc) (ls : Array Slot) (hl : lv_has ls 1 [(0, .ref h)]) (hP : va_P D vwCl (wM cy h a u) H) (hD : va_D A (wM cy h a u)) (hS : va_S A s.heap H locs) (h1 : Ok (fX10_errorCode_b0 u) K) :
    kW p l e rmX10_errorCode s m args below meth c H locs (va_Qi (fun r q => K (r, q)) (fun q => kPost D A (wM cy h a q)) A) A 0 ls [] := by
  obtain ⟨hx, hb, hr, hml, hown, hts, hlocks, hK, hA⟩ := id E
  unfold fX10_errorCode_b0 at h1
  refine lv_aload_n hx hb dX10_errorCode_0 rfl (lv_at hl 0 rfl) ?_
  refine lv_iconst (v := 0) hx hb dX10_errorCode_1 rfl ?_
  refine k_put (v := .int 0) (ty := .int) (C := RX10) (T := TX10) (N := 23) hx hb hts inX10_errorCode_X10 tyX10 tyX10_ok nmX10 hown hK hP hD hS 0 (wM_a0 _ _ _ _) rfl 8 (by decide) lkX10_errorCode_48 rfl (by decide +kernel) rfl rfl (Nat.le_of_ble_eq_true rfl) (ws' := wM cy h a (nTh u 0)) (wM_nTh _ _ _ _ _) dX10_errorCode_2 (fun H locs hP hD hS => ?_)
  refine lv_aload_n hx hb dX10_errorCode_5 rfl (lv_at hl 0 rfl) ?_
  refine k_get (v := .int (mEc (nTh u 0))) (C := RX10) (T := TX10) (N := 23) hx hb hts inX10_errorCode_X10 hown hK hP 0 (wM_a0 _ _ _ _) rfl 17 (by decide) lkX10_errorCode_186 (mFs_17 _ _) dX10_errorCode_6 ?_
  exact kret_i hx hb hr hlocks hP hD hS h1 dX10_errorCode_9
def fX10_errorCode (u : RS) : Option (Int32 × RS) := fX10_errorCode_b0 u
set_option maxHeartbeats 4000000 in
set_option maxRecDepth 100000 in
theorem cX10_errorCodeM (l : Launch) (D : va_G) (cy : Nat → ClassId) (h : Nat) (a : Nat → Nat) (sz : Nat) (u : RS) : ∀ (K : Int32 → RS → Prop), Ok (fX10_errorCode u) (fun q => K q.1 q.2) → Met l yX10_errorCode wsX10_errorCode rmX10_errorCode (va_Pc [.ref h] (kPre D cy sz (wM cy h a u))) (va_Qi K (fun q => kPost D (va_A (wM cy h a u) sz) (wM cy h a q)) (va_A (wM cy h a u) sz)) 0 0 (va_A (wM cy h a u) sz) := by
  intro K h1
  refine Met.ofW (cc := cX10_errorCode) (maxL := 1) (ret := (some .int)) (by decide) rfl ?_
  intro p e s m args below meth c s₁ B hml hv
  obtain ⟨rfl, hsz, hP, hK, hD0⟩ := hv
  subst hsz
  have E : mE D cy RX10 cX10_errorCode 1 (some .int) wsX10_errorCode (va_A (wM cy h a u) s.heap.size) p s m _ meth c := ⟨B.exec, B.bytes, B.returns, hml, findClass_of_methodNamed B.named, atoms_spec (ws := wsX10_errorCode) B.pre, B.notSynchronized, hK, fun q h => Or.inr h⟩
  have hl := lv_entry ([.ref h]) (n := 1) (Nat.le_of_ble_eq_true rfl)
  rw [lg_entry_eq]
  generalize (lg_sl ([.ref h]) ++ List.replicate (1 - (lg_sl ([.ref h])).length) Slot.unset).toArray = ls at hl ⊢
  exact tX10_errorCode_b0 (fun q => K q.1 q.2) E u _ _ _ hl hP hD0.self va_S.rf h1
-- X10_errorPosition
theorem inX10_errorPosition_X10 : ∀ w ∈ u_ws RX10 TX10 23, w ∈ wsX10_errorPosition := k_lays 3 rfl
theorem lkX10_errorPosition_48 : Cond.fieldLink RX10 48 "FerryRampModel" "thrown" "I" ∈ wsX10_errorPosition := List.mem_of_getElem? (i := 1) rfl
theorem lkX10_errorPosition_38 : Cond.fieldLink RX10 38 "FerryRampModel" "errorPosition" "I" ∈ wsX10_errorPosition := List.mem_of_getElem? (i := 2) rfl
abbrev rmX10_errorPosition : Room := { frames := 0, cells := 0, slots := 0, locals := 0 }
def fX10_errorPosition_b0 (u : RS) : Option (Int32 × RS) :=
  some (mEp (nTh u 0), nTh u 0)
set_option maxHeartbeats 4000000 in
set_option maxRecDepth 100000 in
theorem tX10_errorPosition_b0 {p : Program} {l : Launch} {e : Env} {s : State} {m : MethodId} {args : Array Value} {below : List Frame} {meth : Method} {c : Code} {D : va_G} {cy : Nat → ClassId} {A : Nat → Prop} {h : Nat} {a : Nat → Nat} (K : Int32 × RS → Prop) (E : mE D cy RX10 cX10_errorPosition 1 (some .int) wsX10_errorPosition A p s m args meth c)
     (u : RS) (H : Heap) (locs : List Loc) (ls : Array Slot) (hl : lv_has ls 1 [(0, .ref h)]) (hP : va_P D vwCl (wM cy h a u) H) (hD : va_D A (wM cy h a u)) (hS : va_S A s.heap H locs) (h1 : Ok (fX10_errorPosition_b0 u) K) :
    kW p l e rmX10_errorPosition s m args below meth c H locs (va_Qi (fun r q => K (r, q)) (fun q => kPost D A (wM cy h a q)) A) A 0 ls [] := by
  obtain ⟨hx, hb, hr, hml, hown, hts, hlocks, hK, hA⟩ := id E
  unfold fX10_errorPosition_b0 at h1
  refine lv_aload_n hx hb dX10_errorPosition_0 rfl (lv_at hl 0 rfl) ?_
  refine lv_iconst (v := 0) hx hb dX10_errorPosition_1 rfl ?_
  refine k_put (v := .int 0) (ty := .int) (C := RX10) (T := TX10) (N := 23) hx hb hts inX10_errorPosition_X10 tyX10 tyX10_ok nmX10 hown hK hP hD hS 0 (wM_a0 _ _ _ _) rfl 8 (by decide) lkX10_errorPosition_48 rfl (by decide +kernel) rfl rfl (Nat.le_of_ble_eq_true rfl) (ws' := wM cy h a (nTh u 0)) (wM_nTh _ _ _ _ _) dX10_errorPosition_2 (fun H locs hP hD hS => ?_)
  refine lv_aload_n hx hb dX10_errorPosition_5 rfl (lv_at hl 0 rfl) ?_
  refine k_get (v := .int (mEp (nTh u 0))) (C := RX10) (T := TX10) (N := 23) hx hb hts inX10_errorPosition_X10 hown hK hP 0 (wM_a0 _ _ _ _) rfl 18 (by decide) lkX10_errorPosition_38 (mFs_18 _ _) dX10_errorPosition_6 ?_
  exact kret_i hx hb hr hlocks hP hD hS h1 dX10_errorPosition_9
def fX10_errorPosition (u : RS) : Option (Int32 × RS) := fX10_errorPosition_b0 u
set_option maxHeartbeats 4000000 in
set_option maxRecDepth 100000 in
theorem cX10_errorPositionM (l : Launch) (D : va_G) (cy : Nat → ClassId) (h : Nat) (a : Nat → Nat) (sz : Nat) (u : RS) : ∀ (K : Int32 → RS → Prop), Ok (fX10_errorPosition u) (fun q => K q.1 q.2) → Met l yX10_errorPosition wsX10_errorPosition rmX10_errorPosition (va_Pc [.ref h] (kPre D cy sz (wM cy h a u))) (va_Qi K (fun q => kPost D (va_A (wM cy h a u) sz) (wM cy h a q)) (va_A (wM cy h a u) sz)) 0 0 (va_A (wM cy h a u) sz) := by
  intro K h1
  refine Met.ofW (cc := cX10_errorPosition) (maxL := 1) (ret := (some .int)) (by decide) rfl ?_
  intro p e s m args below meth c s₁ B hml hv
  obtain ⟨rfl, hsz, hP, hK, hD0⟩ := hv
  subst hsz
  have E : mE D cy RX10 cX10_errorPosition 1 (some .int) wsX10_errorPosition (va_A (wM cy h a u) s.heap.size) p s m _ meth c := ⟨B.exec, B.bytes, B.returns, hml, findClass_of_methodNamed B.named, atoms_spec (ws := wsX10_errorPosition) B.pre, B.notSynchronized, hK, fun q h => Or.inr h⟩
  have hl := lv_entry ([.ref h]) (n := 1) (Nat.le_of_ble_eq_true rfl)
  rw [lg_entry_eq]
  generalize (lg_sl ([.ref h]) ++ List.replicate (1 - (lg_sl ([.ref h])).length) Slot.unset).toArray = ls at hl ⊢
  exact tX10_errorPosition_b0 (fun q => K q.1 q.2) E u _ _ _ hl hP hD0.self va_S.rf h1
-- X10_doCommand
theorem inX10_doCommand_X10 : ∀ w ∈ u_ws RX10 TX10 23, w ∈ wsX10_doCommand := k_lays 207 rfl
theorem lkX10_doCommand_35 : Cond.fieldLink RX10 35 "FerryRampModel" "commands" "[I" ∈ wsX10_doCommand := List.mem_of_getElem? (i := 1) rfl
abbrev rmX10_doCommand : Room := { frames := 12, cells := 0, slots := 0, locals := 268 }
def fX10_doCommand_b114 (s1 : Int32) (u : RS) : Option (Int32 × RS) :=
  bnd2 (fX10_gateIt s1 u) (fun r114 u114 => some (r114, u114))
set_option maxHeartbeats 4000000 in
set_option maxRecDepth 100000 in
theorem tX10_doCommand_b114 {p : Program} {l : Launch} {e : Env} {s : State} {m : MethodId} {args : Array Value} {below : List Frame} {meth : Method} {c : Code} {D : va_G} {cy : Nat → ClassId} {A : Nat → Prop} {h : Nat} {a : Nat → Nat} (K : Int32 × RS → Prop) (E : mE D cy RX10 cX10_doCommand 4 (some .int) wsX10_doCommand A p s m args meth c)
     (s1 : Int32) (u : RS) (H : Heap) (locs : List Loc) (ls : Array Slot) (hl : lv_has ls 4 []) (hP : va_P D vwCl (wM cy h a u) H) (hD : va_D A (wM cy h a u)) (hS : va_S A s.heap H locs) (h1 : Ok (fX10_doCommand_b114 s1 u) K) :
    kW p l e rmX10_doCommand s m args below meth c H locs (va_Qi (fun r q => K (r, q)) (fun q => kPost D A (wM cy h a q)) A) A 114 ls [.int s1, .ref h] := by
  obtain ⟨hx, hb, hr, hml, hown, hts, hlocks, hK, hA⟩ := id E
  unfold fX10_doCommand_b114 at h1
  refine kc_iV0 (b := h) (As := [.int s1]) (rest := []) h1 ⟨hx, hb, hml, hown, hts⟩ (cX10_gateItM l D cy h a H.size u s1) (cwV 1 hts gX10_doCommand_X10_gateIt rfl rfl rfl hdX10_gateIt ⟨Nat.le_of_ble_eq_true rfl, Nat.le_of_ble_eq_true rfl⟩) hK hP hD hS hA (q0 := 0) rfl rfl rfl hl.1 rfl (Nat.le_of_ble_eq_true rfl) dX10_doCommand_114 ⟨Nat.zero_le _, Nat.zero_le _⟩ (fun r114 u114 H locs h1 hP hD hS => ?_)
  exact kret_i hx hb hr hlocks hP hD hS h1 dX10_doCommand_117
def fX10_doCommand_b0 (x1 : Int32) (u : RS) : Option (Int32 × RS) :=
  grd (inb (x1 + 1) 160) (grd (inb (x1 + 2) 160) (grd (inb x1 160) ((if (mCo u (ix x1)) = 0 then bnd2 (fX10_tickIt (mCo u (ix (x1 + 1))) u) (fun r74 u74 => some (r74, u74)) else (if (mCo u (ix x1)) = 1 then bnd2 (fX10_arriveIt (mCo u (ix (x1 + 1))) (mCo u (ix (x1 + 2))) u) (fun r81 u81 => some (r81, u81)) else (if (mCo u (ix x1)) = 2 then bnd2 (fX10_waveIt (mCo u (ix (x1 + 1))) u) (fun r87 u87 => some (r87, u87)) else (if (mCo u (ix x1)) = 3 then bnd2 (fX10_dismissIt (mCo u (ix (x1 + 1))) u) (fun r93 u93 => some (r93, u93)) else (if (mCo u (ix x1)) = 4 then bnd2 (fX10_unloadIt (mCo u (ix (x1 + 1))) u) (fun r99 u99 => some (r99, u99)) else (if (mCo u (ix x1)) = 5 then (if (mCo u (ix (x1 + 1))) = 1 then fX10_doCommand_b114 1 u else fX10_doCommand_b114 0 u) else (if (mCo u (ix x1)) = 6 then bnd2 (fX10_crankIt (mCo u (ix (x1 + 1))) u) (fun r120 u120 => some (r120, u120)) else (if (mCo u (ix x1)) = 7 then grd (inb (x1 + 3) 160) (bnd2 (fX10_winchIt (mCo u (ix (x1 + 1))) (mCo u (ix (x1 + 2))) (mCo u (ix (x1 + 3))) u) (fun r135 u135 => some (r135, u135))) else bnd2 (fX10_crossIt (mCo u (ix (x1 + 1))) (mCo u (ix (x1 + 2))) u) (fun r142 u142 => some (r142, u142)))))))))))))
set_option maxHeartbeats 4000000 in
set_option maxRecDepth 100000 in
theorem tX10_doCommand_b0 {p : Program} {l : Launch} {e : Env} {s : State} {m : MethodId} {args : Array Value} {below : List Frame} {meth : Method} {c : Code} {D : va_G} {cy : Nat → ClassId} {A : Nat → Prop} {h : Nat} {a : Nat → Nat} (K : Int32 × RS → Prop) (E : mE D cy RX10 cX10_doCommand 4 (some .int) wsX10_doCommand A p s m args meth c)
     (x1 : Int32) (u : RS) (H : Heap) (locs : List Loc) (ls : Array Slot) (hl : lv_has ls 4 [(0, .ref h), (1, .int x1)]) (hP : va_P D vwCl (wM cy h a u) H) (hD : va_D A (wM cy h a u)) (hS : va_S A s.heap H locs) (h1 : Ok (fX10_doCommand_b0 x1 u) K) :
    kW p l e rmX10_doCommand s m args below meth c H locs (va_Qi (fun r q => K (r, q)) (fun q => kPost D A (wM cy h a q)) A) A 0 ls [] := by
  obtain ⟨hx, hb, hr, hml, hown, hts, hlocks, hK, hA⟩ := id E
  unfold fX10_doCommand_b0 at h1
  refine lv_aload_n hx hb dX10_doCommand_0 rfl (lv_at hl 0 rfl) ?_
  refine k_get (v := .ref (a 8)) (C := RX10) (T := TX10) (N := 23) hx hb hts inX10_doCommand_X10 hown hK hP 0 (wM_a0 _ _ _ _) rfl 10 (by decide) lkX10_doCommand_35 (mFs_10 _ _) dX10_doCommand_1 ?_
  refine lv_iload_n hx hb dX10_doCommand_4 rfl (lv_at hl 1 rfl) ?_
  refine lv_iconst (v := 1) hx hb dX10_doCommand_5 rfl ?_
  refine lv_iadd hx hb dX10_doCommand_6 ?_
  have g7 := h1.grd1
  replace h1 := h1.grd2
  refine k_iald (k := (ix (x1 + 1))) hx hb hK hP 9 (wM_a9 _ _ _ _) g7 rfl dX10_doCommand_7 ?_
  refine lv_istore_n (lv' := [(2, .int (mCo u (ix (x1 + 1)))), (0, .ref h), (1, .int x1)]) hx hb dX10_doCommand_8 rfl hl (by decide) rfl (fun ls hl => ?_)
  refine lv_aload_n hx hb dX10_doCommand_9 rfl (lv_at hl 1 rfl) ?_
  refine k_get (v := .ref (a 8)) (C := RX10) (T := TX10) (N := 23) hx hb hts inX10_doCommand_X10 hown hK hP 0 (wM_a0 _ _ _ _) rfl 10 (by decide) lkX10_doCommand_35 (mFs_10 _ _) dX10_doCommand_10 ?_
  refine lv_iload_n hx hb dX10_doCommand_13 rfl (lv_at hl 2 rfl) ?_
  refine lv_iconst (v := 2) hx hb dX10_doCommand_14 rfl ?_
  refine lv_iadd hx hb dX10_doCommand_15 ?_
  have g16 := h1.grd1
  replace h1 := h1.grd2
  refine k_iald (k := (ix (x1 + 2))) hx hb hK hP 9 (wM_a9 _ _ _ _) g16 rfl dX10_doCommand_16 ?_
  refine lv_istore_n (lv' := [(3, .int (mCo u (ix (x1 + 2)))), (2, .int (mCo u (ix (x1 + 1)))), (0, .ref h), (1, .int x1)]) hx hb dX10_doCommand_17 rfl hl (by decide) rfl (fun ls hl => ?_)
  refine lv_aload_n hx hb dX10_doCommand_18 rfl (lv_at hl 2 rfl) ?_
  refine k_get (v := .ref (a 8)) (C := RX10) (T := TX10) (N := 23) hx hb hts inX10_doCommand_X10 hown hK hP 0 (wM_a0 _ _ _ _) rfl 10 (by decide) lkX10_doCommand_35 (mFs_10 _ _) dX10_doCommand_19 ?_
  refine lv_iload_n hx hb dX10_doCommand_22 rfl (lv_at hl 3 rfl) ?_
  have g23 := h1.grd1
  replace h1 := h1.grd2
  refine k_iald (k := (ix x1)) hx hb hK hP 9 (wM_a9 _ _ _ _) g23 rfl dX10_doCommand_23 ?_
  by_cases c24_0 : (mCo u (ix x1)) = 0
  · replace h1 := Ok.pos c24_0 h1
    refine lv_tableIn (off := 48) (tgt := 72) hx hb dX10_doCommand_24 (by rw [c24_0]; decide) (by rw [c24_0]; decide) (by rw [c24_0]; decide) (by decide) ?_
    refine lv_aload_n hx hb dX10_doCommand_72 rfl (lv_at hl 2 rfl) ?_
    refine lv_iload_n hx hb dX10_doCommand_73 rfl (lv_at hl 1 rfl) ?_
    refine kc_iV0 (b := h) (As := [.int (mCo u (ix (x1 + 1)))]) (rest := []) h1 ⟨hx, hb, hml, hown, hts⟩ (cX10_tickItM l D cy h a H.size u (mCo u (ix (x1 + 1)))) (cwV 1 hts gX10_doCommand_X10_tickIt rfl rfl rfl hdX10_tickIt ⟨Nat.le_of_ble_eq_true rfl, Nat.le_of_ble_eq_true rfl⟩) hK hP hD hS hA (q0 := 0) rfl rfl rfl hl.1 rfl (Nat.le_of_ble_eq_true rfl) dX10_doCommand_74 ⟨Nat.zero_le _, Nat.zero_le _⟩ (fun r74 u74 H locs h1 hP hD hS => ?_)
    exact kret_i hx hb hr hlocks hP hD hS h1 dX10_doCommand_77
  replace h1 := Ok.neg c24_0 h1
  by_cases c24_1 : (mCo u (ix x1)) = 1
  · replace h1 := Ok.pos c24_1 h1
    refine lv_tableIn (off := 54) (tgt := 78) hx hb dX10_doCommand_24 (by rw [c24_1]; decide) (by rw [c24_1]; decide) (by rw [c24_1]; decide) (by decide) ?_
    refine lv_aload_n hx hb dX10_doCommand_78 rfl (lv_at hl 2 rfl) ?_
    refine lv_iload_n hx hb dX10_doCommand_79 rfl (lv_at hl 1 rfl) ?_
    refine lv_iload_n hx hb dX10_doCommand_80 rfl (lv_at hl 0 rfl) ?_
    refine kc_iV0 (b := h) (As := [.int (mCo u (ix (x1 + 1))), .int (mCo u (ix (x1 + 2)))]) (rest := []) h1 ⟨hx, hb, hml, hown, hts⟩ (cX10_arriveItM l D cy h a H.size u (mCo u (ix (x1 + 1))) (mCo u (ix (x1 + 2)))) (cwV 2 hts gX10_doCommand_X10_arriveIt rfl rfl rfl hdX10_arriveIt ⟨Nat.le_of_ble_eq_true rfl, Nat.le_of_ble_eq_true rfl⟩) hK hP hD hS hA (q0 := 0) rfl rfl rfl hl.1 rfl (Nat.le_of_ble_eq_true rfl) dX10_doCommand_81 ⟨Nat.zero_le _, Nat.zero_le _⟩ (fun r81 u81 H locs h1 hP hD hS => ?_)
    exact kret_i hx hb hr hlocks hP hD hS h1 dX10_doCommand_84
  replace h1 := Ok.neg c24_1 h1
  by_cases c24_2 : (mCo u (ix x1)) = 2
  · replace h1 := Ok.pos c24_2 h1
    refine lv_tableIn (off := 61) (tgt := 85) hx hb dX10_doCommand_24 (by rw [c24_2]; decide) (by rw [c24_2]; decide) (by rw [c24_2]; decide) (by decide) ?_
    refine lv_aload_n hx hb dX10_doCommand_85 rfl (lv_at hl 2 rfl) ?_
    refine lv_iload_n hx hb dX10_doCommand_86 rfl (lv_at hl 1 rfl) ?_
    refine kc_iV0 (b := h) (As := [.int (mCo u (ix (x1 + 1)))]) (rest := []) h1 ⟨hx, hb, hml, hown, hts⟩ (cX10_waveItM l D cy h a H.size u (mCo u (ix (x1 + 1)))) (cwV 1 hts gX10_doCommand_X10_waveIt rfl rfl rfl hdX10_waveIt ⟨Nat.le_of_ble_eq_true rfl, Nat.le_of_ble_eq_true rfl⟩) hK hP hD hS hA (q0 := 0) rfl rfl rfl hl.1 rfl (Nat.le_of_ble_eq_true rfl) dX10_doCommand_87 ⟨Nat.zero_le _, Nat.zero_le _⟩ (fun r87 u87 H locs h1 hP hD hS => ?_)
    exact kret_i hx hb hr hlocks hP hD hS h1 dX10_doCommand_90
  replace h1 := Ok.neg c24_2 h1
  by_cases c24_3 : (mCo u (ix x1)) = 3
  · replace h1 := Ok.pos c24_3 h1
    refine lv_tableIn (off := 67) (tgt := 91) hx hb dX10_doCommand_24 (by rw [c24_3]; decide) (by rw [c24_3]; decide) (by rw [c24_3]; decide) (by decide) ?_
    refine lv_aload_n hx hb dX10_doCommand_91 rfl (lv_at hl 2 rfl) ?_
    refine lv_iload_n hx hb dX10_doCommand_92 rfl (lv_at hl 1 rfl) ?_
    refine kc_iV0 (b := h) (As := [.int (mCo u (ix (x1 + 1)))]) (rest := []) h1 ⟨hx, hb, hml, hown, hts⟩ (cX10_dismissItM l D cy h a H.size u (mCo u (ix (x1 + 1)))) (cwV 1 hts gX10_doCommand_X10_dismissIt rfl rfl rfl hdX10_dismissIt ⟨Nat.le_of_ble_eq_true rfl, Nat.le_of_ble_eq_true rfl⟩) hK hP hD hS hA (q0 := 0) rfl rfl rfl hl.1 rfl (Nat.le_of_ble_eq_true rfl) dX10_doCommand_93 ⟨Nat.zero_le _, Nat.zero_le _⟩ (fun r93 u93 H locs h1 hP hD hS => ?_)
    exact kret_i hx hb hr hlocks hP hD hS h1 dX10_doCommand_96
  replace h1 := Ok.neg c24_3 h1
  by_cases c24_4 : (mCo u (ix x1)) = 4
  · replace h1 := Ok.pos c24_4 h1
    refine lv_tableIn (off := 73) (tgt := 97) hx hb dX10_doCommand_24 (by rw [c24_4]; decide) (by rw [c24_4]; decide) (by rw [c24_4]; decide) (by decide) ?_
    refine lv_aload_n hx hb dX10_doCommand_97 rfl (lv_at hl 2 rfl) ?_
    refine lv_iload_n hx hb dX10_doCommand_98 rfl (lv_at hl 1 rfl) ?_
    refine kc_iV0 (b := h) (As := [.int (mCo u (ix (x1 + 1)))]) (rest := []) h1 ⟨hx, hb, hml, hown, hts⟩ (cX10_unloadItM l D cy h a H.size u (mCo u (ix (x1 + 1)))) (cwV 1 hts gX10_doCommand_X10_unloadIt rfl rfl rfl hdX10_unloadIt ⟨Nat.le_of_ble_eq_true rfl, Nat.le_of_ble_eq_true rfl⟩) hK hP hD hS hA (q0 := 0) rfl rfl rfl hl.1 rfl (Nat.le_of_ble_eq_true rfl) dX10_doCommand_99 ⟨Nat.zero_le _, Nat.zero_le _⟩ (fun r99 u99 H locs h1 hP hD hS => ?_)
    exact kret_i hx hb hr hlocks hP hD hS h1 dX10_doCommand_102
  replace h1 := Ok.neg c24_4 h1
  by_cases c24_5 : (mCo u (ix x1)) = 5
  · replace h1 := Ok.pos c24_5 h1
    refine lv_tableIn (off := 79) (tgt := 103) hx hb dX10_doCommand_24 (by rw [c24_5]; decide) (by rw [c24_5]; decide) (by rw [c24_5]; decide) (by decide) ?_
    refine lv_aload_n hx hb dX10_doCommand_103 rfl (lv_at hl 2 rfl) ?_
    refine lv_iload_n hx hb dX10_doCommand_104 rfl (lv_at hl 1 rfl) ?_
    refine lv_iconst (v := 1) hx hb dX10_doCommand_105 rfl ?_
    refine lv_icmp_ne (tgt := 113) hx hb dX10_doCommand_106 (by decide) (fun c106 => ?_) (fun c106 => ?_)
    · replace h1 := Ok.neg c106 h1
      refine lv_iconst (v := 0) hx hb dX10_doCommand_113 rfl ?_
      exact tX10_doCommand_b114 K E 0 u H locs ls (lv_sub hl [] rfl) hP hD hS h1
    · replace h1 := Ok.pos c106 h1
      refine lv_iconst (v := 1) hx hb dX10_doCommand_109 rfl ?_
      refine lv_goto (tgt := 114) hx hb dX10_doCommand_110 (by decide) ?_
      exact tX10_doCommand_b114 K E 1 u H locs ls (lv_sub hl [] rfl) hP hD hS h1
  replace h1 := Ok.neg c24_5 h1
  by_cases c24_6 : (mCo u (ix x1)) = 6
  · replace h1 := Ok.pos c24_6 h1
    refine lv_tableIn (off := 94) (tgt := 118) hx hb dX10_doCommand_24 (by rw [c24_6]; decide) (by rw [c24_6]; decide) (by rw [c24_6]; decide) (by decide) ?_
    refine lv_aload_n hx hb dX10_doCommand_118 rfl (lv_at hl 2 rfl) ?_
    refine lv_iload_n hx hb dX10_doCommand_119 rfl (lv_at hl 1 rfl) ?_
    refine kc_iV0 (b := h) (As := [.int (mCo u (ix (x1 + 1)))]) (rest := []) h1 ⟨hx, hb, hml, hown, hts⟩ (cX10_crankItM l D cy h a H.size u (mCo u (ix (x1 + 1)))) (cwV 1 hts gX10_doCommand_X10_crankIt rfl rfl rfl hdX10_crankIt ⟨Nat.le_of_ble_eq_true rfl, Nat.le_of_ble_eq_true rfl⟩) hK hP hD hS hA (q0 := 0) rfl rfl rfl hl.1 rfl (Nat.le_of_ble_eq_true rfl) dX10_doCommand_120 ⟨Nat.zero_le _, Nat.zero_le _⟩ (fun r120 u120 H locs h1 hP hD hS => ?_)
    exact kret_i hx hb hr hlocks hP hD hS h1 dX10_doCommand_123
  replace h1 := Ok.neg c24_6 h1
  by_cases c24_7 : (mCo u (ix x1)) = 7
  · replace h1 := Ok.pos c24_7 h1
    refine lv_tableIn (off := 100) (tgt := 124) hx hb dX10_doCommand_24 (by rw [c24_7]; decide) (by rw [c24_7]; decide) (by rw [c24_7]; decide) (by decide) ?_
    refine lv_aload_n hx hb dX10_doCommand_124 rfl (lv_at hl 2 rfl) ?_
    refine lv_iload_n hx hb dX10_doCommand_125 rfl (lv_at hl 1 rfl) ?_
    refine lv_iload_n hx hb dX10_doCommand_126 rfl (lv_at hl 0 rfl) ?_
    refine lv_aload_n hx hb dX10_doCommand_127 rfl (lv_at hl 2 rfl) ?_
    refine k_get (v := .ref (a 8)) (C := RX10) (T := TX10) (N := 23) hx hb hts inX10_doCommand_X10 hown hK hP 0 (wM_a0 _ _ _ _) rfl 10 (by decide) lkX10_doCommand_35 (mFs_10 _ _) dX10_doCommand_128 ?_
    refine lv_iload_n hx hb dX10_doCommand_131 rfl (lv_at hl 3 rfl) ?_
    refine lv_iconst (v := 3) hx hb dX10_doCommand_132 rfl ?_
    refine lv_iadd hx hb dX10_doCommand_133 ?_
    have g134 := h1.grd1
    replace h1 := h1.grd2
    refine k_iald (k := (ix (x1 + 3))) hx hb hK hP 9 (wM_a9 _ _ _ _) g134 rfl dX10_doCommand_134 ?_
    refine kc_iV0 (b := h) (As := [.int (mCo u (ix (x1 + 1))), .int (mCo u (ix (x1 + 2))), .int (mCo u (ix (x1 + 3)))]) (rest := []) h1 ⟨hx, hb, hml, hown, hts⟩ (cX10_winchItM l D cy h a H.size u (mCo u (ix (x1 + 1))) (mCo u (ix (x1 + 2))) (mCo u (ix (x1 + 3)))) (cwV 3 hts gX10_doCommand_X10_winchIt rfl rfl rfl hdX10_winchIt ⟨Nat.le_of_ble_eq_true rfl, Nat.le_of_ble_eq_true rfl⟩) hK hP hD hS hA (q0 := 0) rfl rfl rfl hl.1 rfl (Nat.le_of_ble_eq_true rfl) dX10_doCommand_135 ⟨Nat.zero_le _, Nat.zero_le _⟩ (fun r135 u135 H locs h1 hP hD hS => ?_)
    exact kret_i hx hb hr hlocks hP hD hS h1 dX10_doCommand_138
  replace h1 := Ok.neg c24_7 h1
  refine lv_tableOut (tgt := 139) hx hb dX10_doCommand_24 (k_tout (x := mCo u (ix x1)) [0, 1, 2, 3, 4, 5, 6, 7] (by decide) ⟨c24_0, c24_1, c24_2, c24_3, c24_4, c24_5, c24_6, c24_7, trivial⟩) (by decide) ?_
  refine lv_aload_n hx hb dX10_doCommand_139 rfl (lv_at hl 2 rfl) ?_
  refine lv_iload_n hx hb dX10_doCommand_140 rfl (lv_at hl 1 rfl) ?_
  refine lv_iload_n hx hb dX10_doCommand_141 rfl (lv_at hl 0 rfl) ?_
  refine kc_iV0 (b := h) (As := [.int (mCo u (ix (x1 + 1))), .int (mCo u (ix (x1 + 2)))]) (rest := []) h1 ⟨hx, hb, hml, hown, hts⟩ (cX10_crossItM l D cy h a H.size u (mCo u (ix (x1 + 1))) (mCo u (ix (x1 + 2)))) (cwV 2 hts gX10_doCommand_X10_crossIt rfl rfl rfl hdX10_crossIt ⟨Nat.le_of_ble_eq_true rfl, Nat.le_of_ble_eq_true rfl⟩) hK hP hD hS hA (q0 := 0) rfl rfl rfl hl.1 rfl (Nat.le_of_ble_eq_true rfl) dX10_doCommand_142 ⟨Nat.zero_le _, Nat.zero_le _⟩ (fun r142 u142 H locs h1 hP hD hS => ?_)
  exact kret_i hx hb hr hlocks hP hD hS h1 dX10_doCommand_145
def fX10_doCommand (p1 : Int32) (u : RS) : Option (Int32 × RS) := fX10_doCommand_b0 p1 u
set_option maxHeartbeats 4000000 in
set_option maxRecDepth 100000 in
theorem cX10_doCommandM (l : Launch) (D : va_G) (cy : Nat → ClassId) (h : Nat) (a : Nat → Nat) (sz : Nat) (u : RS) (p1 : Int32) : ∀ (K : Int32 → RS → Prop), Ok (fX10_doCommand p1 u) (fun q => K q.1 q.2) → Met l yX10_doCommand wsX10_doCommand rmX10_doCommand (va_Pc [.ref h, .int p1] (kPre D cy sz (wM cy h a u))) (va_Qi K (fun q => kPost D (va_A (wM cy h a u) sz) (wM cy h a q)) (va_A (wM cy h a u) sz)) 0 0 (va_A (wM cy h a u) sz) := by
  intro K h1
  refine Met.ofW (cc := cX10_doCommand) (maxL := 4) (ret := (some .int)) (by decide) rfl ?_
  intro p e s m args below meth c s₁ B hml hv
  obtain ⟨rfl, hsz, hP, hK, hD0⟩ := hv
  subst hsz
  have E : mE D cy RX10 cX10_doCommand 4 (some .int) wsX10_doCommand (va_A (wM cy h a u) s.heap.size) p s m _ meth c := ⟨B.exec, B.bytes, B.returns, hml, findClass_of_methodNamed B.named, atoms_spec (ws := wsX10_doCommand) B.pre, B.notSynchronized, hK, fun q h => Or.inr h⟩
  have hl := lv_entry ([.ref h, .int p1]) (n := 4) (Nat.le_of_ble_eq_true rfl)
  rw [lg_entry_eq]
  generalize (lg_sl ([.ref h, .int p1]) ++ List.replicate (4 - (lg_sl ([.ref h, .int p1])).length) Slot.unset).toArray = ls at hl ⊢
  exact tX10_doCommand_b0 (fun q => K q.1 q.2) E p1 u _ _ _ hl hP hD0.self va_S.rf h1
