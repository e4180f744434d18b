-- X9_gap
abbrev rmX9_gap : Room := { frames := 0, cells := 0, slots := 0, locals := 0 }
def fX9_gap_b0 (x0 : Int32) (x1 : Int32) : Option (Int32) :=
  (if x0 ≤ x1 then some (x1 - x0) else some (x0 - x1))
set_option maxHeartbeats 4000000 in
set_option maxRecDepth 100000 in
theorem tX9_gap_b0 {p : Program} {l : Launch} {e : Env} {s : State} {m : MethodId} {args : Array Value} {below : List Frame} {meth : Method} {c : Code} {D : va_G} {cy : Nat → ClassId} {A : Nat → Prop} (K : Int32 → Prop) (E : mE D cy RX9 cX9_gap 2 (some .int) wsX9_gap A p s m args meth c)
     (x0 : Int32) (x1 : Int32) (H : Heap) (locs : List Loc) (ls : Array Slot) (hl : lv_has ls 2 [(0, .int x0), (1, .int x1)]) (hP : va_P D kCl (([] : va_W)) H) (hD : va_D A (([] : va_W))) (hS : va_S A s.heap H locs) (h1 : Ok (fX9_gap_b0 x0 x1) K) :
    kW p l e rmX9_gap s m args below meth c H locs (va_Qi (fun r (_ : Unit) => K r) (fun _ => kPost D A (([] : va_W))) A) A 0 ls [] := by
  obtain ⟨hx, hb, hr, hml, hown, hts, hlocks, hK, hA⟩ := id E
  unfold fX9_gap_b0 at h1
  refine lv_iload_n hx hb dX9_gap_0 rfl (lv_at hl 0 rfl) ?_
  refine lv_iload_n hx hb dX9_gap_1 rfl (lv_at hl 1 rfl) ?_
  refine lv_icmp_le (tgt := 11) hx hb dX9_gap_2 (by decide) (fun c2 => ?_) (fun c2 => ?_)
  · replace h1 := Ok.pos c2 h1
    refine lv_iload_n hx hb dX9_gap_11 rfl (lv_at hl 1 rfl) ?_
    refine lv_iload_n hx hb dX9_gap_12 rfl (lv_at hl 0 rfl) ?_
    refine lv_isub hx hb dX9_gap_13 ?_
    exact kret_r hx hb hr hlocks hP hD hS h1 dX9_gap_14
  · replace h1 := Ok.neg c2 h1
    refine lv_iload_n hx hb dX9_gap_5 rfl (lv_at hl 0 rfl) ?_
    refine lv_iload_n hx hb dX9_gap_6 rfl (lv_at hl 1 rfl) ?_
    refine lv_isub hx hb dX9_gap_7 ?_
    refine lv_goto (tgt := 14) hx hb dX9_gap_8 (by decide) ?_
    exact kret_r hx hb hr hlocks hP hD hS h1 dX9_gap_14
def fX9_gap (p0 : Int32) (p1 : Int32) : Option (Int32) := fX9_gap_b0 p0 p1
set_option maxHeartbeats 4000000 in
set_option maxRecDepth 100000 in
theorem cX9_gapM (l : Launch) (D : va_G) (cy : Nat → ClassId) (sz : Nat) (p0 : Int32) (p1 : Int32) : ∀ (K : Int32 → Prop), Ok (fX9_gap p0 p1) K → Met l yX9_gap wsX9_gap rmX9_gap (va_Pc [.int p0, .int p1] (kPre D cy sz (([] : va_W)))) (va_Qi (fun r (_ : Unit) => K r) (fun _ => kPost D (va_A (([] : va_W)) sz) (([] : va_W))) (va_A (([] : va_W)) sz)) 0 0 (va_A (([] : va_W)) sz) := by
  intro K h1
  refine Met.ofW (cc := cX9_gap) (maxL := 2) (ret := (some .int)) (by decide) rfl ?_
  intro p e s m args below meth c s₁ B hml hv
  obtain ⟨rfl, hsz, hP, hK, hD0⟩ := hv
  subst hsz
  have E : mE D cy RX9 cX9_gap 2 (some .int) wsX9_gap (va_A (([] : va_W)) s.heap.size) p s m _ meth c := ⟨B.exec, B.bytes, B.returns, hml, findClass_of_methodNamed B.named, atoms_spec (ws := wsX9_gap) B.pre, B.notSynchronized, hK, fun q h => Or.inr h⟩
  have hl := lv_entry ([.int p0, .int p1]) (n := 2) (Nat.le_of_ble_eq_true rfl)
  rw [lg_entry_eq]
  generalize (lg_sl ([.int p0, .int p1]) ++ List.replicate (2 - (lg_sl ([.int p0, .int p1])).length) Slot.unset).toArray = ls at hl ⊢
  exact tX9_gap_b0 K E p0 p1 _ _ _ hl hP hD0.self va_S.rf h1
-- X9_at
abbrev rmX9_at : Room := { frames := 0, cells := 0, slots := 0, locals := 0 }
def fX9_at_b0 (x1 : Int32) (n : Nat) (f : Nat → Int32) : Option (Int32) :=
  (if x1 < 0 then some (-1) else (if (Int32.ofNat n) ≤ x1 then some (-1) else grd (inb x1 n) (some (f (ix x1)))))
set_option maxHeartbeats 4000000 in
set_option maxRecDepth 100000 in
theorem tX9_at_b0 {p : Program} {l : Launch} {e : Env} {s : State} {m : MethodId} {args : Array Value} {below : List Frame} {meth : Method} {c : Code} {D : va_G} {cy : Nat → ClassId} {A : Nat → Prop} {ra : Nat} (K : Int32 → Prop) (E : mE D cy RX9 cX9_at 2 (some .int) wsX9_at A p s m args meth c) (n : Nat) (f : Nat → Int32)
     (x1 : Int32) (H : Heap) (locs : List Loc) (ls : Array Slot) (hl : lv_has ls 2 [(0, .ref ra), (1, .int x1)]) (hP : va_P D kCl ([(ra, .inl (cy 0, n, .inl f))]) H) (hD : va_D A ([(ra, .inl (cy 0, n, .inl f))])) (hS : va_S A s.heap H locs) (h1 : Ok (fX9_at_b0 x1 n f) K) :
    kW p l e rmX9_at s m args below meth c H locs (va_Qi (fun r (_ : Unit) => K r) (fun _ => kPost D A ([(ra, .inl (cy 0, n, .inl f))])) A) A 0 ls [] := by
  obtain ⟨hx, hb, hr, hml, hown, hts, hlocks, hK, hA⟩ := id E
  unfold fX9_at_b0 at h1
  refine lv_iload_n hx hb dX9_at_0 rfl (lv_at hl 1 rfl) ?_
  refine lv_if_lt (tgt := 16) hx hb dX9_at_1 (by decide) (fun c1 => ?_) (fun c1 => ?_)
  · replace h1 := Ok.pos c1 h1
    refine lv_iconst (v := (-1)) hx hb dX9_at_16 rfl ?_
    exact kret_r hx hb hr hlocks hP hD hS h1 dX9_at_17
  · replace h1 := Ok.neg c1 h1
    refine lv_iload_n hx hb dX9_at_4 rfl (lv_at hl 1 rfl) ?_
    refine lv_aload_n hx hb dX9_at_5 rfl (lv_at hl 0 rfl) ?_
    refine va_alen (v := Int32.ofNat n) hx hb hK.1 hP 0 0 rfl rfl rfl dX9_at_6 ?_
    refine lv_icmp_ge (tgt := 16) hx hb dX9_at_7 (by decide) (fun c7 => ?_) (fun c7 => ?_)
    · replace h1 := Ok.pos c7 h1
      refine lv_iconst (v := (-1)) hx hb dX9_at_16 rfl ?_
      exact kret_r hx hb hr hlocks hP hD hS h1 dX9_at_17
    · replace h1 := Ok.neg c7 h1
      refine lv_aload_n hx hb dX9_at_10 rfl (lv_at hl 0 rfl) ?_
      refine lv_iload_n hx hb dX9_at_11 rfl (lv_at hl 1 rfl) ?_
      have g12 := h1.grd1
      replace h1 := h1.grd2
      refine k_iald (k := (ix x1)) hx hb hK hP 0 rfl g12 rfl dX9_at_12 ?_
      refine lv_goto (tgt := 17) hx hb dX9_at_13 (by decide) ?_
      exact kret_r hx hb hr hlocks hP hD hS h1 dX9_at_17
def fX9_at (p1 : Int32) (n : Nat) (f : Nat → Int32) : Option (Int32) := fX9_at_b0 p1 n f
set_option maxHeartbeats 4000000 in
set_option maxRecDepth 100000 in
theorem cX9_atM (l : Launch) (D : va_G) (cy : Nat → ClassId) (ra : Nat) (sz : Nat) (n : Nat) (f : Nat → Int32) (p1 : Int32) : ∀ (K : Int32 → Prop), Ok (fX9_at p1 n f) K → Met l yX9_at wsX9_at rmX9_at (va_Pc [.ref ra, .int p1] (kPre D cy sz ([(ra, .inl (cy 0, n, .inl f))]))) (va_Qi (fun r (_ : Unit) => K r) (fun _ => kPost D (va_A ([(ra, .inl (cy 0, n, .inl f))]) sz) ([(ra, .inl (cy 0, n, .inl f))])) (va_A ([(ra, .inl (cy 0, n, .inl f))]) sz)) 0 0 (va_A ([(ra, .inl (cy 0, n, .inl f))]) sz) := by
  intro K h1
  refine Met.ofW (cc := cX9_at) (maxL := 2) (ret := (some .int)) (by decide) rfl ?_
  intro p e s m args below meth c s₁ B hml hv
  obtain ⟨rfl, hsz, hP, hK, hD0⟩ := hv
  subst hsz
  have E : mE D cy RX9 cX9_at 2 (some .int) wsX9_at (va_A ([(ra, .inl (cy 0, n, .inl f))]) s.heap.size) p s m _ meth c := ⟨B.exec, B.bytes, B.returns, hml, findClass_of_methodNamed B.named, atoms_spec (ws := wsX9_at) B.pre, B.notSynchronized, hK, fun q h => Or.inr h⟩
  have hl := lv_entry ([.ref ra, .int p1]) (n := 2) (Nat.le_of_ble_eq_true rfl)
  rw [lg_entry_eq]
  generalize (lg_sl ([.ref ra, .int p1]) ++ List.replicate (2 - (lg_sl ([.ref ra, .int p1])).length) Slot.unset).toArray = ls at hl ⊢
  exact tX9_at_b0 K E n f p1 _ _ _ hl hP hD0.self va_S.rf h1
-- X8_setKind
theorem inX8_setKind_X8 : ∀ w ∈ u_ws RX8 TX8 13, w ∈ wsX8_setKind := k_lays 2 rfl
theorem lkX8_setKind_24 : Cond.fieldLink RX8 24 "FerryRamp$State" "kinds" "[I" ∈ wsX8_setKind := List.mem_of_getElem? (i := 1) rfl
abbrev rmX8_setKind : Room := { frames := 0, cells := 0, slots := 0, locals := 0 }
def fX8_setKind_b0 (x1 : Int32) (x2 : Int32) (x3 : Int32) (x4 : Int32) (u : KS) : Option (KS) :=
  (if x1 < 0 then some u else (if 4 ≤ x1 then some u else grd (inb ((x1 * 3) + 0) 12) (grd (inb ((x1 * 3) + 1) 12) (grd (inb ((x1 * 3) + 2) 12) (some (wK (wK (wK u (ix ((x1 * 3) + 0)) x2) (ix ((x1 * 3) + 1)) x3) (ix ((x1 * 3) + 2)) x4))))))
set_option maxHeartbeats 4000000 in
set_option maxRecDepth 100000 in
theorem tX8_setKind_b0 {p : Program} {l : Launch} {e : Env} {s : State} {m : MethodId} {args : Array Value} {below : List Frame} {meth : Method} {c : Code} {D : va_G} {cy : Nat → ClassId} {A : Nat → Prop} {h : Nat} {a : Nat → Nat} (K : KS → Prop) (E : mE D cy RX8 cX8_setKind 5 none wsX8_setKind A p s m args meth c)
     (x1 : Int32) (x2 : Int32) (x3 : Int32) (x4 : Int32) (u : KS) (H : Heap) (locs : List Loc) (ls : Array Slot) (hl : lv_has ls 5 [(0, .ref h), (1, .int x1), (2, .int x2), (3, .int x3), (4, .int x4)]) (hP : va_P D kCl (wS cy h a u) H) (hD : va_D A (wS cy h a u)) (hS : va_S A s.heap H locs) (h1 : Ok (fX8_setKind_b0 x1 x2 x3 x4 u) K) :
    kW p l e rmX8_setKind s m args below meth c H locs (va_Qv K (fun q => kPost D A (wS cy h a q)) A) A 0 ls [] := by
  obtain ⟨hx, hb, hr, hml, hown, hts, hlocks, hK, hA⟩ := id E
  unfold fX8_setKind_b0 at h1
  refine lv_iload_n hx hb dX8_setKind_0 rfl (lv_at hl 1 rfl) ?_
  refine lv_if_lt (tgt := 43) hx hb dX8_setKind_1 (by decide) (fun c1 => ?_) (fun c1 => ?_)
  · replace h1 := Ok.pos c1 h1
    exact kret_v hx hb hr hlocks hP hD hS h1 dX8_setKind_43
  · replace h1 := Ok.neg c1 h1
    refine lv_iload_n hx hb dX8_setKind_4 rfl (lv_at hl 1 rfl) ?_
    refine lv_iconst (v := 4) hx hb dX8_setKind_5 rfl ?_
    refine lv_icmp_ge (tgt := 43) hx hb dX8_setKind_6 (by decide) (fun c6 => ?_) (fun c6 => ?_)
    · replace h1 := Ok.pos c6 h1
      exact kret_v hx hb hr hlocks hP hD hS h1 dX8_setKind_43
    · replace h1 := Ok.neg c6 h1
      refine lv_aload_n hx hb dX8_setKind_9 rfl (lv_at hl 0 rfl) ?_
      refine k_get (v := .ref (a 2)) (C := RX8) (T := TX8) (N := 13) hx hb hts inX8_setKind_X8 hown hK hP 0 (wS_a0 _ _ _ _) rfl 2 (by decide) lkX8_setKind_24 (sFs_2 _ _) dX8_setKind_10 ?_
      refine lv_iload_n hx hb dX8_setKind_13 rfl (lv_at hl 1 rfl) ?_
      refine lv_iconst (v := 3) hx hb dX8_setKind_14 rfl ?_
      refine lv_imul hx hb dX8_setKind_15 ?_
      refine lv_iconst (v := 0) hx hb dX8_setKind_16 rfl ?_
      refine lv_iadd hx hb dX8_setKind_17 ?_
      refine lv_iload_n hx hb dX8_setKind_18 rfl (lv_at hl 2 rfl) ?_
      have g19 := h1.grd1
      replace h1 := h1.grd2
      refine k_iast (k := (ix ((x1 * 3) + 0))) (ws' := wS cy h a (wK u (ix ((x1 * 3) + 0)) x2)) hx hb hK hP hD hS 3 (wS_a3 _ _ _ _) g19 rfl (wS_wK _ _ _ _ _ _) dX8_setKind_19 (fun H locs hP hD hS => ?_)
      refine lv_aload_n hx hb dX8_setKind_20 rfl (lv_at hl 0 rfl) ?_
      refine k_get (v := .ref (a 2)) (C := RX8) (T := TX8) (N := 13) hx hb hts inX8_setKind_X8 hown hK hP 0 (wS_a0 _ _ _ _) rfl 2 (by decide) lkX8_setKind_24 (sFs_2 _ _) dX8_setKind_21 ?_
      refine lv_iload_n hx hb dX8_setKind_24 rfl (lv_at hl 1 rfl) ?_
      refine lv_iconst (v := 3) hx hb dX8_setKind_25 rfl ?_
      refine lv_imul hx hb dX8_setKind_26 ?_
      refine lv_iconst (v := 1) hx hb dX8_setKind_27 rfl ?_
      refine lv_iadd hx hb dX8_setKind_28 ?_
      refine lv_iload_n hx hb dX8_setKind_29 rfl (lv_at hl 3 rfl) ?_
      have g30 := h1.grd1
      replace h1 := h1.grd2
      refine k_iast (k := (ix ((x1 * 3) + 1))) (ws' := wS cy h a (wK (wK u (ix ((x1 * 3) + 0)) x2) (ix ((x1 * 3) + 1)) x3)) hx hb hK hP hD hS 3 (wS_a3 _ _ _ _) g30 rfl (wS_wK _ _ _ _ _ _) dX8_setKind_30 (fun H locs hP hD hS => ?_)
      refine lv_aload_n hx hb dX8_setKind_31 rfl (lv_at hl 0 rfl) ?_
      refine k_get (v := .ref (a 2)) (C := RX8) (T := TX8) (N := 13) hx hb hts inX8_setKind_X8 hown hK hP 0 (wS_a0 _ _ _ _) rfl 2 (by decide) lkX8_setKind_24 (sFs_2 _ _) dX8_setKind_32 ?_
      refine lv_iload_n hx hb dX8_setKind_35 rfl (lv_at hl 1 rfl) ?_
      refine lv_iconst (v := 3) hx hb dX8_setKind_36 rfl ?_
      refine lv_imul hx hb dX8_setKind_37 ?_
      refine lv_iconst (v := 2) hx hb dX8_setKind_38 rfl ?_
      refine lv_iadd hx hb dX8_setKind_39 ?_
      refine lv_iload hx hb dX8_setKind_40 (lv_at hl 4 rfl) ?_
      have g42 := h1.grd1
      replace h1 := h1.grd2
      refine k_iast (k := (ix ((x1 * 3) + 2))) (ws' := wS cy h a (wK (wK (wK u (ix ((x1 * 3) + 0)) x2) (ix ((x1 * 3) + 1)) x3) (ix ((x1 * 3) + 2)) x4)) hx hb hK hP hD hS 3 (wS_a3 _ _ _ _) g42 rfl (wS_wK _ _ _ _ _ _) dX8_setKind_42 (fun H locs hP hD hS => ?_)
      exact kret_v hx hb hr hlocks hP hD hS h1 dX8_setKind_43
def fX8_setKind (p1 : Int32) (p2 : Int32) (p3 : Int32) (p4 : Int32) (u : KS) : Option (KS) := fX8_setKind_b0 p1 p2 p3 p4 u
set_option maxHeartbeats 4000000 in
set_option maxRecDepth 100000 in
theorem cX8_setKindM (l : Launch) (D : va_G) (cy : Nat → ClassId) (h : Nat) (a : Nat → Nat) (sz : Nat) (u : KS) (p1 : Int32) (p2 : Int32) (p3 : Int32) (p4 : Int32) : ∀ (K : KS → Prop), Ok (fX8_setKind p1 p2 p3 p4 u) K → Met l yX8_setKind wsX8_setKind rmX8_setKind (va_Pc [.ref h, .int p1, .int p2, .int p3, .int p4] (kPre D cy sz (wS cy h a u))) (va_Qv K (fun q => kPost D (va_A (wS cy h a u) sz) (wS cy h a q)) (va_A (wS cy h a u) sz)) 0 0 (va_A (wS cy h a u) sz) := by
  intro K h1
  refine Met.ofW (cc := cX8_setKind) (maxL := 5) (ret := none) (by decide) rfl ?_
  intro p e s m args below meth c s₁ B hml hv
  obtain ⟨rfl, hsz, hP, hK, hD0⟩ := hv
  subst hsz
  have E : mE D cy RX8 cX8_setKind 5 none wsX8_setKind (va_A (wS cy h a u) s.heap.size) p s m _ meth c := ⟨B.exec, B.bytes, B.returns, hml, findClass_of_methodNamed B.named, atoms_spec (ws := wsX8_setKind) B.pre, B.notSynchronized, hK, fun q h => Or.inr h⟩
  have hl := lv_entry ([.ref h, .int p1, .int p2, .int p3, .int p4]) (n := 5) (Nat.le_of_ble_eq_true rfl)
  rw [lg_entry_eq]
  generalize (lg_sl ([.ref h, .int p1, .int p2, .int p3, .int p4]) ++ List.replicate (5 - (lg_sl ([.ref h, .int p1, .int p2, .int p3, .int p4])).length) Slot.unset).toArray = ls at hl ⊢
  exact tX8_setKind_b0 K E p1 p2 p3 p4 u _ _ _ hl hP hD0.self va_S.rf h1
-- X8_setDefaults
theorem inX8_setDefaults_X8 : ∀ w ∈ u_ws RX8 TX8 13, w ∈ wsX8_setDefaults := k_lays 8 rfl
theorem lkX8_setDefaults_19 : Cond.fieldLink RX8 19 "FerryRamp$State" "settings" "[I" ∈ wsX8_setDefaults := List.mem_of_getElem? (i := 1) rfl
theorem hdX8_setKind : yX8_setKind.cls = RX8 ∧ yX8_setKind.cls ≠ "java/lang/invoke/MethodHandle" ∧ yX8_setKind.cls ≠ "java/lang/invoke/VarHandle" ∧ (parseMethodDescriptor yX8_setKind.desc).map (fun d => d.parameters.length) = some 4 := by decide +kernel
abbrev rmX8_setDefaults : Room := { frames := 1, cells := 0, slots := 0, locals := 24 }
def fX8_setDefaults_b115 (k115 : Int32 × KS → Option (KS)) (x1 : Int32) (u : KS) : Option (KS) :=
  (if 4 ≤ x1 then some u else bnd (fX8_setKind x1 100 10 (x1 + 1) u) (fun u129 => k115 (x1 + 1, u129)))
set_option maxHeartbeats 4000000 in
set_option maxRecDepth 100000 in
theorem tX8_setDefaults_b115 {p : Program} {l : Launch} {e : Env} {s : State} {m : MethodId} {args : Array Value} {below : List Frame} {meth : Method} {c : Code} {D : va_G} {cy : Nat → ClassId} {A : Nat → Prop} {h : Nat} {a : Nat → Nat} (K : KS → Prop) (E : mE D cy RX8 cX8_setDefaults 2 none wsX8_setDefaults A p s m args meth c)
    (k115 : Int32 × KS → Option (KS)) (hk115 : ∀ (x1 : Int32) (u : KS) (H : Heap) (locs : List Loc) (ls : Array Slot), lv_has ls 2 [(0, .ref h), (1, .int x1)] → va_P D kCl (wS cy h a u) H → va_D A (wS cy h a u) → va_S A s.heap H locs → Ok (k115 (x1, u)) K → kW p l e rmX8_setDefaults s m args below meth c H locs (va_Qv K (fun q => kPost D A (wS cy h a q)) A) A 115 ls [])
     (x1 : Int32) (u : KS) (H : Heap) (locs : List Loc) (ls : Array Slot) (hl : lv_has ls 2 [(0, .ref h), (1, .int x1)]) (hP : va_P D kCl (wS cy h a u) H) (hD : va_D A (wS cy h a u)) (hS : va_S A s.heap H locs) (h1 : Ok (fX8_setDefaults_b115 k115 x1 u) K) :
    kW p l e rmX8_setDefaults s m args below meth c H locs (va_Qv K (fun q => kPost D A (wS cy h a q)) A) A 115 ls [] := by
  obtain ⟨hx, hb, hr, hml, hown, hts, hlocks, hK, hA⟩ := id E
  unfold fX8_setDefaults_b115 at h1
  refine lv_iload_n hx hb dX8_setDefaults_115 rfl (lv_at hl 1 rfl) ?_
  refine lv_iconst (v := 4) hx hb dX8_setDefaults_116 rfl ?_
  refine lv_icmp_ge (tgt := 138) hx hb dX8_setDefaults_117 (by decide) (fun c117 => ?_) (fun c117 => ?_)
  · replace h1 := Ok.pos c117 h1
    exact kret_v hx hb hr hlocks hP hD hS h1 dX8_setDefaults_138
  · replace h1 := Ok.neg c117 h1
    refine lv_aload_n hx hb dX8_setDefaults_120 rfl (lv_at hl 0 rfl) ?_
    refine lv_iload_n hx hb dX8_setDefaults_121 rfl (lv_at hl 1 rfl) ?_
    refine lv_bipush (v := 100) hx hb dX8_setDefaults_122 rfl ?_
    refine lv_bipush (v := 10) hx hb dX8_setDefaults_124 rfl ?_
    refine lv_iload_n hx hb dX8_setDefaults_126 rfl (lv_at hl 1 rfl) ?_
    refine lv_iconst (v := 1) hx hb dX8_setDefaults_127 rfl ?_
    refine lv_iadd hx hb dX8_setDefaults_128 ?_
    refine kc_vV0 (b := h) (As := [.int x1, .int 100, .int 10, .int (x1 + 1)]) (rest := []) h1 ⟨hx, hb, hml, hown, hts⟩ (cX8_setKindM l D cy h a H.size u x1 100 10 (x1 + 1)) (cwV 4 hts gX8_setDefaults_X8_setKind rfl rfl rfl hdX8_setKind ⟨Nat.le_of_ble_eq_true rfl, Nat.le_of_ble_eq_true rfl⟩) hK hP hD hS hA (q0 := 0) rfl rfl rfl hl.1 rfl (Nat.le_of_ble_eq_true rfl) dX8_setDefaults_129 ⟨Nat.zero_le _, Nat.zero_le _⟩ (fun u129 H locs h1 hP hD hS => ?_)
    refine lv_iinc (v := x1 + 1) (lv' := [(1, .int (x1 + 1)), (0, .ref h)]) hx hb dX8_setDefaults_132 hl (k := 1) rfl rfl (by decide) rfl (fun ls hl => ?_)
    refine lv_goto (tgt := 115) hx hb dX8_setDefaults_135 (by decide) ?_
    exact hk115 (x1 + 1) u129 H locs ls (lv_sub hl [1, 0] rfl) hP hD hS h1
theorem tX8_setDefaults_l115 {p : Program} {l : Launch} {e : Env} {s : State} {m : MethodId} {args : Array Value} {below : List Frame} {meth : Method} {c : Code} {D : va_G} {cy : Nat → ClassId} {A : Nat → Prop} {h : Nat} {a : Nat → Nat} (K : KS → Prop) (E : mE D cy RX8 cX8_setDefaults 2 none wsX8_setDefaults A p s m args meth c) : ∀ (n9 : Nat) (x1 : Int32) (u : KS) (H : Heap) (locs : List Loc) (ls : Array Slot), lv_has ls 2 [(0, .ref h), (1, .int x1)] → va_P D kCl (wS cy h a u) H → va_D A (wS cy h a u) → va_S A s.heap H locs → Ok (lop (fun y z => fX8_setDefaults_b115 y z.1 z.2) n9 (x1, u)) K → kW p l e rmX8_setDefaults s m args below meth c H locs (va_Qv K (fun q => kPost D A (wS cy h a q)) A) A 115 ls [] := by
  intro n9
  induction n9 with
  | zero =>
    intro x1 u H locs ls hl hP hD hS h1
    exact h1.no
  | succ n9 ih =>
    intro x1 u H locs ls hl hP hD hS h1
    exact tX8_setDefaults_b115 K E (lop (fun y z => fX8_setDefaults_b115 y z.1 z.2) n9) (fun x1 u H locs ls hl hP hD hS h1 => ih x1 u H locs ls hl hP hD hS h1) x1 u H locs ls hl hP hD hS h1
def fX8_setDefaults_b0 (u : KS) : Option (KS) :=
  lop (fun y z => fX8_setDefaults_b115 y z.1 z.2) LF (0, wT (wT (wT (wT (wT (wT (wT (wT (wT (wT (wT (wT (wT (wT u 0 0) 1 0) 2 10) 3 0) 4 0) 5 100) 6 10) 7 1000) 8 1000) 9 2) 10 5) 11 2) 12 3) 13 5)
set_option maxHeartbeats 4000000 in
set_option maxRecDepth 100000 in
theorem tX8_setDefaults_b0 {p : Program} {l : Launch} {e : Env} {s : State} {m : MethodId} {args : Array Value} {below : List Frame} {meth : Method} {c : Code} {D : va_G} {cy : Nat → ClassId} {A : Nat → Prop} {h : Nat} {a : Nat → Nat} (K : KS → Prop) (E : mE D cy RX8 cX8_setDefaults 2 none wsX8_setDefaults A p s m args meth c)
     (u : KS) (H : Heap) (locs : List Loc) (ls : Array Slot) (hl : lv_has ls 2 [(0, .ref h)]) (hP : va_P D kCl (wS cy h a u) H) (hD : va_D A (wS cy h a u)) (hS : va_S A s.heap H locs) (h1 : Ok (fX8_setDefaults_b0 u) K) :
    kW p l e rmX8_setDefaults s m args below meth c H locs (va_Qv K (fun q => kPost D A (wS cy h a q)) A) A 0 ls [] := by
  obtain ⟨hx, hb, hr, hml, hown, hts, hlocks, hK, hA⟩ := id E
  unfold fX8_setDefaults_b0 at h1
  refine lv_aload_n hx hb dX8_setDefaults_0 rfl (lv_at hl 0 rfl) ?_
  refine k_get (v := .ref (a 1)) (C := RX8) (T := TX8) (N := 13) hx hb hts inX8_setDefaults_X8 hown hK hP 0 (wS_a0 _ _ _ _) rfl 1 (by decide) lkX8_setDefaults_19 (sFs_1 _ _) dX8_setDefaults_1 ?_
  refine lv_iconst (v := 0) hx hb dX8_setDefaults_4 rfl ?_
  refine lv_iconst (v := 0) hx hb dX8_setDefaults_5 rfl ?_
  refine k_iast (k := 0) (ws' := wS cy h a (wT u 0 0)) hx hb hK hP hD hS 2 (wS_a2 _ _ _ _) rfl rfl (wS_wT _ _ _ _ _ _) dX8_setDefaults_6 (fun H locs hP hD hS => ?_)
  refine lv_aload_n hx hb dX8_setDefaults_7 rfl (lv_at hl 0 rfl) ?_
  refine k_get (v := .ref (a 1)) (C := RX8) (T := TX8) (N := 13) hx hb hts inX8_setDefaults_X8 hown hK hP 0 (wS_a0 _ _ _ _) rfl 1 (by decide) lkX8_setDefaults_19 (sFs_1 _ _) dX8_setDefaults_8 ?_
  refine lv_iconst (v := 1) hx hb dX8_setDefaults_11 rfl ?_
  refine lv_iconst (v := 0) hx hb dX8_setDefaults_12 rfl ?_
  refine k_iast (k := 1) (ws' := wS cy h a (wT (wT u 0 0) 1 0)) hx hb hK hP hD hS 2 (wS_a2 _ _ _ _) rfl rfl (wS_wT _ _ _ _ _ _) dX8_setDefaults_13 (fun H locs hP hD hS => ?_)
  refine lv_aload_n hx hb dX8_setDefaults_14 rfl (lv_at hl 0 rfl) ?_
  refine k_get (v := .ref (a 1)) (C := RX8) (T := TX8) (N := 13) hx hb hts inX8_setDefaults_X8 hown hK hP 0 (wS_a0 _ _ _ _) rfl 1 (by decide) lkX8_setDefaults_19 (sFs_1 _ _) dX8_setDefaults_15 ?_
  refine lv_iconst (v := 2) hx hb dX8_setDefaults_18 rfl ?_
  refine lv_bipush (v := 10) hx hb dX8_setDefaults_19 rfl ?_
  refine k_iast (k := 2) (ws' := wS cy h a (wT (wT (wT u 0 0) 1 0) 2 10)) hx hb hK hP hD hS 2 (wS_a2 _ _ _ _) rfl rfl (wS_wT _ _ _ _ _ _) dX8_setDefaults_21 (fun H locs hP hD hS => ?_)
  refine lv_aload_n hx hb dX8_setDefaults_22 rfl (lv_at hl 0 rfl) ?_
  refine k_get (v := .ref (a 1)) (C := RX8) (T := TX8) (N := 13) hx hb hts inX8_setDefaults_X8 hown hK hP 0 (wS_a0 _ _ _ _) rfl 1 (by decide) lkX8_setDefaults_19 (sFs_1 _ _) dX8_setDefaults_23 ?_
  refine lv_iconst (v := 3) hx hb dX8_setDefaults_26 rfl ?_
  refine lv_iconst (v := 0) hx hb dX8_setDefaults_27 rfl ?_
  refine k_iast (k := 3) (ws' := wS cy h a (wT (wT (wT (wT u 0 0) 1 0) 2 10) 3 0)) hx hb hK hP hD hS 2 (wS_a2 _ _ _ _) rfl rfl (wS_wT _ _ _ _ _ _) dX8_setDefaults_28 (fun H locs hP hD hS => ?_)
  refine lv_aload_n hx hb dX8_setDefaults_29 rfl (lv_at hl 0 rfl) ?_
  refine k_get (v := .ref (a 1)) (C := RX8) (T := TX8) (N := 13) hx hb hts inX8_setDefaults_X8 hown hK hP 0 (wS_a0 _ _ _ _) rfl 1 (by decide) lkX8_setDefaults_19 (sFs_1 _ _) dX8_setDefaults_30 ?_
  refine lv_iconst (v := 4) hx hb dX8_setDefaults_33 rfl ?_
  refine lv_iconst (v := 0) hx hb dX8_setDefaults_34 rfl ?_
  refine k_iast (k := 4) (ws' := wS cy h a (wT (wT (wT (wT (wT u 0 0) 1 0) 2 10) 3 0) 4 0)) hx hb hK hP hD hS 2 (wS_a2 _ _ _ _) rfl rfl (wS_wT _ _ _ _ _ _) dX8_setDefaults_35 (fun H locs hP hD hS => ?_)
  refine lv_aload_n hx hb dX8_setDefaults_36 rfl (lv_at hl 0 rfl) ?_
  refine k_get (v := .ref (a 1)) (C := RX8) (T := TX8) (N := 13) hx hb hts inX8_setDefaults_X8 hown hK hP 0 (wS_a0 _ _ _ _) rfl 1 (by decide) lkX8_setDefaults_19 (sFs_1 _ _) dX8_setDefaults_37 ?_
  refine lv_iconst (v := 5) hx hb dX8_setDefaults_40 rfl ?_
  refine lv_bipush (v := 100) hx hb dX8_setDefaults_41 rfl ?_
  refine k_iast (k := 5) (ws' := wS cy h a (wT (wT (wT (wT (wT (wT u 0 0) 1 0) 2 10) 3 0) 4 0) 5 100)) hx hb hK hP hD hS 2 (wS_a2 _ _ _ _) rfl rfl (wS_wT _ _ _ _ _ _) dX8_setDefaults_43 (fun H locs hP hD hS => ?_)
  refine lv_aload_n hx hb dX8_setDefaults_44 rfl (lv_at hl 0 rfl) ?_
  refine k_get (v := .ref (a 1)) (C := RX8) (T := TX8) (N := 13) hx hb hts inX8_setDefaults_X8 hown hK hP 0 (wS_a0 _ _ _ _) rfl 1 (by decide) lkX8_setDefaults_19 (sFs_1 _ _) dX8_setDefaults_45 ?_
  refine lv_bipush (v := 6) hx hb dX8_setDefaults_48 rfl ?_
  refine lv_bipush (v := 10) hx hb dX8_setDefaults_50 rfl ?_
  refine k_iast (k := 6) (ws' := wS cy h a (wT (wT (wT (wT (wT (wT (wT u 0 0) 1 0) 2 10) 3 0) 4 0) 5 100) 6 10)) hx hb hK hP hD hS 2 (wS_a2 _ _ _ _) rfl rfl (wS_wT _ _ _ _ _ _) dX8_setDefaults_52 (fun H locs hP hD hS => ?_)
  refine lv_aload_n hx hb dX8_setDefaults_53 rfl (lv_at hl 0 rfl) ?_
  refine k_get (v := .ref (a 1)) (C := RX8) (T := TX8) (N := 13) hx hb hts inX8_setDefaults_X8 hown hK hP 0 (wS_a0 _ _ _ _) rfl 1 (by decide) lkX8_setDefaults_19 (sFs_1 _ _) dX8_setDefaults_54 ?_
  refine lv_bipush (v := 7) hx hb dX8_setDefaults_57 rfl ?_
  refine lv_sipush (v := 1000) hx hb dX8_setDefaults_59 rfl ?_
  refine k_iast (k := 7) (ws' := wS cy h a (wT (wT (wT (wT (wT (wT (wT (wT u 0 0) 1 0) 2 10) 3 0) 4 0) 5 100) 6 10) 7 1000)) hx hb hK hP hD hS 2 (wS_a2 _ _ _ _) rfl rfl (wS_wT _ _ _ _ _ _) dX8_setDefaults_62 (fun H locs hP hD hS => ?_)
  refine lv_aload_n hx hb dX8_setDefaults_63 rfl (lv_at hl 0 rfl) ?_
  refine k_get (v := .ref (a 1)) (C := RX8) (T := TX8) (N := 13) hx hb hts inX8_setDefaults_X8 hown hK hP 0 (wS_a0 _ _ _ _) rfl 1 (by decide) lkX8_setDefaults_19 (sFs_1 _ _) dX8_setDefaults_64 ?_
  refine lv_bipush (v := 8) hx hb dX8_setDefaults_67 rfl ?_
  refine lv_sipush (v := 1000) hx hb dX8_setDefaults_69 rfl ?_
  refine k_iast (k := 8) (ws' := wS cy h a (wT (wT (wT (wT (wT (wT (wT (wT (wT u 0 0) 1 0) 2 10) 3 0) 4 0) 5 100) 6 10) 7 1000) 8 1000)) hx hb hK hP hD hS 2 (wS_a2 _ _ _ _) rfl rfl (wS_wT _ _ _ _ _ _) dX8_setDefaults_72 (fun H locs hP hD hS => ?_)
  refine lv_aload_n hx hb dX8_setDefaults_73 rfl (lv_at hl 0 rfl) ?_
  refine k_get (v := .ref (a 1)) (C := RX8) (T := TX8) (N := 13) hx hb hts inX8_setDefaults_X8 hown hK hP 0 (wS_a0 _ _ _ _) rfl 1 (by decide) lkX8_setDefaults_19 (sFs_1 _ _) dX8_setDefaults_74 ?_
  refine lv_bipush (v := 9) hx hb dX8_setDefaults_77 rfl ?_
  refine lv_iconst (v := 2) hx hb dX8_setDefaults_79 rfl ?_
  refine k_iast (k := 9) (ws' := wS cy h a (wT (wT (wT (wT (wT (wT (wT (wT (wT (wT u 0 0) 1 0) 2 10) 3 0) 4 0) 5 100) 6 10) 7 1000) 8 1000) 9 2)) hx hb hK hP hD hS 2 (wS_a2 _ _ _ _) rfl rfl (wS_wT _ _ _ _ _ _) dX8_setDefaults_80 (fun H locs hP hD hS => ?_)
  refine lv_aload_n hx hb dX8_setDefaults_81 rfl (lv_at hl 0 rfl) ?_
  refine k_get (v := .ref (a 1)) (C := RX8) (T := TX8) (N := 13) hx hb hts inX8_setDefaults_X8 hown hK hP 0 (wS_a0 _ _ _ _) rfl 1 (by decide) lkX8_setDefaults_19 (sFs_1 _ _) dX8_setDefaults_82 ?_
  refine lv_bipush (v := 10) hx hb dX8_setDefaults_85 rfl ?_
  refine lv_iconst (v := 5) hx hb dX8_setDefaults_87 rfl ?_
  refine k_iast (k := 10) (ws' := wS cy h a (wT (wT (wT (wT (wT (wT (wT (wT (wT (wT (wT u 0 0) 1 0) 2 10) 3 0) 4 0) 5 100) 6 10) 7 1000) 8 1000) 9 2) 10 5)) hx hb hK hP hD hS 2 (wS_a2 _ _ _ _) rfl rfl (wS_wT _ _ _ _ _ _) dX8_setDefaults_88 (fun H locs hP hD hS => ?_)
  refine lv_aload_n hx hb dX8_setDefaults_89 rfl (lv_at hl 0 rfl) ?_
  refine k_get (v := .ref (a 1)) (C := RX8) (T := TX8) (N := 13) hx hb hts inX8_setDefaults_X8 hown hK hP 0 (wS_a0 _ _ _ _) rfl 1 (by decide) lkX8_setDefaults_19 (sFs_1 _ _) dX8_setDefaults_90 ?_
  refine lv_bipush (v := 11) hx hb dX8_setDefaults_93 rfl ?_
  refine lv_iconst (v := 2) hx hb dX8_setDefaults_95 rfl ?_
  refine k_iast (k := 11) (ws' := wS cy h a (wT (wT (wT (wT (wT (wT (wT (wT (wT (wT (wT (wT u 0 0) 1 0) 2 10) 3 0) 4 0) 5 100) 6 10) 7 1000) 8 1000) 9 2) 10 5) 11 2)) hx hb hK hP hD hS 2 (wS_a2 _ _ _ _) rfl rfl (wS_wT _ _ _ _ _ _) dX8_setDefaults_96 (fun H locs hP hD hS => ?_)
  refine lv_aload_n hx hb dX8_setDefaults_97 rfl (lv_at hl 0 rfl) ?_
  refine k_get (v := .ref (a 1)) (C := RX8) (T := TX8) (N := 13) hx hb hts inX8_setDefaults_X8 hown hK hP 0 (wS_a0 _ _ _ _) rfl 1 (by decide) lkX8_setDefaults_19 (sFs_1 _ _) dX8_setDefaults_98 ?_
  refine lv_bipush (v := 12) hx hb dX8_setDefaults_101 rfl ?_
  refine lv_iconst (v := 3) hx hb dX8_setDefaults_103 rfl ?_
  refine k_iast (k := 12) (ws' := wS cy h a (wT (wT (wT (wT (wT (wT (wT (wT (wT (wT (wT (wT (wT u 0 0) 1 0) 2 10) 3 0) 4 0) 5 100) 6 10) 7 1000) 8 1000) 9 2) 10 5) 11 2) 12 3)) hx hb hK hP hD hS 2 (wS_a2 _ _ _ _) rfl rfl (wS_wT _ _ _ _ _ _) dX8_setDefaults_104 (fun H locs hP hD hS => ?_)
  refine lv_aload_n hx hb dX8_setDefaults_105 rfl (lv_at hl 0 rfl) ?_
  refine k_get (v := .ref (a 1)) (C := RX8) (T := TX8) (N := 13) hx hb hts inX8_setDefaults_X8 hown hK hP 0 (wS_a0 _ _ _ _) rfl 1 (by decide) lkX8_setDefaults_19 (sFs_1 _ _) dX8_setDefaults_106 ?_
  refine lv_bipush (v := 13) hx hb dX8_setDefaults_109 rfl ?_
  refine lv_iconst (v := 5) hx hb dX8_setDefaults_111 rfl ?_
  refine k_iast (k := 13) (ws' := wS cy h a (wT (wT (wT (wT (wT (wT (wT (wT (wT (wT (wT (wT (wT (wT u 0 0) 1 0) 2 10) 3 0) 4 0) 5 100) 6 10) 7 1000) 8 1000) 9 2) 10 5) 11 2) 12 3) 13 5)) hx hb hK hP hD hS 2 (wS_a2 _ _ _ _) rfl rfl (wS_wT _ _ _ _ _ _) dX8_setDefaults_112 (fun H locs hP hD hS => ?_)
  refine lv_iconst (v := 0) hx hb dX8_setDefaults_113 rfl ?_
  refine lv_istore_n (lv' := [(1, .int 0), (0, .ref h)]) hx hb dX8_setDefaults_114 rfl hl (by decide) rfl (fun ls hl => ?_)
  exact tX8_setDefaults_l115 K E LF 0 (wT (wT (wT (wT (wT (wT (wT (wT (wT (wT (wT (wT (wT (wT u 0 0) 1 0) 2 10) 3 0) 4 0) 5 100) 6 10) 7 1000) 8 1000) 9 2) 10 5) 11 2) 12 3) 13 5) H locs ls (lv_sub hl [1, 0] rfl) hP hD hS h1
def fX8_setDefaults (u : KS) : Option (KS) := fX8_setDefaults_b0 u
set_option maxHeartbeats 4000000 in
set_option maxRecDepth 100000 in
theorem cX8_setDefaultsM (l : Launch) (D : va_G) (cy : Nat → ClassId) (h : Nat) (a : Nat → Nat) (sz : Nat) (u : KS) : ∀ (K : KS → Prop), Ok (fX8_setDefaults u) K → Met l yX8_setDefaults wsX8_setDefaults rmX8_setDefaults (va_Pc [.ref h] (kPre D cy sz (wS cy h a u))) (va_Qv K (fun q => kPost D (va_A (wS cy h a u) sz) (wS cy h a q)) (va_A (wS cy h a u) sz)) 0 0 (va_A (wS cy h a u) sz) := by
  intro K h1
  refine Met.ofW (cc := cX8_setDefaults) (maxL := 2) (ret := none) (by decide) rfl ?_
  intro p e s m args below meth c s₁ B hml hv
  obtain ⟨rfl, hsz, hP, hK, hD0⟩ := hv
  subst hsz
  have E : mE D cy RX8 cX8_setDefaults 2 none wsX8_setDefaults (va_A (wS cy h a u) s.heap.size) p s m _ meth c := ⟨B.exec, B.bytes, B.returns, hml, findClass_of_methodNamed B.named, atoms_spec (ws := wsX8_setDefaults) B.pre, B.notSynchronized, hK, fun q h => Or.inr h⟩
  have hl := lv_entry ([.ref h]) (n := 2) (Nat.le_of_ble_eq_true rfl)
  rw [lg_entry_eq]
  generalize (lg_sl ([.ref h]) ++ List.replicate (2 - (lg_sl ([.ref h])).length) Slot.unset).toArray = ls at hl ⊢
  exact tX8_setDefaults_b0 K E u _ _ _ hl hP hD0.self va_S.rf h1
-- X8_becomeNew
theorem inX8_becomeNew_X8 : ∀ w ∈ u_ws RX8 TX8 13, w ∈ wsX8_becomeNew := k_lays 16 rfl
theorem lkX8_becomeNew_11 : Cond.fieldLink RX8 11 "FerryRamp$State" "counts" "[I" ∈ wsX8_becomeNew := List.mem_of_getElem? (i := 1) rfl
theorem hdX8_setDefaults : yX8_setDefaults.cls = RX8 ∧ yX8_setDefaults.cls ≠ "java/lang/invoke/MethodHandle" ∧ yX8_setDefaults.cls ≠ "java/lang/invoke/VarHandle" ∧ (parseMethodDescriptor yX8_setDefaults.desc).map (fun d => d.parameters.length) = some 0 := by decide +kernel
theorem lkX8_becomeNew_38 : Cond.fieldLink RX8 38 "FerryRamp$State" "deckCars" "[I" ∈ wsX8_becomeNew := List.mem_of_getElem? (i := 2) rfl
theorem lkX8_becomeNew_41 : Cond.fieldLink RX8 41 "FerryRamp$State" "weights" "[I" ∈ wsX8_becomeNew := List.mem_of_getElem? (i := 3) rfl
theorem lkX8_becomeNew_44 : Cond.fieldLink RX8 44 "FerryRamp$State" "taken" "[I" ∈ wsX8_becomeNew := List.mem_of_getElem? (i := 4) rfl
abbrev rmX8_becomeNew : Room := { frames := 2, cells := 0, slots := 0, locals := 45 }
def fX8_becomeNew_b39 (k39 : Int32 × KS → Option (KS)) (x1 : Int32) (u : KS) : Option (KS) :=
  (if 3 ≤ x1 then bnd (fX8_setDefaults u) (fun u72 => some u72) else grd (inb x1 3) (grd (inb x1 3) (grd (inb x1 3) (k39 (x1 + 1, wN (wW (wD u (ix x1) 0) (ix x1) 0) (ix x1) 0)))))
set_option maxHeartbeats 4000000 in
set_option maxRecDepth 100000 in
theorem tX8_becomeNew_b39 {p : Program} {l : Launch} {e : Env} {s : State} {m : MethodId} {args : Array Value} {below : List Frame} {meth : Method} {c : Code} {D : va_G} {cy : Nat → ClassId} {A : Nat → Prop} {h : Nat} {a : Nat → Nat} (K : KS → Prop) (E : mE D cy RX8 cX8_becomeNew 2 none wsX8_becomeNew A p s m args meth c)
    (k39 : Int32 × KS → Option (KS)) (hk39 : ∀ (x1 : Int32) (u : KS) (H : Heap) (locs : List Loc) (ls : Array Slot), lv_has ls 2 [(0, .ref h), (1, .int x1)] → va_P D kCl (wS cy h a u) H → va_D A (wS cy h a u) → va_S A s.heap H locs → Ok (k39 (x1, u)) K → kW p l e rmX8_becomeNew s m args below meth c H locs (va_Qv K (fun q => kPost D A (wS cy h a q)) A) A 39 ls [])
     (x1 : Int32) (u : KS) (H : Heap) (locs : List Loc) (ls : Array Slot) (hl : lv_has ls 2 [(0, .ref h), (1, .int x1)]) (hP : va_P D kCl (wS cy h a u) H) (hD : va_D A (wS cy h a u)) (hS : va_S A s.heap H locs) (h1 : Ok (fX8_becomeNew_b39 k39 x1 u) K) :
    kW p l e rmX8_becomeNew s m args below meth c H locs (va_Qv K (fun q => kPost D A (wS cy h a q)) A) A 39 ls [] := by
  obtain ⟨hx, hb, hr, hml, hown, hts, hlocks, hK, hA⟩ := id E
  unfold fX8_becomeNew_b39 at h1
  refine lv_iload_n hx hb dX8_becomeNew_39 rfl (lv_at hl 1 rfl) ?_
  refine lv_iconst (v := 3) hx hb dX8_becomeNew_40 rfl ?_
  refine lv_icmp_ge (tgt := 71) hx hb dX8_becomeNew_41 (by decide) (fun c41 => ?_) (fun c41 => ?_)
  · replace h1 := Ok.pos c41 h1
    refine lv_aload_n hx hb dX8_becomeNew_71 rfl (lv_at hl 0 rfl) ?_
    refine kc_vV0 (b := h) (As := []) (rest := []) h1 ⟨hx, hb, hml, hown, hts⟩ (cX8_setDefaultsM l D cy h a H.size u) (cwV 0 hts gX8_becomeNew_X8_setDefaults rfl rfl rfl hdX8_setDefaults ⟨Nat.le_of_ble_eq_true rfl, Nat.le_of_ble_eq_true rfl⟩) hK hP hD hS hA (q0 := 0) rfl rfl rfl hl.1 rfl (Nat.le_of_ble_eq_true rfl) dX8_becomeNew_72 ⟨Nat.zero_le _, Nat.zero_le _⟩ (fun u72 H locs h1 hP hD hS => ?_)
    exact kret_v hx hb hr hlocks hP hD hS h1 dX8_becomeNew_75
  · replace h1 := Ok.neg c41 h1
    refine lv_aload_n hx hb dX8_becomeNew_44 rfl (lv_at hl 0 rfl) ?_
    refine k_get (v := .ref (a 6)) (C := RX8) (T := TX8) (N := 13) hx hb hts inX8_becomeNew_X8 hown hK hP 0 (wS_a0 _ _ _ _) rfl 6 (by decide) lkX8_becomeNew_38 (sFs_6 _ _) dX8_becomeNew_45 ?_
    refine lv_iload_n hx hb dX8_becomeNew_48 rfl (lv_at hl 1 rfl) ?_
    refine lv_iconst (v := 0) hx hb dX8_becomeNew_49 rfl ?_
    have g50 := h1.grd1
    replace h1 := h1.grd2
    refine k_iast (k := (ix x1)) (ws' := wS cy h a (wD u (ix x1) 0)) hx hb hK hP hD hS 7 (wS_a7 _ _ _ _) g50 rfl (wS_wD _ _ _ _ _ _) dX8_becomeNew_50 (fun H locs hP hD hS => ?_)
    refine lv_aload_n hx hb dX8_becomeNew_51 rfl (lv_at hl 0 rfl) ?_
    refine k_get (v := .ref (a 7)) (C := RX8) (T := TX8) (N := 13) hx hb hts inX8_becomeNew_X8 hown hK hP 0 (wS_a0 _ _ _ _) rfl 7 (by decide) lkX8_becomeNew_41 (sFs_7 _ _) dX8_becomeNew_52 ?_
    refine lv_iload_n hx hb dX8_becomeNew_55 rfl (lv_at hl 1 rfl) ?_
    refine lv_iconst (v := 0) hx hb dX8_becomeNew_56 rfl ?_
    have g57 := h1.grd1
    replace h1 := h1.grd2
    refine k_iast (k := (ix x1)) (ws' := wS cy h a (wW (wD u (ix x1) 0) (ix x1) 0)) hx hb hK hP hD hS 8 (wS_a8 _ _ _ _) g57 rfl (wS_wW _ _ _ _ _ _) dX8_becomeNew_57 (fun H locs hP hD hS => ?_)
    refine lv_aload_n hx hb dX8_becomeNew_58 rfl (lv_at hl 0 rfl) ?_
    refine k_get (v := .ref (a 8)) (C := RX8) (T := TX8) (N := 13) hx hb hts inX8_becomeNew_X8 hown hK hP 0 (wS_a0 _ _ _ _) rfl 8 (by decide) lkX8_becomeNew_44 (sFs_8 _ _) dX8_becomeNew_59 ?_
    refine lv_iload_n hx hb dX8_becomeNew_62 rfl (lv_at hl 1 rfl) ?_
    refine lv_iconst (v := 0) hx hb dX8_becomeNew_63 rfl ?_
    have g64 := h1.grd1
    replace h1 := h1.grd2
    refine k_iast (k := (ix x1)) (ws' := wS cy h a (wN (wW (wD u (ix x1) 0) (ix x1) 0) (ix x1) 0)) hx hb hK hP hD hS 9 (wS_a9 _ _ _ _) g64 rfl (wS_wN _ _ _ _ _ _) dX8_becomeNew_64 (fun H locs hP hD hS => ?_)
    refine lv_iinc (v := x1 + 1) (lv' := [(1, .int (x1 + 1)), (0, .ref h)]) hx hb dX8_becomeNew_65 hl (k := 1) rfl rfl (by decide) rfl (fun ls hl => ?_)
    refine lv_goto (tgt := 39) hx hb dX8_becomeNew_68 (by decide) ?_
    exact hk39 (x1 + 1) (wN (wW (wD u (ix x1) 0) (ix x1) 0) (ix x1) 0) H locs ls (lv_sub hl [1, 0] rfl) hP hD hS h1
theorem tX8_becomeNew_l39 {p : Program} {l : Launch} {e : Env} {s : State} {m : MethodId} {args : Array Value} {below : List Frame} {meth : Method} {c : Code} {D : va_G} {cy : Nat → ClassId} {A : Nat → Prop} {h : Nat} {a : Nat → Nat} (K : KS → Prop) (E : mE D cy RX8 cX8_becomeNew 2 none wsX8_becomeNew A p s m args meth c) : ∀ (n9 : Nat) (x1 : Int32) (u : KS) (H : Heap) (locs : List Loc) (ls : Array Slot), lv_has ls 2 [(0, .ref h), (1, .int x1)] → va_P D kCl (wS cy h a u) H → va_D A (wS cy h a u) → va_S A s.heap H locs → Ok (lop (fun y z => fX8_becomeNew_b39 y z.1 z.2) n9 (x1, u)) K → kW p l e rmX8_becomeNew s m args below meth c H locs (va_Qv K (fun q => kPost D A (wS cy h a q)) A) A 39 ls [] := by
  intro n9
  induction n9 with
  | zero =>
    intro x1 u H locs ls hl hP hD hS h1
    exact h1.no
  | succ n9 ih =>
    intro x1 u H locs ls hl hP hD hS h1
    exact tX8_becomeNew_b39 K E (lop (fun y z => fX8_becomeNew_b39 y z.1 z.2) n9) (fun x1 u H locs ls hl hP hD hS h1 => ih x1 u H locs ls hl hP hD hS h1) x1 u H locs ls hl hP hD hS h1
def fX8_becomeNew_b2 (k2 : Int32 × KS → Option (KS)) (x1 : Int32) (u : KS) : Option (KS) :=
  (if 17 ≤ x1 then lop (fun y z => fX8_becomeNew_b39 y z.1 z.2) LF (0, wC (wC u 8 (-1)) 16 1) else grd (inb x1 17) (k2 (x1 + 1, wC u (ix x1) 0)))
set_option maxHeartbeats 4000000 in
set_option maxRecDepth 100000 in
theorem tX8_becomeNew_b2 {p : Program} {l : Launch} {e : Env} {s : State} {m : MethodId} {args : Array Value} {below : List Frame} {meth : Method} {c : Code} {D : va_G} {cy : Nat → ClassId} {A : Nat → Prop} {h : Nat} {a : Nat → Nat} (K : KS → Prop) (E : mE D cy RX8 cX8_becomeNew 2 none wsX8_becomeNew A p s m args meth c)
    (k2 : Int32 × KS → Option (KS)) (hk2 : ∀ (x1 : Int32) (u : KS) (H : Heap) (locs : List Loc) (ls : Array Slot), lv_has ls 2 [(0, .ref h), (1, .int x1)] → va_P D kCl (wS cy h a u) H → va_D A (wS cy h a u) → va_S A s.heap H locs → Ok (k2 (x1, u)) K → kW p l e rmX8_becomeNew s m args below meth c H locs (va_Qv K (fun q => kPost D A (wS cy h a q)) A) A 2 ls [])
     (x1 : Int32) (u : KS) (H : Heap) (locs : List Loc) (ls : Array Slot) (hl : lv_has ls 2 [(0, .ref h), (1, .int x1)]) (hP : va_P D kCl (wS cy h a u) H) (hD : va_D A (wS cy h a u)) (hS : va_S A s.heap H locs) (h1 : Ok (fX8_becomeNew_b2 k2 x1 u) K) :
    kW p l e rmX8_becomeNew s m args below meth c H locs (va_Qv K (fun q => kPost D A (wS cy h a q)) A) A 2 ls [] := by
  obtain ⟨hx, hb, hr, hml, hown, hts, hlocks, hK, hA⟩ := id E
  unfold fX8_becomeNew_b2 at h1
  refine lv_iload_n hx hb dX8_becomeNew_2 rfl (lv_at hl 1 rfl) ?_
  refine lv_bipush (v := 17) hx hb dX8_becomeNew_3 rfl ?_
  refine lv_icmp_ge (tgt := 21) hx hb dX8_becomeNew_5 (by decide) (fun c5 => ?_) (fun c5 => ?_)
  · replace h1 := Ok.pos c5 h1
    refine lv_aload_n hx hb dX8_becomeNew_21 rfl (lv_at hl 0 rfl) ?_
    refine k_get (v := .ref (a 0)) (C := RX8) (T := TX8) (N := 13) hx hb hts inX8_becomeNew_X8 hown hK hP 0 (wS_a0 _ _ _ _) rfl 0 (by decide) lkX8_becomeNew_11 (sFs_0 _ _) dX8_becomeNew_22 ?_
    refine lv_bipush (v := 8) hx hb dX8_becomeNew_25 rfl ?_
    refine lv_iconst (v := (-1)) hx hb dX8_becomeNew_27 rfl ?_
    refine k_iast (k := 8) (ws' := wS cy h a (wC u 8 (-1))) hx hb hK hP hD hS 1 (wS_a1 _ _ _ _) rfl rfl (wS_wC _ _ _ _ _ _) dX8_becomeNew_28 (fun H locs hP hD hS => ?_)
    refine lv_aload_n hx hb dX8_becomeNew_29 rfl (lv_at hl 0 rfl) ?_
    refine k_get (v := .ref (a 0)) (C := RX8) (T := TX8) (N := 13) hx hb hts inX8_becomeNew_X8 hown hK hP 0 (wS_a0 _ _ _ _) rfl 0 (by decide) lkX8_becomeNew_11 (sFs_0 _ _) dX8_becomeNew_30 ?_
    refine lv_bipush (v := 16) hx hb dX8_becomeNew_33 rfl ?_
    refine lv_iconst (v := 1) hx hb dX8_becomeNew_35 rfl ?_
    refine k_iast (k := 16) (ws' := wS cy h a (wC (wC u 8 (-1)) 16 1)) hx hb hK hP hD hS 1 (wS_a1 _ _ _ _) rfl rfl (wS_wC _ _ _ _ _ _) dX8_becomeNew_36 (fun H locs hP hD hS => ?_)
    refine lv_iconst (v := 0) hx hb dX8_becomeNew_37 rfl ?_
    refine lv_istore_n (lv' := [(1, .int 0), (0, .ref h)]) hx hb dX8_becomeNew_38 rfl hl (by decide) rfl (fun ls hl => ?_)
    exact tX8_becomeNew_l39 K E LF 0 (wC (wC u 8 (-1)) 16 1) H locs ls (lv_sub hl [1, 0] rfl) hP hD hS h1
  · replace h1 := Ok.neg c5 h1
    refine lv_aload_n hx hb dX8_becomeNew_8 rfl (lv_at hl 0 rfl) ?_
    refine k_get (v := .ref (a 0)) (C := RX8) (T := TX8) (N := 13) hx hb hts inX8_becomeNew_X8 hown hK hP 0 (wS_a0 _ _ _ _) rfl 0 (by decide) lkX8_becomeNew_11 (sFs_0 _ _) dX8_becomeNew_9 ?_
    refine lv_iload_n hx hb dX8_becomeNew_12 rfl (lv_at hl 1 rfl) ?_
    refine lv_iconst (v := 0) hx hb dX8_becomeNew_13 rfl ?_
    have g14 := h1.grd1
    replace h1 := h1.grd2
    refine k_iast (k := (ix x1)) (ws' := wS cy h a (wC u (ix x1) 0)) hx hb hK hP hD hS 1 (wS_a1 _ _ _ _) g14 rfl (wS_wC _ _ _ _ _ _) dX8_becomeNew_14 (fun H locs hP hD hS => ?_)
    refine lv_iinc (v := x1 + 1) (lv' := [(1, .int (x1 + 1)), (0, .ref h)]) hx hb dX8_becomeNew_15 hl (k := 1) rfl rfl (by decide) rfl (fun ls hl => ?_)
    refine lv_goto (tgt := 2) hx hb dX8_becomeNew_18 (by decide) ?_
    exact hk2 (x1 + 1) (wC u (ix x1) 0) H locs ls (lv_sub hl [1, 0] rfl) hP hD hS h1
theorem tX8_becomeNew_l2 {p : Program} {l : Launch} {e : Env} {s : State} {m : MethodId} {args : Array Value} {below : List Frame} {meth : Method} {c : Code} {D : va_G} {cy : Nat → ClassId} {A : Nat → Prop} {h : Nat} {a : Nat → Nat} (K : KS → Prop) (E : mE D cy RX8 cX8_becomeNew 2 none wsX8_becomeNew A p s m args meth c) : ∀ (n9 : Nat) (x1 : Int32) (u : KS) (H : Heap) (locs : List Loc) (ls : Array Slot), lv_has ls 2 [(0, .ref h), (1, .int x1)] → va_P D kCl (wS cy h a u) H → va_D A (wS cy h a u) → va_S A s.heap H locs → Ok (lop (fun y z => fX8_becomeNew_b2 y z.1 z.2) n9 (x1, u)) K → kW p l e rmX8_becomeNew s m args below meth c H locs (va_Qv K (fun q => kPost D A (wS cy h a q)) A) A 2 ls [] := by
  intro n9
  induction n9 with
  | zero =>
    intro x1 u H locs ls hl hP hD hS h1
    exact h1.no
  | succ n9 ih =>
    intro x1 u H locs ls hl hP hD hS h1
    exact tX8_becomeNew_b2 K E (lop (fun y z => fX8_becomeNew_b2 y z.1 z.2) n9) (fun x1 u H locs ls hl hP hD hS h1 => ih x1 u H locs ls hl hP hD hS h1) x1 u H locs ls hl hP hD hS h1
def fX8_becomeNew_b0 (u : KS) : Option (KS) :=
  lop (fun y z => fX8_becomeNew_b2 y z.1 z.2) LF (0, u)
set_option maxHeartbeats 4000000 in
set_option maxRecDepth 100000 in
theorem tX8_becomeNew_b0 {p : Program} {l : Launch} {e : Env} {s : State} {m : MethodId} {args : Array Value} {below : List Frame} {meth : Method} {c : Code} {D : va_G} {cy : Nat → ClassId} {A : Nat → Prop} {h : Nat} {a : Nat → Nat} (K : KS → Prop) (E : mE D cy RX8 cX8_becomeNew 2 none wsX8_becomeNew A p s m args meth c)
     (u : KS) (H : Heap) (locs : List Loc) (ls : Array Slot) (hl : lv_has ls 2 [(0, .ref h)]) (hP : va_P D kCl (wS cy h a u) H) (hD : va_D A (wS cy h a u)) (hS : va_S A s.heap H locs) (h1 : Ok (fX8_becomeNew_b0 u) K) :
    kW p l e rmX8_becomeNew s m args below meth c H locs (va_Qv K (fun q => kPost D A (wS cy h a q)) A) A 0 ls [] := by
  obtain ⟨hx, hb, hr, hml, hown, hts, hlocks, hK, hA⟩ := id E
  unfold fX8_becomeNew_b0 at h1
  refine lv_iconst (v := 0) hx hb dX8_becomeNew_0 rfl ?_
  refine lv_istore_n (lv' := [(1, .int 0), (0, .ref h)]) hx hb dX8_becomeNew_1 rfl hl (by decide) rfl (fun ls hl => ?_)
  exact tX8_becomeNew_l2 K E LF 0 u H locs ls (lv_sub hl [1, 0] rfl) hP hD hS h1
def fX8_becomeNew (u : KS) : Option (KS) := fX8_becomeNew_b0 u
set_option maxHeartbeats 4000000 in
set_option maxRecDepth 100000 in
theorem cX8_becomeNewM (l : Launch) (D : va_G) (cy : Nat → ClassId) (h : Nat) (a : Nat → Nat) (sz : Nat) (u : KS) : ∀ (K : KS → Prop), Ok (fX8_becomeNew u) K → Met l yX8_becomeNew wsX8_becomeNew rmX8_becomeNew (va_Pc [.ref h] (kPre D cy sz (wS cy h a u))) (va_Qv K (fun q => kPost D (va_A (wS cy h a u) sz) (wS cy h a q)) (va_A (wS cy h a u) sz)) 0 0 (va_A (wS cy h a u) sz) := by
  intro K h1
  refine Met.ofW (cc := cX8_becomeNew) (maxL := 2) (ret := none) (by decide) rfl ?_
  intro p e s m args below meth c s₁ B hml hv
  obtain ⟨rfl, hsz, hP, hK, hD0⟩ := hv
  subst hsz
  have E : mE D cy RX8 cX8_becomeNew 2 none wsX8_becomeNew (va_A (wS cy h a u) s.heap.size) p s m _ meth c := ⟨B.exec, B.bytes, B.returns, hml, findClass_of_methodNamed B.named, atoms_spec (ws := wsX8_becomeNew) B.pre, B.notSynchronized, hK, fun q h => Or.inr h⟩
  have hl := lv_entry ([.ref h]) (n := 2) (Nat.le_of_ble_eq_true rfl)
  rw [lg_entry_eq]
  generalize (lg_sl ([.ref h]) ++ List.replicate (2 - (lg_sl ([.ref h])).length) Slot.unset).toArray = ls at hl ⊢
  exact tX8_becomeNew_b0 K E u _ _ _ hl hP hD0.self va_S.rf h1
-- X8_tideAt
theorem inX8_tideAt_X8 : ∀ w ∈ u_ws RX8 TX8 13, w ∈ wsX8_tideAt := k_lays 2 rfl
theorem lkX8_tideAt_19 : Cond.fieldLink RX8 19 "FerryRamp$State" "settings" "[I" ∈ wsX8_tideAt := List.mem_of_getElem? (i := 1) rfl
abbrev rmX8_tideAt : Room := { frames := 0, cells := 0, slots := 0, locals := 0 }
def fX8_tideAt_b45 (x2 : Int32) (x3 : Int32) (s0 : Int32) (u : KS) : Option (Int32) :=
  grd (nz x2) (some (x3 + ((((sT u 1) - x3) * s0) / x2)))
set_option maxHeartbeats 4000000 in
set_option maxRecDepth 100000 in
theorem tX8_tideAt_b45 {p : Program} {l : Launch} {e : Env} {s : State} {m : MethodId} {args : Array Value} {below : List Frame} {meth : Method} {c : Code} {D : va_G} {cy : Nat → ClassId} {A : Nat → Prop} {h : Nat} {a : Nat → Nat} (K : Int32 → Prop) (E : mE D cy RX8 cX8_tideAt 6 (some .int) wsX8_tideAt A p s m args meth c) (u : KS)
     (x2 : Int32) (x3 : Int32) (s0 : Int32) (H : Heap) (locs : List Loc) (ls : Array Slot) (hl : lv_has ls 6 [(0, .ref h), (2, .int x2), (3, .int x3)]) (hP : va_P D kCl (wS cy h a u) H) (hD : va_D A (wS cy h a u)) (hS : va_S A s.heap H locs) (h1 : Ok (fX8_tideAt_b45 x2 x3 s0 u) K) :
    kW p l e rmX8_tideAt s m args below meth c H locs (va_Qi (fun r (_ : Unit) => K r) (fun _ => kPost D A (wS cy h a u)) A) A 45 ls [.int s0] := by
  obtain ⟨hx, hb, hr, hml, hown, hts, hlocks, hK, hA⟩ := id E
  unfold fX8_tideAt_b45 at h1
  refine lv_istore (lv' := [(5, .int s0), (0, .ref h), (2, .int x2), (3, .int x3)]) hx hb dX8_tideAt_45 hl (by decide) rfl (fun ls hl => ?_)
  refine lv_iload_n hx hb dX8_tideAt_47 rfl (lv_at hl 3 rfl) ?_
  refine lv_aload_n hx hb dX8_tideAt_48 rfl (lv_at hl 1 rfl) ?_
  refine k_get (v := .ref (a 1)) (C := RX8) (T := TX8) (N := 13) hx hb hts inX8_tideAt_X8 hown hK hP 0 (wS_a0 _ _ _ _) rfl 1 (by decide) lkX8_tideAt_19 (sFs_1 _ _) dX8_tideAt_49 ?_
  refine lv_iconst (v := 1) hx hb dX8_tideAt_52 rfl ?_
  refine k_iald (k := 1) hx hb hK hP 2 (wS_a2 _ _ _ _) rfl rfl dX8_tideAt_53 ?_
  refine lv_iload_n hx hb dX8_tideAt_54 rfl (lv_at hl 3 rfl) ?_
  refine lv_isub hx hb dX8_tideAt_55 ?_
  refine lv_iload hx hb dX8_tideAt_56 (lv_at hl 0 rfl) ?_
  refine lv_imul hx hb dX8_tideAt_58 ?_
  refine lv_iload_n hx hb dX8_tideAt_59 rfl (lv_at hl 2 rfl) ?_
  have g60 := h1.grd1
  replace h1 := h1.grd2
  refine lv_idiv hx hb dX8_tideAt_60 (nz_ne g60) ?_
  refine lv_iadd hx hb dX8_tideAt_61 ?_
  exact kret_r hx hb hr hlocks hP hD hS h1 dX8_tideAt_62
def fX8_tideAt_b0 (x1 : Int32) (u : KS) : Option (Int32) :=
  (if 1 ≤ (sT u 2) then grd (nz (2 * (sT u 2))) ((if (sT u 2) < (x1 - x1 / (2 * (sT u 2)) * (2 * (sT u 2))) then fX8_tideAt_b45 (sT u 2) (sT u 0) ((2 * (sT u 2)) - (x1 - x1 / (2 * (sT u 2)) * (2 * (sT u 2)))) u else fX8_tideAt_b45 (sT u 2) (sT u 0) (x1 - x1 / (2 * (sT u 2)) * (2 * (sT u 2))) u)) else some (sT u 0))
set_option maxHeartbeats 4000000 in
set_option maxRecDepth 100000 in
theorem tX8_tideAt_b0 {p : Program} {l : Launch} {e : Env} {s : State} {m : MethodId} {args : Array Value} {below : List Frame} {meth : Method} {c : Code} {D : va_G} {cy : Nat → ClassId} {A : Nat → Prop} {h : Nat} {a : Nat → Nat} (K : Int32 → Prop) (E : mE D cy RX8 cX8_tideAt 6 (some .int) wsX8_tideAt A p s m args meth c) (u : KS)
     (x1 : Int32) (H : Heap) (locs : List Loc) (ls : Array Slot) (hl : lv_has ls 6 [(0, .ref h), (1, .int x1)]) (hP : va_P D kCl (wS cy h a u) H) (hD : va_D A (wS cy h a u)) (hS : va_S A s.heap H locs) (h1 : Ok (fX8_tideAt_b0 x1 u) K) :
    kW p l e rmX8_tideAt s m args below meth c H locs (va_Qi (fun r (_ : Unit) => K r) (fun _ => kPost D A (wS cy h a u)) A) A 0 ls [] := by
  obtain ⟨hx, hb, hr, hml, hown, hts, hlocks, hK, hA⟩ := id E
  unfold fX8_tideAt_b0 at h1
  refine lv_aload_n hx hb dX8_tideAt_0 rfl (lv_at hl 0 rfl) ?_
  refine k_get (v := .ref (a 1)) (C := RX8) (T := TX8) (N := 13) hx hb hts inX8_tideAt_X8 hown hK hP 0 (wS_a0 _ _ _ _) rfl 1 (by decide) lkX8_tideAt_19 (sFs_1 _ _) dX8_tideAt_1 ?_
  refine lv_iconst (v := 2) hx hb dX8_tideAt_4 rfl ?_
  refine k_iald (k := 2) hx hb hK hP 2 (wS_a2 _ _ _ _) rfl rfl dX8_tideAt_5 ?_
  refine lv_istore_n (lv' := [(2, .int (sT u 2)), (0, .ref h), (1, .int x1)]) hx hb dX8_tideAt_6 rfl hl (by decide) rfl (fun ls hl => ?_)
  refine lv_aload_n hx hb dX8_tideAt_7 rfl (lv_at hl 1 rfl) ?_
  refine k_get (v := .ref (a 1)) (C := RX8) (T := TX8) (N := 13) hx hb hts inX8_tideAt_X8 hown hK hP 0 (wS_a0 _ _ _ _) rfl 1 (by decide) lkX8_tideAt_19 (sFs_1 _ _) dX8_tideAt_8 ?_
  refine lv_iconst (v := 0) hx hb dX8_tideAt_11 rfl ?_
  refine k_iald (k := 0) hx hb hK hP 2 (wS_a2 _ _ _ _) rfl rfl dX8_tideAt_12 ?_
  refine lv_istore_n (lv' := [(3, .int (sT u 0)), (2, .int (sT u 2)), (0, .ref h), (1, .int x1)]) hx hb dX8_tideAt_13 rfl hl (by decide) rfl (fun ls hl => ?_)
  refine lv_iload_n hx hb dX8_tideAt_14 rfl (lv_at hl 1 rfl) ?_
  refine lv_iconst (v := 1) hx hb dX8_tideAt_15 rfl ?_
  refine lv_icmp_ge (tgt := 21) hx hb dX8_tideAt_16 (by decide) (fun c16 => ?_) (fun c16 => ?_)
  · replace h1 := Ok.pos c16 h1
    refine lv_iload_n hx hb dX8_tideAt_21 rfl (lv_at hl 3 rfl) ?_
    refine lv_iconst (v := 2) hx hb dX8_tideAt_22 rfl ?_
    refine lv_iload_n hx hb dX8_tideAt_23 rfl (lv_at hl 1 rfl) ?_
    refine lv_imul hx hb dX8_tideAt_24 ?_
    have g25 := h1.grd1
    replace h1 := h1.grd2
    refine lv_irem hx hb dX8_tideAt_25 (nz_ne g25) ?_
    refine lv_istore (lv' := [(4, .int (x1 - x1 / (2 * (sT u 2)) * (2 * (sT u 2)))), (3, .int (sT u 0)), (2, .int (sT u 2)), (0, .ref h), (1, .int x1)]) hx hb dX8_tideAt_26 hl (by decide) rfl (fun ls hl => ?_)
    refine lv_iload hx hb dX8_tideAt_28 (lv_at hl 0 rfl) ?_
    refine lv_iload_n hx hb dX8_tideAt_30 rfl (lv_at hl 2 rfl) ?_
    refine lv_icmp_gt (tgt := 39) hx hb dX8_tideAt_31 (by decide) (fun c31 => ?_) (fun c31 => ?_)
    · replace h1 := Ok.pos c31 h1
      refine lv_iconst (v := 2) hx hb dX8_tideAt_39 rfl ?_
      refine lv_iload_n hx hb dX8_tideAt_40 rfl (lv_at hl 2 rfl) ?_
      refine lv_imul hx hb dX8_tideAt_41 ?_
      refine lv_iload hx hb dX8_tideAt_42 (lv_at hl 0 rfl) ?_
      refine lv_isub hx hb dX8_tideAt_44 ?_
      exact tX8_tideAt_b45 K E u (sT u 2) (sT u 0) ((2 * (sT u 2)) - (x1 - x1 / (2 * (sT u 2)) * (2 * (sT u 2)))) H locs ls (lv_sub hl [3, 2, 1] rfl) hP hD hS h1
    · replace h1 := Ok.neg c31 h1
      refine lv_iload hx hb dX8_tideAt_34 (lv_at hl 0 rfl) ?_
      refine lv_goto (tgt := 45) hx hb dX8_tideAt_36 (by decide) ?_
      exact tX8_tideAt_b45 K E u (sT u 2) (sT u 0) (x1 - x1 / (2 * (sT u 2)) * (2 * (sT u 2))) H locs ls (lv_sub hl [3, 2, 1] rfl) hP hD hS h1
  · replace h1 := Ok.neg c16 h1
    refine lv_iload_n hx hb dX8_tideAt_19 rfl (lv_at hl 0 rfl) ?_
    exact kret_r hx hb hr hlocks hP hD hS h1 dX8_tideAt_20
def fX8_tideAt (p1 : Int32) (u : KS) : Option (Int32) := fX8_tideAt_b0 p1 u
set_option maxHeartbeats 4000000 in
set_option maxRecDepth 100000 in
theorem cX8_tideAtM (l : Launch) (D : va_G) (cy : Nat → ClassId) (h : Nat) (a : Nat → Nat) (sz : Nat) (u : KS) (p1 : Int32) : ∀ (K : Int32 → Prop), Ok (fX8_tideAt p1 u) K → Met l yX8_tideAt wsX8_tideAt rmX8_tideAt (va_Pc [.ref h, .int p1] (kPre D cy sz (wS cy h a u))) (va_Qi (fun r (_ : Unit) => K r) (fun _ => kPost D (va_A (wS cy h a u) sz) (wS cy h a u)) (va_A (wS cy h a u) sz)) 0 0 (va_A (wS cy h a u) sz) := by
  intro K h1
  refine Met.ofW (cc := cX8_tideAt) (maxL := 6) (ret := (some .int)) (by decide) rfl ?_
  intro p e s m args below meth c s₁ B hml hv
  obtain ⟨rfl, hsz, hP, hK, hD0⟩ := hv
  subst hsz
  have E : mE D cy RX8 cX8_tideAt 6 (some .int) wsX8_tideAt (va_A (wS cy h a u) s.heap.size) p s m _ meth c := ⟨B.exec, B.bytes, B.returns, hml, findClass_of_methodNamed B.named, atoms_spec (ws := wsX8_tideAt) B.pre, B.notSynchronized, hK, fun q h => Or.inr h⟩
  have hl := lv_entry ([.ref h, .int p1]) (n := 6) (Nat.le_of_ble_eq_true rfl)
  rw [lg_entry_eq]
  generalize (lg_sl ([.ref h, .int p1]) ++ List.replicate (6 - (lg_sl ([.ref h, .int p1])).length) Slot.unset).toArray = ls at hl ⊢
  exact tX8_tideAt_b0 K E u p1 _ _ _ hl hP hD0.self va_S.rf h1
-- X8_deckAt
theorem inX8_deckAt_X8 : ∀ w ∈ u_ws RX8 TX8 13, w ∈ wsX8_deckAt := k_lays 8 rfl
theorem lkX8_deckAt_19 : Cond.fieldLink RX8 19 "FerryRamp$State" "settings" "[I" ∈ wsX8_deckAt := List.mem_of_getElem? (i := 1) rfl
theorem lkX8_deckAt_11 : Cond.fieldLink RX8 11 "FerryRamp$State" "counts" "[I" ∈ wsX8_deckAt := List.mem_of_getElem? (i := 2) rfl
theorem hdX8_tideAt : yX8_tideAt.cls = RX8 ∧ yX8_tideAt.cls ≠ "java/lang/invoke/MethodHandle" ∧ yX8_tideAt.cls ≠ "java/lang/invoke/VarHandle" ∧ (parseMethodDescriptor yX8_tideAt.desc).map (fun d => d.parameters.length) = some 1 := by decide +kernel
abbrev rmX8_deckAt : Room := { frames := 1, cells := 0, slots := 0, locals := 25 }
def fX8_deckAt_b25 (x1 : Int32) (s0 : Int32) (u : KS) : Option (Int32) :=
  bnd (fX8_tideAt x1 u) (fun r28 => some ((r28 + (sT u 4)) - s0))
set_option maxHeartbeats 4000000 in
set_option maxRecDepth 100000 in
theorem tX8_deckAt_b25 {p : Program} {l : Launch} {e : Env} {s : State} {m : MethodId} {args : Array Value} {below : List Frame} {meth : Method} {c : Code} {D : va_G} {cy : Nat → ClassId} {A : Nat → Prop} {h : Nat} {a : Nat → Nat} (K : Int32 → Prop) (E : mE D cy RX8 cX8_deckAt 4 (some .int) wsX8_deckAt A p s m args meth c) (u : KS)
     (x1 : Int32) (s0 : Int32) (H : Heap) (locs : List Loc) (ls : Array Slot) (hl : lv_has ls 4 [(0, .ref h), (1, .int x1)]) (hP : va_P D kCl (wS cy h a u) H) (hD : va_D A (wS cy h a u)) (hS : va_S A s.heap H locs) (h1 : Ok (fX8_deckAt_b25 x1 s0 u) K) :
    kW p l e rmX8_deckAt s m args below meth c H locs (va_Qi (fun r (_ : Unit) => K r) (fun _ => kPost D A (wS cy h a u)) A) A 25 ls [.int s0] := by
  obtain ⟨hx, hb, hr, hml, hown, hts, hlocks, hK, hA⟩ := id E
  unfold fX8_deckAt_b25 at h1
  refine lv_istore_n (lv' := [(3, .int s0), (0, .ref h), (1, .int x1)]) hx hb dX8_deckAt_25 rfl hl (by decide) rfl (fun ls hl => ?_)
  refine lv_aload_n hx hb dX8_deckAt_26 rfl (lv_at hl 1 rfl) ?_
  refine lv_iload_n hx hb dX8_deckAt_27 rfl (lv_at hl 2 rfl) ?_
  refine kc_rV0 (b := h) (As := [.int x1]) (rest := []) h1 ⟨hx, hb, hml, hown, hts⟩ (cX8_tideAtM l D cy h a H.size u x1) (cwV 1 hts gX8_deckAt_X8_tideAt rfl rfl rfl hdX8_tideAt ⟨Nat.le_of_ble_eq_true rfl, Nat.le_of_ble_eq_true rfl⟩) hK hP hD hS hA (q0 := 0) rfl rfl rfl hl.1 rfl (Nat.le_of_ble_eq_true rfl) dX8_deckAt_28 ⟨Nat.zero_le _, Nat.zero_le _⟩ (fun r28 H locs h1 hP hS => ?_)
  refine lv_aload_n hx hb dX8_deckAt_31 rfl (lv_at hl 1 rfl) ?_
  refine k_get (v := .ref (a 1)) (C := RX8) (T := TX8) (N := 13) hx hb hts inX8_deckAt_X8 hown hK hP 0 (wS_a0 _ _ _ _) rfl 1 (by decide) lkX8_deckAt_19 (sFs_1 _ _) dX8_deckAt_32 ?_
  refine lv_iconst (v := 4) hx hb dX8_deckAt_35 rfl ?_
  refine k_iald (k := 4) hx hb hK hP 2 (wS_a2 _ _ _ _) rfl rfl dX8_deckAt_36 ?_
  refine lv_iadd hx hb dX8_deckAt_37 ?_
  refine lv_iload_n hx hb dX8_deckAt_38 rfl (lv_at hl 0 rfl) ?_
  refine lv_isub hx hb dX8_deckAt_39 ?_
  exact kret_r hx hb hr hlocks hP hD hS h1 dX8_deckAt_40
def fX8_deckAt_b0 (x1 : Int32) (u : KS) : Option (Int32) :=
  (if 1 ≤ (sT u 5) then grd (nz (sT u 5)) (fX8_deckAt_b25 x1 ((sC u 7) / (sT u 5)) u) else fX8_deckAt_b25 x1 0 u)
set_option maxHeartbeats 4000000 in
set_option maxRecDepth 100000 in
theorem tX8_deckAt_b0 {p : Program} {l : Launch} {e : Env} {s : State} {m : MethodId} {args : Array Value} {below : List Frame} {meth : Method} {c : Code} {D : va_G} {cy : Nat → ClassId} {A : Nat → Prop} {h : Nat} {a : Nat → Nat} (K : Int32 → Prop) (E : mE D cy RX8 cX8_deckAt 4 (some .int) wsX8_deckAt A p s m args meth c) (u : KS)
     (x1 : Int32) (H : Heap) (locs : List Loc) (ls : Array Slot) (hl : lv_has ls 4 [(0, .ref h), (1, .int x1)]) (hP : va_P D kCl (wS cy h a u) H) (hD : va_D A (wS cy h a u)) (hS : va_S A s.heap H locs) (h1 : Ok (fX8_deckAt_b0 x1 u) K) :
    kW p l e rmX8_deckAt s m args below meth c H locs (va_Qi (fun r (_ : Unit) => K r) (fun _ => kPost D A (wS cy h a u)) A) A 0 ls [] := by
  obtain ⟨hx, hb, hr, hml, hown, hts, hlocks, hK, hA⟩ := id E
  unfold fX8_deckAt_b0 at h1
  refine lv_aload_n hx hb dX8_deckAt_0 rfl (lv_at hl 0 rfl) ?_
  refine k_get (v := .ref (a 1)) (C := RX8) (T := TX8) (N := 13) hx hb hts inX8_deckAt_X8 hown hK hP 0 (wS_a0 _ _ _ _) rfl 1 (by decide) lkX8_deckAt_19 (sFs_1 _ _) dX8_deckAt_1 ?_
  refine lv_iconst (v := 5) hx hb dX8_deckAt_4 rfl ?_
  refine k_iald (k := 5) hx hb hK hP 2 (wS_a2 _ _ _ _) rfl rfl dX8_deckAt_5 ?_
  refine lv_istore_n (lv' := [(2, .int (sT u 5)), (0, .ref h), (1, .int x1)]) hx hb dX8_deckAt_6 rfl hl (by decide) rfl (fun ls hl => ?_)
  refine lv_iload_n hx hb dX8_deckAt_7 rfl (lv_at hl 0 rfl) ?_
  refine lv_iconst (v := 1) hx hb dX8_deckAt_8 rfl ?_
  refine lv_icmp_ge (tgt := 16) hx hb dX8_deckAt_9 (by decide) (fun c9 => ?_) (fun c9 => ?_)
  · replace h1 := Ok.pos c9 h1
    refine lv_aload_n hx hb dX8_deckAt_16 rfl (lv_at hl 1 rfl) ?_
    refine k_get (v := .ref (a 0)) (C := RX8) (T := TX8) (N := 13) hx hb hts inX8_deckAt_X8 hown hK hP 0 (wS_a0 _ _ _ _) rfl 0 (by decide) lkX8_deckAt_11 (sFs_0 _ _) dX8_deckAt_17 ?_
    refine lv_bipush (v := 7) hx hb dX8_deckAt_20 rfl ?_
    refine k_iald (k := 7) hx hb hK hP 1 (wS_a1 _ _ _ _) rfl rfl dX8_deckAt_22 ?_
    refine lv_iload_n hx hb dX8_deckAt_23 rfl (lv_at hl 0 rfl) ?_
    have g24 := h1.grd1
    replace h1 := h1.grd2
    refine lv_idiv hx hb dX8_deckAt_24 (nz_ne g24) ?_
    exact tX8_deckAt_b25 K E u x1 ((sC u 7) / (sT u 5)) H locs ls (lv_sub hl [1, 2] rfl) hP hD hS h1
  · replace h1 := Ok.neg c9 h1
    refine lv_iconst (v := 0) hx hb dX8_deckAt_12 rfl ?_
    refine lv_goto (tgt := 25) hx hb dX8_deckAt_13 (by decide) ?_
    exact tX8_deckAt_b25 K E u x1 0 H locs ls (lv_sub hl [1, 2] rfl) hP hD hS h1
def fX8_deckAt (p1 : Int32) (u : KS) : Option (Int32) := fX8_deckAt_b0 p1 u
set_option maxHeartbeats 4000000 in
set_option maxRecDepth 100000 in
theorem cX8_deckAtM (l : Launch) (D : va_G) (cy : Nat → ClassId) (h : Nat) (a : Nat → Nat) (sz : Nat) (u : KS) (p1 : Int32) : ∀ (K : Int32 → Prop), Ok (fX8_deckAt p1 u) K → Met l yX8_deckAt wsX8_deckAt rmX8_deckAt (va_Pc [.ref h, .int p1] (kPre D cy sz (wS cy h a u))) (va_Qi (fun r (_ : Unit) => K r) (fun _ => kPost D (va_A (wS cy h a u) sz) (wS cy h a u)) (va_A (wS cy h a u) sz)) 0 0 (va_A (wS cy h a u) sz) := by
  intro K h1
  refine Met.ofW (cc := cX8_deckAt) (maxL := 4) (ret := (some .int)) (by decide) rfl ?_
  intro p e s m args below meth c s₁ B hml hv
  obtain ⟨rfl, hsz, hP, hK, hD0⟩ := hv
  subst hsz
  have E : mE D cy RX8 cX8_deckAt 4 (some .int) wsX8_deckAt (va_A (wS cy h a u) s.heap.size) p s m _ meth c := ⟨B.exec, B.bytes, B.returns, hml, findClass_of_methodNamed B.named, atoms_spec (ws := wsX8_deckAt) B.pre, B.notSynchronized, hK, fun q h => Or.inr h⟩
  have hl := lv_entry ([.ref h, .int p1]) (n := 4) (Nat.le_of_ble_eq_true rfl)
  rw [lg_entry_eq]
  generalize (lg_sl ([.ref h, .int p1]) ++ List.replicate (4 - (lg_sl ([.ref h, .int p1])).length) Slot.unset).toArray = ls at hl ⊢
  exact tX8_deckAt_b0 K E u p1 _ _ _ hl hP hD0.self va_S.rf h1
-- X8_measureRamp
theorem inX8_measureRamp_X8 : ∀ w ∈ u_ws RX8 TX8 13, w ∈ wsX8_measureRamp := k_lays 9 rfl
theorem lkX8_measureRamp_11 : Cond.fieldLink RX8 11 "FerryRamp$State" "counts" "[I" ∈ wsX8_measureRamp := List.mem_of_getElem? (i := 1) rfl
theorem lkX8_measureRamp_19 : Cond.fieldLink RX8 19 "FerryRamp$State" "settings" "[I" ∈ wsX8_measureRamp := List.mem_of_getElem? (i := 2) rfl
theorem heX9_gap : yX9_gap.cls ≠ "java/lang/invoke/MethodHandle" ∧ yX9_gap.cls ≠ "java/lang/invoke/VarHandle" ∧ (parseMethodDescriptor yX9_gap.desc).map (fun d => d.parameters.length) = some 2 := by decide +kernel
theorem lkX8_measureRamp_56 : Cond.fieldLink RX8 56 "FerryRamp$State" "slope" "I" ∈ wsX8_measureRamp := List.mem_of_getElem? (i := 3) rfl
theorem lkX8_measureRamp_52 : Cond.fieldLink RX8 52 "FerryRamp$State" "deck" "I" ∈ wsX8_measureRamp := List.mem_of_getElem? (i := 4) rfl
theorem lkX8_measureRamp_59 : Cond.fieldLink RX8 59 "FerryRamp$State" "lip" "I" ∈ wsX8_measureRamp := List.mem_of_getElem? (i := 5) rfl
abbrev rmX8_measureRamp : Room := { frames := 1, cells := 0, slots := 0, locals := 21 }
def fX8_measureRamp_b0 (u : KS) : Option (KS) :=
  bnd (fX9_gap (sC u 4) (sT u 3)) (fun r13 => bnd (fX9_gap (sC (wp u r13) 4) (sd (wp u r13))) (fun r30 => some (wi (wp u r13) r30)))
set_option maxHeartbeats 4000000 in
set_option maxRecDepth 100000 in
theorem tX8_measureRamp_b0 {p : Program} {l : Launch} {e : Env} {s : State} {m : MethodId} {args : Array Value} {below : List Frame} {meth : Method} {c : Code} {D : va_G} {cy : Nat → ClassId} {A : Nat → Prop} {h : Nat} {a : Nat → Nat} (K : KS → Prop) (E : mE D cy RX8 cX8_measureRamp 1 none wsX8_measureRamp A p s m args meth c)
     (u : KS) (H : Heap) (locs : List Loc) (ls : Array Slot) (hl : lv_has ls 1 [(0, .ref h)]) (hP : va_P D kCl (wS cy h a u) H) (hD : va_D A (wS cy h a u)) (hS : va_S A s.heap H locs) (h1 : Ok (fX8_measureRamp_b0 u) K) :
    kW p l e rmX8_measureRamp s m args below meth c H locs (va_Qv K (fun q => kPost D A (wS cy h a q)) A) A 0 ls [] := by
  obtain ⟨hx, hb, hr, hml, hown, hts, hlocks, hK, hA⟩ := id E
  unfold fX8_measureRamp_b0 at h1
  refine lv_aload_n hx hb dX8_measureRamp_0 rfl (lv_at hl 0 rfl) ?_
  refine lv_aload_n hx hb dX8_measureRamp_1 rfl (lv_at hl 0 rfl) ?_
  refine k_get (v := .ref (a 0)) (C := RX8) (T := TX8) (N := 13) hx hb hts inX8_measureRamp_X8 hown hK hP 0 (wS_a0 _ _ _ _) rfl 0 (by decide) lkX8_measureRamp_11 (sFs_0 _ _) dX8_measureRamp_2 ?_
  refine lv_iconst (v := 4) hx hb dX8_measureRamp_5 rfl ?_
  refine k_iald (k := 4) hx hb hK hP 1 (wS_a1 _ _ _ _) rfl rfl dX8_measureRamp_6 ?_
  refine lv_aload_n hx hb dX8_measureRamp_7 rfl (lv_at hl 0 rfl) ?_
  refine k_get (v := .ref (a 1)) (C := RX8) (T := TX8) (N := 13) hx hb hts inX8_measureRamp_X8 hown hK hP 0 (wS_a0 _ _ _ _) rfl 1 (by decide) lkX8_measureRamp_19 (sFs_1 _ _) dX8_measureRamp_8 ?_
  refine lv_iconst (v := 3) hx hb dX8_measureRamp_11 rfl ?_
  refine k_iald (k := 3) hx hb hK hP 2 (wS_a2 _ _ _ _) rfl rfl dX8_measureRamp_12 ?_
  refine kc_rSN (As := [.int (sC u 4), .int (sT u 3)]) (rest := [.ref h]) (wc := []) (wr := _) h1 ⟨hx, hb, hml, hown, hts⟩ (cX9_gapM l D cy H.size (sC u 4) (sT u 3)) ⟨va_cnB 2 hts gX8_measureRamp_X9_gap_n88 rfl rfl rfl hK.2.1 (hts _ (List.mem_of_getElem? (i := 7) rfl)) heX9_gap ⟨Nat.le_of_ble_eq_true rfl, Nat.le_of_ble_eq_true rfl⟩, hts _ (List.mem_of_getElem? (i := 6) rfl), trivial⟩ hK (List.Perm.refl _) hP hD hS hA rfl hl.1 rfl (Nat.le_of_ble_eq_true rfl) dX8_measureRamp_13 ⟨Nat.zero_le _, Nat.zero_le _⟩ (fun r13 H locs h1 hP hS => ?_)
  refine k_put (v := .int r13) (ty := .int) (C := RX8) (T := TX8) (N := 13) hx hb hts inX8_measureRamp_X8 tyX8 tyX8_ok nmX8 hown hK hP hD hS 0 (wS_a0 _ _ _ _) rfl 11 (by decide) lkX8_measureRamp_56 rfl (by decide +kernel) rfl rfl (Nat.le_of_ble_eq_true rfl) (ws' := wS cy h a (wp u r13)) (wS_wp _ _ _ _ _) dX8_measureRamp_16 (fun H locs hP hD hS => ?_)
  refine lv_aload_n hx hb dX8_measureRamp_19 rfl (lv_at hl 0 rfl) ?_
  refine lv_aload_n hx hb dX8_measureRamp_20 rfl (lv_at hl 0 rfl) ?_
  refine k_get (v := .ref (a 0)) (C := RX8) (T := TX8) (N := 13) hx hb hts inX8_measureRamp_X8 hown hK hP 0 (wS_a0 _ _ _ _) rfl 0 (by decide) lkX8_measureRamp_11 (sFs_0 _ _) dX8_measureRamp_21 ?_
  refine lv_iconst (v := 4) hx hb dX8_measureRamp_24 rfl ?_
  refine k_iald (k := 4) hx hb hK hP 1 (wS_a1 _ _ _ _) rfl rfl dX8_measureRamp_25 ?_
  refine lv_aload_n hx hb dX8_measureRamp_26 rfl (lv_at hl 0 rfl) ?_
  refine k_get (v := .int (sd (wp u r13))) (C := RX8) (T := TX8) (N := 13) hx hb hts inX8_measureRamp_X8 hown hK hP 0 (wS_a0 _ _ _ _) rfl 10 (by decide) lkX8_measureRamp_52 (sFs_10 _ _) dX8_measureRamp_27 ?_
  refine kc_rSN (As := [.int (sC (wp u r13) 4), .int (sd (wp u r13))]) (rest := [.ref h]) (wc := []) (wr := _) h1 ⟨hx, hb, hml, hown, hts⟩ (cX9_gapM l D cy H.size (sC (wp u r13) 4) (sd (wp u r13))) ⟨va_cnB 2 hts gX8_measureRamp_X9_gap_n88 rfl rfl rfl hK.2.1 (hts _ (List.mem_of_getElem? (i := 7) rfl)) heX9_gap ⟨Nat.le_of_ble_eq_true rfl, Nat.le_of_ble_eq_true rfl⟩, hts _ (List.mem_of_getElem? (i := 6) rfl), trivial⟩ hK (List.Perm.refl _) hP hD hS hA rfl hl.1 rfl (Nat.le_of_ble_eq_true rfl) dX8_measureRamp_30 ⟨Nat.zero_le _, Nat.zero_le _⟩ (fun r30 H locs h1 hP hS => ?_)
  refine k_put (v := .int r30) (ty := .int) (C := RX8) (T := TX8) (N := 13) hx hb hts inX8_measureRamp_X8 tyX8 tyX8_ok nmX8 hown hK hP hD hS 0 (wS_a0 _ _ _ _) rfl 12 (by decide) lkX8_measureRamp_59 rfl (by decide +kernel) rfl rfl (Nat.le_of_ble_eq_true rfl) (ws' := wS cy h a (wi (wp u r13) r30)) (wS_wi _ _ _ _ _) dX8_measureRamp_33 (fun H locs hP hD hS => ?_)
  exact kret_v hx hb hr hlocks hP hD hS h1 dX8_measureRamp_36
def fX8_measureRamp (u : KS) : Option (KS) := fX8_measureRamp_b0 u
set_option maxHeartbeats 4000000 in
set_option maxRecDepth 100000 in
theorem cX8_measureRampM (l : Launch) (D : va_G) (cy : Nat → ClassId) (h : Nat) (a : Nat → Nat) (sz : Nat) (u : KS) : ∀ (K : KS → Prop), Ok (fX8_measureRamp u) K → Met l yX8_measureRamp wsX8_measureRamp rmX8_measureRamp (va_Pc [.ref h] (kPre D cy sz (wS cy h a u))) (va_Qv K (fun q => kPost D (va_A (wS cy h a u) sz) (wS cy h a q)) (va_A (wS cy h a u) sz)) 0 0 (va_A (wS cy h a u) sz) := by
  intro K h1
  refine Met.ofW (cc := cX8_measureRamp) (maxL := 1) (ret := none) (by decide) rfl ?_
  intro p e s m args below meth c s₁ B hml hv
  obtain ⟨rfl, hsz, hP, hK, hD0⟩ := hv
  subst hsz
  have E : mE D cy RX8 cX8_measureRamp 1 none wsX8_measureRamp (va_A (wS cy h a u) s.heap.size) p s m _ meth c := ⟨B.exec, B.bytes, B.returns, hml, findClass_of_methodNamed B.named, atoms_spec (ws := wsX8_measureRamp) B.pre, B.notSynchronized, hK, fun q h => Or.inr h⟩
  have hl := lv_entry ([.ref h]) (n := 1) (Nat.le_of_ble_eq_true rfl)
  rw [lg_entry_eq]
  generalize (lg_sl ([.ref h]) ++ List.replicate (1 - (lg_sl ([.ref h])).length) Slot.unset).toArray = ls at hl ⊢
  exact tX8_measureRamp_b0 K E u _ _ _ hl hP hD0.self va_S.rf h1
-- X8_measureAll
theorem inX8_measureAll_X8 : ∀ w ∈ u_ws RX8 TX8 13, w ∈ wsX8_measureAll := k_lays 22 rfl
theorem lkX8_measureAll_11 : Cond.fieldLink RX8 11 "FerryRamp$State" "counts" "[I" ∈ wsX8_measureAll := List.mem_of_getElem? (i := 1) rfl
theorem hdX8_deckAt : yX8_deckAt.cls = RX8 ∧ yX8_deckAt.cls ≠ "java/lang/invoke/MethodHandle" ∧ yX8_deckAt.cls ≠ "java/lang/invoke/VarHandle" ∧ (parseMethodDescriptor yX8_deckAt.desc).map (fun d => d.parameters.length) = some 1 := by decide +kernel
theorem lkX8_measureAll_52 : Cond.fieldLink RX8 52 "FerryRamp$State" "deck" "I" ∈ wsX8_measureAll := List.mem_of_getElem? (i := 2) rfl
theorem hdX8_measureRamp : yX8_measureRamp.cls = RX8 ∧ yX8_measureRamp.cls ≠ "java/lang/invoke/MethodHandle" ∧ yX8_measureRamp.cls ≠ "java/lang/invoke/VarHandle" ∧ (parseMethodDescriptor yX8_measureRamp.desc).map (fun d => d.parameters.length) = some 0 := by decide +kernel
abbrev rmX8_measureAll : Room := { frames := 2, cells := 0, slots := 0, locals := 48 }
def fX8_measureAll_b0 (u : KS) : Option (KS) :=
  bnd (fX8_deckAt (sC u 0) u) (fun r8 => bnd (fX8_measureRamp (wd u r8)) (fun u15 => some u15))
set_option maxHeartbeats 4000000 in
set_option maxRecDepth 100000 in
theorem tX8_measureAll_b0 {p : Program} {l : Launch} {e : Env} {s : State} {m : MethodId} {args : Array Value} {below : List Frame} {meth : Method} {c : Code} {D : va_G} {cy : Nat → ClassId} {A : Nat → Prop} {h : Nat} {a : Nat → Nat} (K : KS → Prop) (E : mE D cy RX8 cX8_measureAll 1 none wsX8_measureAll A p s m args meth c)
     (u : KS) (H : Heap) (locs : List Loc) (ls : Array Slot) (hl : lv_has ls 1 [(0, .ref h)]) (hP : va_P D kCl (wS cy h a u) H) (hD : va_D A (wS cy h a u)) (hS : va_S A s.heap H locs) (h1 : Ok (fX8_measureAll_b0 u) K) :
    kW p l e rmX8_measureAll s m args below meth c H locs (va_Qv K (fun q => kPost D A (wS cy h a q)) A) A 0 ls [] := by
  obtain ⟨hx, hb, hr, hml, hown, hts, hlocks, hK, hA⟩ := id E
  unfold fX8_measureAll_b0 at h1
  refine lv_aload_n hx hb dX8_measureAll_0 rfl (lv_at hl 0 rfl) ?_
  refine lv_aload_n hx hb dX8_measureAll_1 rfl (lv_at hl 0 rfl) ?_
  refine lv_aload_n hx hb dX8_measureAll_2 rfl (lv_at hl 0 rfl) ?_
  refine k_get (v := .ref (a 0)) (C := RX8) (T := TX8) (N := 13) hx hb hts inX8_measureAll_X8 hown hK hP 0 (wS_a0 _ _ _ _) rfl 0 (by decide) lkX8_measureAll_11 (sFs_0 _ _) dX8_measureAll_3 ?_
  refine lv_iconst (v := 0) hx hb dX8_measureAll_6 rfl ?_
  refine k_iald (k := 0) hx hb hK hP 1 (wS_a1 _ _ _ _) rfl rfl dX8_measureAll_7 ?_
  refine kc_rV0 (b := h) (As := [.int (sC u 0)]) (rest := [.ref h]) h1 ⟨hx, hb, hml, hown, hts⟩ (cX8_deckAtM l D cy h a H.size u (sC u 0)) (cwV 1 hts gX8_measureAll_X8_deckAt rfl rfl rfl hdX8_deckAt ⟨Nat.le_of_ble_eq_true rfl, Nat.le_of_ble_eq_true rfl⟩) hK hP hD hS hA (q0 := 0) rfl rfl rfl hl.1 rfl (Nat.le_of_ble_eq_true rfl) dX8_measureAll_8 ⟨Nat.zero_le _, Nat.zero_le _⟩ (fun r8 H locs h1 hP hS => ?_)
  refine k_put (v := .int r8) (ty := .int) (C := RX8) (T := TX8) (N := 13) hx hb hts inX8_measureAll_X8 tyX8 tyX8_ok nmX8 hown hK hP hD hS 0 (wS_a0 _ _ _ _) rfl 10 (by decide) lkX8_measureAll_52 rfl (by decide +kernel) rfl rfl (Nat.le_of_ble_eq_true rfl) (ws' := wS cy h a (wd u r8)) (wS_wd _ _ _ _ _) dX8_measureAll_11 (fun H locs hP hD hS => ?_)
  refine lv_aload_n hx hb dX8_measureAll_14 rfl (lv_at hl 0 rfl) ?_
  refine kc_vV0 (b := h) (As := []) (rest := []) h1 ⟨hx, hb, hml, hown, hts⟩ (cX8_measureRampM l D cy h a H.size (wd u r8)) (cwV 0 hts gX8_measureAll_X8_measureRamp rfl rfl rfl hdX8_measureRamp ⟨Nat.le_of_ble_eq_true rfl, Nat.le_of_ble_eq_true rfl⟩) hK hP hD hS hA (q0 := 0) rfl rfl rfl hl.1 rfl (Nat.le_of_ble_eq_true rfl) dX8_measureAll_15 ⟨Nat.zero_le _, Nat.zero_le _⟩ (fun u15 H locs h1 hP hD hS => ?_)
  exact kret_v hx hb hr hlocks hP hD hS h1 dX8_measureAll_18
def fX8_measureAll (u : KS) : Option (KS) := fX8_measureAll_b0 u
set_option maxHeartbeats 4000000 in
set_option maxRecDepth 100000 in
theorem cX8_measureAllM (l : Launch) (D : va_G) (cy : Nat → ClassId) (h : Nat) (a : Nat → Nat) (sz : Nat) (u : KS) : ∀ (K : KS → Prop), Ok (fX8_measureAll u) K → Met l yX8_measureAll wsX8_measureAll rmX8_measureAll (va_Pc [.ref h] (kPre D cy sz (wS cy h a u))) (va_Qv K (fun q => kPost D (va_A (wS cy h a u) sz) (wS cy h a q)) (va_A (wS cy h a u) sz)) 0 0 (va_A (wS cy h a u) sz) := by
  intro K h1
  refine Met.ofW (cc := cX8_measureAll) (maxL := 1) (ret := none) (by decide) rfl ?_
  intro p e s m args below meth c s₁ B hml hv
  obtain ⟨rfl, hsz, hP, hK, hD0⟩ := hv
  subst hsz
  have E : mE D cy RX8 cX8_measureAll 1 none wsX8_measureAll (va_A (wS cy h a u) s.heap.size) p s m _ meth c := ⟨B.exec, B.bytes, B.returns, hml, findClass_of_methodNamed B.named, atoms_spec (ws := wsX8_measureAll) B.pre, B.notSynchronized, hK, fun q h => Or.inr h⟩
  have hl := lv_entry ([.ref h]) (n := 1) (Nat.le_of_ble_eq_true rfl)
  rw [lg_entry_eq]
  generalize (lg_sl ([.ref h]) ++ List.replicate (1 - (lg_sl ([.ref h])).length) Slot.unset).toArray = ls at hl ⊢
  exact tX8_measureAll_b0 K E u _ _ _ hl hP hD0.self va_S.rf h1
-- X8_becomeLevel
theorem inX8_becomeLevel_X8 : ∀ w ∈ u_ws RX8 TX8 13, w ∈ wsX8_becomeLevel := k_lays 26 rfl
theorem lkX8_becomeLevel_11 : Cond.fieldLink RX8 11 "FerryRamp$State" "counts" "[I" ∈ wsX8_becomeLevel := List.mem_of_getElem? (i := 1) rfl
theorem hdX8_measureAll : yX8_measureAll.cls = RX8 ∧ yX8_measureAll.cls ≠ "java/lang/invoke/MethodHandle" ∧ yX8_measureAll.cls ≠ "java/lang/invoke/VarHandle" ∧ (parseMethodDescriptor yX8_measureAll.desc).map (fun d => d.parameters.length) = some 0 := by decide +kernel
abbrev rmX8_becomeLevel : Room := { frames := 3, cells := 0, slots := 0, locals := 68 }
def fX8_becomeLevel_b0 (u : KS) : Option (KS) :=
  bnd (fX8_deckAt (sC u 0) u) (fun r12 => bnd (fX8_measureAll (wC u 4 r12)) (fun u17 => some u17))
set_option maxHeartbeats 4000000 in
set_option maxRecDepth 100000 in
theorem tX8_becomeLevel_b0 {p : Program} {l : Launch} {e : Env} {s : State} {m : MethodId} {args : Array Value} {below : List Frame} {meth : Method} {c : Code} {D : va_G} {cy : Nat → ClassId} {A : Nat → Prop} {h : Nat} {a : Nat → Nat} (K : KS → Prop) (E : mE D cy RX8 cX8_becomeLevel 1 none wsX8_becomeLevel A p s m args meth c)
     (u : KS) (H : Heap) (locs : List Loc) (ls : Array Slot) (hl : lv_has ls 1 [(0, .ref h)]) (hP : va_P D kCl (wS cy h a u) H) (hD : va_D A (wS cy h a u)) (hS : va_S A s.heap H locs) (h1 : Ok (fX8_becomeLevel_b0 u) K) :
    kW p l e rmX8_becomeLevel s m args below meth c H locs (va_Qv K (fun q => kPost D A (wS cy h a q)) A) A 0 ls [] := by
  obtain ⟨hx, hb, hr, hml, hown, hts, hlocks, hK, hA⟩ := id E
  unfold fX8_becomeLevel_b0 at h1
  refine lv_aload_n hx hb dX8_becomeLevel_0 rfl (lv_at hl 0 rfl) ?_
  refine k_get (v := .ref (a 0)) (C := RX8) (T := TX8) (N := 13) hx hb hts inX8_becomeLevel_X8 hown hK hP 0 (wS_a0 _ _ _ _) rfl 0 (by decide) lkX8_becomeLevel_11 (sFs_0 _ _) dX8_becomeLevel_1 ?_
  refine lv_iconst (v := 4) hx hb dX8_becomeLevel_4 rfl ?_
  refine lv_aload_n hx hb dX8_becomeLevel_5 rfl (lv_at hl 0 rfl) ?_
  refine lv_aload_n hx hb dX8_becomeLevel_6 rfl (lv_at hl 0 rfl) ?_
  refine k_get (v := .ref (a 0)) (C := RX8) (T := TX8) (N := 13) hx hb hts inX8_becomeLevel_X8 hown hK hP 0 (wS_a0 _ _ _ _) rfl 0 (by decide) lkX8_becomeLevel_11 (sFs_0 _ _) dX8_becomeLevel_7 ?_
  refine lv_iconst (v := 0) hx hb dX8_becomeLevel_10 rfl ?_
  refine k_iald (k := 0) hx hb hK hP 1 (wS_a1 _ _ _ _) rfl rfl dX8_becomeLevel_11 ?_
  refine kc_rV0 (b := h) (As := [.int (sC u 0)]) (rest := [.int 4, .ref (a 0)]) h1 ⟨hx, hb, hml, hown, hts⟩ (cX8_deckAtM l D cy h a H.size u (sC u 0)) (cwV 1 hts gX8_becomeLevel_X8_deckAt rfl rfl rfl hdX8_deckAt ⟨Nat.le_of_ble_eq_true rfl, Nat.le_of_ble_eq_true rfl⟩) hK hP hD hS hA (q0 := 0) rfl rfl rfl hl.1 rfl (Nat.le_of_ble_eq_true rfl) dX8_becomeLevel_12 ⟨Nat.zero_le _, Nat.zero_le _⟩ (fun r12 H locs h1 hP hS => ?_)
  refine k_iast (k := 4) (ws' := wS cy h a (wC u 4 r12)) hx hb hK hP hD hS 1 (wS_a1 _ _ _ _) rfl rfl (wS_wC _ _ _ _ _ _) dX8_becomeLevel_15 (fun H locs hP hD hS => ?_)
  refine lv_aload_n hx hb dX8_becomeLevel_16 rfl (lv_at hl 0 rfl) ?_
  refine kc_vV0 (b := h) (As := []) (rest := []) h1 ⟨hx, hb, hml, hown, hts⟩ (cX8_measureAllM l D cy h a H.size (wC u 4 r12)) (cwV 0 hts gX8_becomeLevel_X8_measureAll rfl rfl rfl hdX8_measureAll ⟨Nat.le_of_ble_eq_true rfl, Nat.le_of_ble_eq_true rfl⟩) hK hP hD hS hA (q0 := 0) rfl rfl rfl hl.1 rfl (Nat.le_of_ble_eq_true rfl) dX8_becomeLevel_17 ⟨Nat.zero_le _, Nat.zero_le _⟩ (fun u17 H locs h1 hP hD hS => ?_)
  exact kret_v hx hb hr hlocks hP hD hS h1 dX8_becomeLevel_20
def fX8_becomeLevel (u : KS) : Option (KS) := fX8_becomeLevel_b0 u
set_option maxHeartbeats 4000000 in
set_option maxRecDepth 100000 in
theorem cX8_becomeLevelM (l : Launch) (D : va_G) (cy : Nat → ClassId) (h : Nat) (a : Nat → Nat) (sz : Nat) (u : KS) : ∀ (K : KS → Prop), Ok (fX8_becomeLevel u) K → Met l yX8_becomeLevel wsX8_becomeLevel rmX8_becomeLevel (va_Pc [.ref h] (kPre D cy sz (wS cy h a u))) (va_Qv K (fun q => kPost D (va_A (wS cy h a u) sz) (wS cy h a q)) (va_A (wS cy h a u) sz)) 0 0 (va_A (wS cy h a u) sz) := by
  intro K h1
  refine Met.ofW (cc := cX8_becomeLevel) (maxL := 1) (ret := none) (by decide) rfl ?_
  intro p e s m args below meth c s₁ B hml hv
  obtain ⟨rfl, hsz, hP, hK, hD0⟩ := hv
  subst hsz
  have E : mE D cy RX8 cX8_becomeLevel 1 none wsX8_becomeLevel (va_A (wS cy h a u) s.heap.size) p s m _ meth c := ⟨B.exec, B.bytes, B.returns, hml, findClass_of_methodNamed B.named, atoms_spec (ws := wsX8_becomeLevel) B.pre, B.notSynchronized, hK, fun q h => Or.inr h⟩
  have hl := lv_entry ([.ref h]) (n := 1) (Nat.le_of_ble_eq_true rfl)
  rw [lg_entry_eq]
  generalize (lg_sl ([.ref h]) ++ List.replicate (1 - (lg_sl ([.ref h])).length) Slot.unset).toArray = ls at hl ⊢
  exact tX8_becomeLevel_b0 K E u _ _ _ hl hP hD0.self va_S.rf h1
-- X8_kindFact
theorem inX8_kindFact_X8 : ∀ w ∈ u_ws RX8 TX8 13, w ∈ wsX8_kindFact := k_lays 2 rfl
theorem lkX8_kindFact_24 : Cond.fieldLink RX8 24 "FerryRamp$State" "kinds" "[I" ∈ wsX8_kindFact := List.mem_of_getElem? (i := 1) rfl
abbrev rmX8_kindFact : Room := { frames := 0, cells := 0, slots := 0, locals := 0 }
def fX8_kindFact_b0 (x1 : Int32) (x2 : Int32) (u : KS) : Option (Int32) :=
  (if ((x1 * 3) + x2) < 0 then some (-1) else (if 12 ≤ ((x1 * 3) + x2) then some (-1) else grd (inb ((x1 * 3) + x2) 12) (some (sK u (ix ((x1 * 3) + x2))))))
set_option maxHeartbeats 4000000 in
set_option maxRecDepth 100000 in
theorem tX8_kindFact_b0 {p : Program} {l : Launch} {e : Env} {s : State} {m : MethodId} {args : Array Value} {below : List Frame} {meth : Method} {c : Code} {D : va_G} {cy : Nat → ClassId} {A : Nat → Prop} {h : Nat} {a : Nat → Nat} (K : Int32 → Prop) (E : mE D cy RX8 cX8_kindFact 4 (some .int) wsX8_kindFact A p s m args meth c) (u : KS)
     (x1 : Int32) (x2 : Int32) (H : Heap) (locs : List Loc) (ls : Array Slot) (hl : lv_has ls 4 [(0, .ref h), (1, .int x1), (2, .int x2)]) (hP : va_P D kCl (wS cy h a u) H) (hD : va_D A (wS cy h a u)) (hS : va_S A s.heap H locs) (h1 : Ok (fX8_kindFact_b0 x1 x2 u) K) :
    kW p l e rmX8_kindFact s m args below meth c H locs (va_Qi (fun r (_ : Unit) => K r) (fun _ => kPost D A (wS cy h a u)) A) A 0 ls [] := by
  obtain ⟨hx, hb, hr, hml, hown, hts, hlocks, hK, hA⟩ := id E
  unfold fX8_kindFact_b0 at h1
  refine lv_iload_n hx hb dX8_kindFact_0 rfl (lv_at hl 1 rfl) ?_
  refine lv_iconst (v := 3) hx hb dX8_kindFact_1 rfl ?_
  refine lv_imul hx hb dX8_kindFact_2 ?_
  refine lv_iload_n hx hb dX8_kindFact_3 rfl (lv_at hl 2 rfl) ?_
  refine lv_iadd hx hb dX8_kindFact_4 ?_
  refine lv_istore_n (lv' := [(3, .int ((x1 * 3) + x2)), (0, .ref h), (1, .int x1), (2, .int x2)]) hx hb dX8_kindFact_5 rfl hl (by decide) rfl (fun ls hl => ?_)
  refine lv_iload_n hx hb dX8_kindFact_6 rfl (lv_at hl 0 rfl) ?_
  refine lv_if_lt (tgt := 28) hx hb dX8_kindFact_7 (by decide) (fun c7 => ?_) (fun c7 => ?_)
  · replace h1 := Ok.pos c7 h1
    refine lv_iconst (v := (-1)) hx hb dX8_kindFact_28 rfl ?_
    exact kret_r hx hb hr hlocks hP hD hS h1 dX8_kindFact_29
  · replace h1 := Ok.neg c7 h1
    refine lv_iload_n hx hb dX8_kindFact_10 rfl (lv_at hl 0 rfl) ?_
    refine lv_aload_n hx hb dX8_kindFact_11 rfl (lv_at hl 1 rfl) ?_
    refine k_get (v := .ref (a 2)) (C := RX8) (T := TX8) (N := 13) hx hb hts inX8_kindFact_X8 hown hK hP 0 (wS_a0 _ _ _ _) rfl 2 (by decide) lkX8_kindFact_24 (sFs_2 _ _) dX8_kindFact_12 ?_
    refine va_alen (v := 12) hx hb hK.1 hP 3 0 (wS_a3 _ _ _ _) rfl rfl dX8_kindFact_15 ?_
    refine lv_icmp_ge (tgt := 28) hx hb dX8_kindFact_16 (by decide) (fun c16 => ?_) (fun c16 => ?_)
    · replace h1 := Ok.pos c16 h1
      refine lv_iconst (v := (-1)) hx hb dX8_kindFact_28 rfl ?_
      exact kret_r hx hb hr hlocks hP hD hS h1 dX8_kindFact_29
    · replace h1 := Ok.neg c16 h1
      refine lv_aload_n hx hb dX8_kindFact_19 rfl (lv_at hl 1 rfl) ?_
      refine k_get (v := .ref (a 2)) (C := RX8) (T := TX8) (N := 13) hx hb hts inX8_kindFact_X8 hown hK hP 0 (wS_a0 _ _ _ _) rfl 2 (by decide) lkX8_kindFact_24 (sFs_2 _ _) dX8_kindFact_20 ?_
      refine lv_iload_n hx hb dX8_kindFact_23 rfl (lv_at hl 0 rfl) ?_
      have g24 := h1.grd1
      replace h1 := h1.grd2
      refine k_iald (k := (ix ((x1 * 3) + x2))) hx hb hK hP 3 (wS_a3 _ _ _ _) g24 rfl dX8_kindFact_24 ?_
      refine lv_goto (tgt := 29) hx hb dX8_kindFact_25 (by decide) ?_
      exact kret_r hx hb hr hlocks hP hD hS h1 dX8_kindFact_29
def fX8_kindFact (p1 : Int32) (p2 : Int32) (u : KS) : Option (Int32) := fX8_kindFact_b0 p1 p2 u
set_option maxHeartbeats 4000000 in
set_option maxRecDepth 100000 in
theorem cX8_kindFactM (l : Launch) (D : va_G) (cy : Nat → ClassId) (h : Nat) (a : Nat → Nat) (sz : Nat) (u : KS) (p1 : Int32) (p2 : Int32) : ∀ (K : Int32 → Prop), Ok (fX8_kindFact p1 p2 u) K → Met l yX8_kindFact wsX8_kindFact rmX8_kindFact (va_Pc [.ref h, .int p1, .int p2] (kPre D cy sz (wS cy h a u))) (va_Qi (fun r (_ : Unit) => K r) (fun _ => kPost D (va_A (wS cy h a u) sz) (wS cy h a u)) (va_A (wS cy h a u) sz)) 0 0 (va_A (wS cy h a u) sz) := by
  intro K h1
  refine Met.ofW (cc := cX8_kindFact) (maxL := 4) (ret := (some .int)) (by decide) rfl ?_
  intro p e s m args below meth c s₁ B hml hv
  obtain ⟨rfl, hsz, hP, hK, hD0⟩ := hv
  subst hsz
  have E : mE D cy RX8 cX8_kindFact 4 (some .int) wsX8_kindFact (va_A (wS cy h a u) s.heap.size) p s m _ meth c := ⟨B.exec, B.bytes, B.returns, hml, findClass_of_methodNamed B.named, atoms_spec (ws := wsX8_kindFact) B.pre, B.notSynchronized, hK, fun q h => Or.inr h⟩
  have hl := lv_entry ([.ref h, .int p1, .int p2]) (n := 4) (Nat.le_of_ble_eq_true rfl)
  rw [lg_entry_eq]
  generalize (lg_sl ([.ref h, .int p1, .int p2]) ++ List.replicate (4 - (lg_sl ([.ref h, .int p1, .int p2])).length) Slot.unset).toArray = ls at hl ⊢
  exact tX8_kindFact_b0 K E u p1 p2 _ _ _ hl hP hD0.self va_S.rf h1
-- X8_carFact
theorem inX8_carFact_X8 : ∀ w ∈ u_ws RX8 TX8 13, w ∈ wsX8_carFact := k_lays 2 rfl
theorem lkX8_carFact_29 : Cond.fieldLink RX8 29 "FerryRamp$State" "cars" "[I" ∈ wsX8_carFact := List.mem_of_getElem? (i := 1) rfl
abbrev rmX8_carFact : Room := { frames := 0, cells := 0, slots := 0, locals := 0 }
def fX8_carFact_b0 (x1 : Int32) (x2 : Int32) (u : KS) : Option (Int32) :=
  (if ((x1 * 7) + x2) < 0 then some (-1) else (if 420 ≤ ((x1 * 7) + x2) then some (-1) else grd (inb ((x1 * 7) + x2) 420) (some (sA u (ix ((x1 * 7) + x2))))))
set_option maxHeartbeats 4000000 in
set_option maxRecDepth 100000 in
theorem tX8_carFact_b0 {p : Program} {l : Launch} {e : Env} {s : State} {m : MethodId} {args : Array Value} {below : List Frame} {meth : Method} {c : Code} {D : va_G} {cy : Nat → ClassId} {A : Nat → Prop} {h : Nat} {a : Nat → Nat} (K : Int32 → Prop) (E : mE D cy RX8 cX8_carFact 4 (some .int) wsX8_carFact A p s m args meth c) (u : KS)
     (x1 : Int32) (x2 : Int32) (H : Heap) (locs : List Loc) (ls : Array Slot) (hl : lv_has ls 4 [(0, .ref h), (1, .int x1), (2, .int x2)]) (hP : va_P D kCl (wS cy h a u) H) (hD : va_D A (wS cy h a u)) (hS : va_S A s.heap H locs) (h1 : Ok (fX8_carFact_b0 x1 x2 u) K) :
    kW p l e rmX8_carFact s m args below meth c H locs (va_Qi (fun r (_ : Unit) => K r) (fun _ => kPost D A (wS cy h a u)) A) A 0 ls [] := by
  obtain ⟨hx, hb, hr, hml, hown, hts, hlocks, hK, hA⟩ := id E
  unfold fX8_carFact_b0 at h1
  refine lv_iload_n hx hb dX8_carFact_0 rfl (lv_at hl 1 rfl) ?_
  refine lv_bipush (v := 7) hx hb dX8_carFact_1 rfl ?_
  refine lv_imul hx hb dX8_carFact_3 ?_
  refine lv_iload_n hx hb dX8_carFact_4 rfl (lv_at hl 2 rfl) ?_
  refine lv_iadd hx hb dX8_carFact_5 ?_
  refine lv_istore_n (lv' := [(3, .int ((x1 * 7) + x2)), (0, .ref h), (1, .int x1), (2, .int x2)]) hx hb dX8_carFact_6 rfl hl (by decide) rfl (fun ls hl => ?_)
  refine lv_iload_n hx hb dX8_carFact_7 rfl (lv_at hl 0 rfl) ?_
  refine lv_if_lt (tgt := 29) hx hb dX8_carFact_8 (by decide) (fun c8 => ?_) (fun c8 => ?_)
  · replace h1 := Ok.pos c8 h1
    refine lv_iconst (v := (-1)) hx hb dX8_carFact_29 rfl ?_
    exact kret_r hx hb hr hlocks hP hD hS h1 dX8_carFact_30
  · replace h1 := Ok.neg c8 h1
    refine lv_iload_n hx hb dX8_carFact_11 rfl (lv_at hl 0 rfl) ?_
    refine lv_aload_n hx hb dX8_carFact_12 rfl (lv_at hl 1 rfl) ?_
    refine k_get (v := .ref (a 3)) (C := RX8) (T := TX8) (N := 13) hx hb hts inX8_carFact_X8 hown hK hP 0 (wS_a0 _ _ _ _) rfl 3 (by decide) lkX8_carFact_29 (sFs_3 _ _) dX8_carFact_13 ?_
    refine va_alen (v := 420) hx hb hK.1 hP 4 0 (wS_a4 _ _ _ _) rfl rfl dX8_carFact_16 ?_
    refine lv_icmp_ge (tgt := 29) hx hb dX8_carFact_17 (by decide) (fun c17 => ?_) (fun c17 => ?_)
    · replace h1 := Ok.pos c17 h1
      refine lv_iconst (v := (-1)) hx hb dX8_carFact_29 rfl ?_
      exact kret_r hx hb hr hlocks hP hD hS h1 dX8_carFact_30
    · replace h1 := Ok.neg c17 h1
      refine lv_aload_n hx hb dX8_carFact_20 rfl (lv_at hl 1 rfl) ?_
      refine k_get (v := .ref (a 3)) (C := RX8) (T := TX8) (N := 13) hx hb hts inX8_carFact_X8 hown hK hP 0 (wS_a0 _ _ _ _) rfl 3 (by decide) lkX8_carFact_29 (sFs_3 _ _) dX8_carFact_21 ?_
      refine lv_iload_n hx hb dX8_carFact_24 rfl (lv_at hl 0 rfl) ?_
      have g25 := h1.grd1
      replace h1 := h1.grd2
      refine k_iald (k := (ix ((x1 * 7) + x2))) hx hb hK hP 4 (wS_a4 _ _ _ _) g25 rfl dX8_carFact_25 ?_
      refine lv_goto (tgt := 30) hx hb dX8_carFact_26 (by decide) ?_
      exact kret_r hx hb hr hlocks hP hD hS h1 dX8_carFact_30
def fX8_carFact (p1 : Int32) (p2 : Int32) (u : KS) : Option (Int32) := fX8_carFact_b0 p1 p2 u
set_option maxHeartbeats 4000000 in
set_option maxRecDepth 100000 in
theorem cX8_carFactM (l : Launch) (D : va_G) (cy : Nat → ClassId) (h : Nat) (a : Nat → Nat) (sz : Nat) (u : KS) (p1 : Int32) (p2 : Int32) : ∀ (K : Int32 → Prop), Ok (fX8_carFact p1 p2 u) K → Met l yX8_carFact wsX8_carFact rmX8_carFact (va_Pc [.ref h, .int p1, .int p2] (kPre D cy sz (wS cy h a u))) (va_Qi (fun r (_ : Unit) => K r) (fun _ => kPost D (va_A (wS cy h a u) sz) (wS cy h a u)) (va_A (wS cy h a u) sz)) 0 0 (va_A (wS cy h a u) sz) := by
  intro K h1
  refine Met.ofW (cc := cX8_carFact) (maxL := 4) (ret := (some .int)) (by decide) rfl ?_
  intro p e s m args below meth c s₁ B hml hv
  obtain ⟨rfl, hsz, hP, hK, hD0⟩ := hv
  subst hsz
  have E : mE D cy RX8 cX8_carFact 4 (some .int) wsX8_carFact (va_A (wS cy h a u) s.heap.size) p s m _ meth c := ⟨B.exec, B.bytes, B.returns, hml, findClass_of_methodNamed B.named, atoms_spec (ws := wsX8_carFact) B.pre, B.notSynchronized, hK, fun q h => Or.inr h⟩
  have hl := lv_entry ([.ref h, .int p1, .int p2]) (n := 4) (Nat.le_of_ble_eq_true rfl)
  rw [lg_entry_eq]
  generalize (lg_sl ([.ref h, .int p1, .int p2]) ++ List.replicate (4 - (lg_sl ([.ref h, .int p1, .int p2])).length) Slot.unset).toArray = ls at hl ⊢
  exact tX8_carFact_b0 K E u p1 p2 _ _ _ hl hP hD0.self va_S.rf h1
-- X8_carKindFact
theorem hdX8_carFact : yX8_carFact.cls = RX8 ∧ yX8_carFact.cls ≠ "java/lang/invoke/MethodHandle" ∧ yX8_carFact.cls ≠ "java/lang/invoke/VarHandle" ∧ (parseMethodDescriptor yX8_carFact.desc).map (fun d => d.parameters.length) = some 2 := by decide +kernel
theorem hdX8_kindFact : yX8_kindFact.cls = RX8 ∧ yX8_kindFact.cls ≠ "java/lang/invoke/MethodHandle" ∧ yX8_kindFact.cls ≠ "java/lang/invoke/VarHandle" ∧ (parseMethodDescriptor yX8_kindFact.desc).map (fun d => d.parameters.length) = some 2 := by decide +kernel
abbrev rmX8_carKindFact : Room := { frames := 1, cells := 0, slots := 0, locals := 23 }
def fX8_carKindFact_b0 (x1 : Int32) (x2 : Int32) (u : KS) : Option (Int32) :=
  bnd (fX8_carFact x1 0 u) (fun r4 => bnd (fX8_kindFact r4 x2 u) (fun r8 => some r8))
set_option maxHeartbeats 4000000 in
set_option maxRecDepth 100000 in
theorem tX8_carKindFact_b0 {p : Program} {l : Launch} {e : Env} {s : State} {m : MethodId} {args : Array Value} {below : List Frame} {meth : Method} {c : Code} {D : va_G} {cy : Nat → ClassId} {A : Nat → Prop} {h : Nat} {a : Nat → Nat} (K : Int32 → Prop) (E : mE D cy RX8 cX8_carKindFact 3 (some .int) wsX8_carKindFact A p s m args meth c) (u : KS)
     (x1 : Int32) (x2 : Int32) (H : Heap) (locs : List Loc) (ls : Array Slot) (hl : lv_has ls 3 [(0, .ref h), (1, .int x1), (2, .int x2)]) (hP : va_P D kCl (wS cy h a u) H) (hD : va_D A (wS cy h a u)) (hS : va_S A s.heap H locs) (h1 : Ok (fX8_carKindFact_b0 x1 x2 u) K) :
    kW p l e rmX8_carKindFact s m args below meth c H locs (va_Qi (fun r (_ : Unit) => K r) (fun _ => kPost D A (wS cy h a u)) A) A 0 ls [] := by
  obtain ⟨hx, hb, hr, hml, hown, hts, hlocks, hK, hA⟩ := id E
  unfold fX8_carKindFact_b0 at h1
  refine lv_aload_n hx hb dX8_carKindFact_0 rfl (lv_at hl 0 rfl) ?_
  refine lv_aload_n hx hb dX8_carKindFact_1 rfl (lv_at hl 0 rfl) ?_
  refine lv_iload_n hx hb dX8_carKindFact_2 rfl (lv_at hl 1 rfl) ?_
  refine lv_iconst (v := 0) hx hb dX8_carKindFact_3 rfl ?_
  refine kc_rV0 (b := h) (As := [.int x1, .int 0]) (rest := [.ref h]) h1 ⟨hx, hb, hml, hown, hts⟩ (cX8_carFactM l D cy h a H.size u x1 0) (cwV 2 hts gX8_carKindFact_X8_carFact rfl rfl rfl hdX8_carFact ⟨Nat.le_of_ble_eq_true rfl, Nat.le_of_ble_eq_true rfl⟩) hK hP hD hS hA (q0 := 0) rfl rfl rfl hl.1 rfl (Nat.le_of_ble_eq_true rfl) dX8_carKindFact_4 ⟨Nat.zero_le _, Nat.zero_le _⟩ (fun r4 H locs h1 hP hS => ?_)
  refine lv_iload_n hx hb dX8_carKindFact_7 rfl (lv_at hl 2 rfl) ?_
  refine kc_rV0 (b := h) (As := [.int r4, .int x2]) (rest := []) h1 ⟨hx, hb, hml, hown, hts⟩ (cX8_kindFactM l D cy h a H.size u r4 x2) (cwV 2 hts gX8_carKindFact_X8_kindFact rfl rfl rfl hdX8_kindFact ⟨Nat.le_of_ble_eq_true rfl, Nat.le_of_ble_eq_true rfl⟩) hK hP hD hS hA (q0 := 0) rfl rfl rfl hl.1 rfl (Nat.le_of_ble_eq_true rfl) dX8_carKindFact_8 ⟨Nat.zero_le _, Nat.zero_le _⟩ (fun r8 H locs h1 hP hS => ?_)
  exact kret_r hx hb hr hlocks hP hD hS h1 dX8_carKindFact_11
def fX8_carKindFact (p1 : Int32) (p2 : Int32) (u : KS) : Option (Int32) := fX8_carKindFact_b0 p1 p2 u
set_option maxHeartbeats 4000000 in
set_option maxRecDepth 100000 in
theorem cX8_carKindFactM (l : Launch) (D : va_G) (cy : Nat → ClassId) (h : Nat) (a : Nat → Nat) (sz : Nat) (u : KS) (p1 : Int32) (p2 : Int32) : ∀ (K : Int32 → Prop), Ok (fX8_carKindFact p1 p2 u) K → Met l yX8_carKindFact wsX8_carKindFact rmX8_carKindFact (va_Pc [.ref h, .int p1, .int p2] (kPre D cy sz (wS cy h a u))) (va_Qi (fun r (_ : Unit) => K r) (fun _ => kPost D (va_A (wS cy h a u) sz) (wS cy h a u)) (va_A (wS cy h a u) sz)) 0 0 (va_A (wS cy h a u) sz) := by
  intro K h1
  refine Met.ofW (cc := cX8_carKindFact) (maxL := 3) (ret := (some .int)) (by decide) rfl ?_
  intro p e s m args below meth c s₁ B hml hv
  obtain ⟨rfl, hsz, hP, hK, hD0⟩ := hv
  subst hsz
  have E : mE D cy RX8 cX8_carKindFact 3 (some .int) wsX8_carKindFact (va_A (wS cy h a u) s.heap.size) p s m _ meth c := ⟨B.exec, B.bytes, B.returns, hml, findClass_of_methodNamed B.named, atoms_spec (ws := wsX8_carKindFact) B.pre, B.notSynchronized, hK, fun q h => Or.inr h⟩
  have hl := lv_entry ([.ref h, .int p1, .int p2]) (n := 3) (Nat.le_of_ble_eq_true rfl)
  rw [lg_entry_eq]
  generalize (lg_sl ([.ref h, .int p1, .int p2]) ++ List.replicate (3 - (lg_sl ([.ref h, .int p1, .int p2])).length) Slot.unset).toArray = ls at hl ⊢
  exact tX8_carKindFact_b0 K E u p1 p2 _ _ _ hl hP hD0.self va_S.rf h1
-- X8_setCarFact
theorem inX8_setCarFact_X8 : ∀ w ∈ u_ws RX8 TX8 13, w ∈ wsX8_setCarFact := k_lays 2 rfl
theorem lkX8_setCarFact_29 : Cond.fieldLink RX8 29 "FerryRamp$State" "cars" "[I" ∈ wsX8_setCarFact := List.mem_of_getElem? (i := 1) rfl
abbrev rmX8_setCarFact : Room := { frames := 0, cells := 0, slots := 0, locals := 0 }
def fX8_setCarFact_b0 (x1 : Int32) (x2 : Int32) (x3 : Int32) (u : KS) : Option (KS) :=
  (if ((x1 * 7) + x2) < 0 then some u else (if 420 ≤ ((x1 * 7) + x2) then some u else grd (inb ((x1 * 7) + x2) 420) (some (wA u (ix ((x1 * 7) + x2)) x3))))
set_option maxHeartbeats 4000000 in
set_option maxRecDepth 100000 in
theorem tX8_setCarFact_b0 {p : Program} {l : Launch} {e : Env} {s : State} {m : MethodId} {args : Array Value} {below : List Frame} {meth : Method} {c : Code} {D : va_G} {cy : Nat → ClassId} {A : Nat → Prop} {h : Nat} {a : Nat → Nat} (K : KS → Prop) (E : mE D cy RX8 cX8_setCarFact 5 none wsX8_setCarFact A p s m args meth c)
     (x1 : Int32) (x2 : Int32) (x3 : Int32) (u : KS) (H : Heap) (locs : List Loc) (ls : Array Slot) (hl : lv_has ls 5 [(0, .ref h), (1, .int x1), (2, .int x2), (3, .int x3)]) (hP : va_P D kCl (wS cy h a u) H) (hD : va_D A (wS cy h a u)) (hS : va_S A s.heap H locs) (h1 : Ok (fX8_setCarFact_b0 x1 x2 x3 u) K) :
    kW p l e rmX8_setCarFact s m args below meth c H locs (va_Qv K (fun q => kPost D A (wS cy h a q)) A) A 0 ls [] := by
  obtain ⟨hx, hb, hr, hml, hown, hts, hlocks, hK, hA⟩ := id E
  unfold fX8_setCarFact_b0 at h1
  refine lv_iload_n hx hb dX8_setCarFact_0 rfl (lv_at hl 1 rfl) ?_
  refine lv_bipush (v := 7) hx hb dX8_setCarFact_1 rfl ?_
  refine lv_imul hx hb dX8_setCarFact_3 ?_
  refine lv_iload_n hx hb dX8_setCarFact_4 rfl (lv_at hl 2 rfl) ?_
  refine lv_iadd hx hb dX8_setCarFact_5 ?_
  refine lv_istore (lv' := [(4, .int ((x1 * 7) + x2)), (0, .ref h), (1, .int x1), (2, .int x2), (3, .int x3)]) hx hb dX8_setCarFact_6 hl (by decide) rfl (fun ls hl => ?_)
  refine lv_iload hx hb dX8_setCarFact_8 (lv_at hl 0 rfl) ?_
  refine lv_if_lt (tgt := 31) hx hb dX8_setCarFact_10 (by decide) (fun c10 => ?_) (fun c10 => ?_)
  · replace h1 := Ok.pos c10 h1
    exact kret_v hx hb hr hlocks hP hD hS h1 dX8_setCarFact_31
  · replace h1 := Ok.neg c10 h1
    refine lv_iload hx hb dX8_setCarFact_13 (lv_at hl 0 rfl) ?_
    refine lv_aload_n hx hb dX8_setCarFact_15 rfl (lv_at hl 1 rfl) ?_
    refine k_get (v := .ref (a 3)) (C := RX8) (T := TX8) (N := 13) hx hb hts inX8_setCarFact_X8 hown hK hP 0 (wS_a0 _ _ _ _) rfl 3 (by decide) lkX8_setCarFact_29 (sFs_3 _ _) dX8_setCarFact_16 ?_
    refine va_alen (v := 420) hx hb hK.1 hP 4 0 (wS_a4 _ _ _ _) rfl rfl dX8_setCarFact_19 ?_
    refine lv_icmp_ge (tgt := 31) hx hb dX8_setCarFact_20 (by decide) (fun c20 => ?_) (fun c20 => ?_)
    · replace h1 := Ok.pos c20 h1
      exact kret_v hx hb hr hlocks hP hD hS h1 dX8_setCarFact_31
    · replace h1 := Ok.neg c20 h1
      refine lv_aload_n hx hb dX8_setCarFact_23 rfl (lv_at hl 1 rfl) ?_
      refine k_get (v := .ref (a 3)) (C := RX8) (T := TX8) (N := 13) hx hb hts inX8_setCarFact_X8 hown hK hP 0 (wS_a0 _ _ _ _) rfl 3 (by decide) lkX8_setCarFact_29 (sFs_3 _ _) dX8_setCarFact_24 ?_
      refine lv_iload hx hb dX8_setCarFact_27 (lv_at hl 0 rfl) ?_
      refine lv_iload_n hx hb dX8_setCarFact_29 rfl (lv_at hl 4 rfl) ?_
      have g30 := h1.grd1
      replace h1 := h1.grd2
      refine k_iast (k := (ix ((x1 * 7) + x2))) (ws' := wS cy h a (wA u (ix ((x1 * 7) + x2)) x3)) hx hb hK hP hD hS 4 (wS_a4 _ _ _ _) g30 rfl (wS_wA _ _ _ _ _ _) dX8_setCarFact_30 (fun H locs hP hD hS => ?_)
      exact kret_v hx hb hr hlocks hP hD hS h1 dX8_setCarFact_31
def fX8_setCarFact (p1 : Int32) (p2 : Int32) (p3 : Int32) (u : KS) : Option (KS) := fX8_setCarFact_b0 p1 p2 p3 u
set_option maxHeartbeats 4000000 in
set_option maxRecDepth 100000 in
theorem cX8_setCarFactM (l : Launch) (D : va_G) (cy : Nat → ClassId) (h : Nat) (a : Nat → Nat) (sz : Nat) (u : KS) (p1 : Int32) (p2 : Int32) (p3 : Int32) : ∀ (K : KS → Prop), Ok (fX8_setCarFact p1 p2 p3 u) K → Met l yX8_setCarFact wsX8_setCarFact rmX8_setCarFact (va_Pc [.ref h, .int p1, .int p2, .int p3] (kPre D cy sz (wS cy h a u))) (va_Qv K (fun q => kPost D (va_A (wS cy h a u) sz) (wS cy h a q)) (va_A (wS cy h a u) sz)) 0 0 (va_A (wS cy h a u) sz) := by
  intro K h1
  refine Met.ofW (cc := cX8_setCarFact) (maxL := 5) (ret := none) (by decide) rfl ?_
  intro p e s m args below meth c s₁ B hml hv
  obtain ⟨rfl, hsz, hP, hK, hD0⟩ := hv
  subst hsz
  have E : mE D cy RX8 cX8_setCarFact 5 none wsX8_setCarFact (va_A (wS cy h a u) s.heap.size) p s m _ meth c := ⟨B.exec, B.bytes, B.returns, hml, findClass_of_methodNamed B.named, atoms_spec (ws := wsX8_setCarFact) B.pre, B.notSynchronized, hK, fun q h => Or.inr h⟩
  have hl := lv_entry ([.ref h, .int p1, .int p2, .int p3]) (n := 5) (Nat.le_of_ble_eq_true rfl)
  rw [lg_entry_eq]
  generalize (lg_sl ([.ref h, .int p1, .int p2, .int p3]) ++ List.replicate (5 - (lg_sl ([.ref h, .int p1, .int p2, .int p3])).length) Slot.unset).toArray = ls at hl ⊢
  exact tX8_setCarFact_b0 K E p1 p2 p3 u _ _ _ hl hP hD0.self va_S.rf h1
-- X8_carOnDeck
theorem inX8_carOnDeck_X8 : ∀ w ∈ u_ws RX8 TX8 13, w ∈ wsX8_carOnDeck := k_lays 6 rfl
theorem lkX8_carOnDeck_38 : Cond.fieldLink RX8 38 "FerryRamp$State" "deckCars" "[I" ∈ wsX8_carOnDeck := List.mem_of_getElem? (i := 1) rfl
theorem lkX8_carOnDeck_35 : Cond.fieldLink RX8 35 "FerryRamp$State" "onDeck" "[I" ∈ wsX8_carOnDeck := List.mem_of_getElem? (i := 2) rfl
theorem heX9_at : yX9_at.cls ≠ "java/lang/invoke/MethodHandle" ∧ yX9_at.cls ≠ "java/lang/invoke/VarHandle" ∧ (parseMethodDescriptor yX9_at.desc).map (fun d => d.parameters.length) = some 2 := by decide +kernel
abbrev rmX8_carOnDeck : Room := { frames := 1, cells := 0, slots := 0, locals := 21 }
def fX8_carOnDeck_b0 (x1 : Int32) (x2 : Int32) (u : KS) : Option (Int32) :=
  (if x1 < 0 then some (-1) else (if 3 ≤ x1 then some (-1) else (if x2 < 0 then some (-1) else grd (inb x1 3) ((if x2 < (sD u (ix x1)) then bnd (fX9_at ((x1 * 30) + x2) 90 (sO u)) (fun r35 => some r35) else some (-1))))))
set_option maxHeartbeats 4000000 in
set_option maxRecDepth 100000 in
theorem tX8_carOnDeck_b0 {p : Program} {l : Launch} {e : Env} {s : State} {m : MethodId} {args : Array Value} {below : List Frame} {meth : Method} {c : Code} {D : va_G} {cy : Nat → ClassId} {A : Nat → Prop} {h : Nat} {a : Nat → Nat} (K : Int32 → Prop) (E : mE D cy RX8 cX8_carOnDeck 3 (some .int) wsX8_carOnDeck A p s m args meth c) (u : KS)
     (x1 : Int32) (x2 : Int32) (H : Heap) (locs : List Loc) (ls : Array Slot) (hl : lv_has ls 3 [(0, .ref h), (1, .int x1), (2, .int x2)]) (hP : va_P D kCl (wS cy h a u) H) (hD : va_D A (wS cy h a u)) (hS : va_S A s.heap H locs) (h1 : Ok (fX8_carOnDeck_b0 x1 x2 u) K) :
    kW p l e rmX8_carOnDeck s m args below meth c H locs (va_Qi (fun r (_ : Unit) => K r) (fun _ => kPost D A (wS cy h a u)) A) A 0 ls [] := by
  obtain ⟨hx, hb, hr, hml, hown, hts, hlocks, hK, hA⟩ := id E
  unfold fX8_carOnDeck_b0 at h1
  refine lv_iload_n hx hb dX8_carOnDeck_0 rfl (lv_at hl 1 rfl) ?_
  refine lv_if_lt (tgt := 23) hx hb dX8_carOnDeck_1 (by decide) (fun c1 => ?_) (fun c1 => ?_)
  · replace h1 := Ok.pos c1 h1
    refine lv_iconst (v := (-1)) hx hb dX8_carOnDeck_23 rfl ?_
    exact kret_r hx hb hr hlocks hP hD hS h1 dX8_carOnDeck_24
  · replace h1 := Ok.neg c1 h1
    refine lv_iload_n hx hb dX8_carOnDeck_4 rfl (lv_at hl 1 rfl) ?_
    refine lv_iconst (v := 3) hx hb dX8_carOnDeck_5 rfl ?_
    refine lv_icmp_ge (tgt := 23) hx hb dX8_carOnDeck_6 (by decide) (fun c6 => ?_) (fun c6 => ?_)
    · replace h1 := Ok.pos c6 h1
      refine lv_iconst (v := (-1)) hx hb dX8_carOnDeck_23 rfl ?_
      exact kret_r hx hb hr hlocks hP hD hS h1 dX8_carOnDeck_24
    · replace h1 := Ok.neg c6 h1
      refine lv_iload_n hx hb dX8_carOnDeck_9 rfl (lv_at hl 2 rfl) ?_
      refine lv_if_lt (tgt := 23) hx hb dX8_carOnDeck_10 (by decide) (fun c10 => ?_) (fun c10 => ?_)
      · replace h1 := Ok.pos c10 h1
        refine lv_iconst (v := (-1)) hx hb dX8_carOnDeck_23 rfl ?_
        exact kret_r hx hb hr hlocks hP hD hS h1 dX8_carOnDeck_24
      · replace h1 := Ok.neg c10 h1
        refine lv_iload_n hx hb dX8_carOnDeck_13 rfl (lv_at hl 2 rfl) ?_
        refine lv_aload_n hx hb dX8_carOnDeck_14 rfl (lv_at hl 0 rfl) ?_
        refine k_get (v := .ref (a 6)) (C := RX8) (T := TX8) (N := 13) hx hb hts inX8_carOnDeck_X8 hown hK hP 0 (wS_a0 _ _ _ _) rfl 6 (by decide) lkX8_carOnDeck_38 (sFs_6 _ _) dX8_carOnDeck_15 ?_
        refine lv_iload_n hx hb dX8_carOnDeck_18 rfl (lv_at hl 1 rfl) ?_
        have g19 := h1.grd1
        replace h1 := h1.grd2
        refine k_iald (k := (ix x1)) hx hb hK hP 7 (wS_a7 _ _ _ _) g19 rfl dX8_carOnDeck_19 ?_
        refine lv_icmp_lt (tgt := 25) hx hb dX8_carOnDeck_20 (by decide) (fun c20 => ?_) (fun c20 => ?_)
        · replace h1 := Ok.pos c20 h1
          refine lv_aload_n hx hb dX8_carOnDeck_25 rfl (lv_at hl 0 rfl) ?_
          refine k_get (v := .ref (a 5)) (C := RX8) (T := TX8) (N := 13) hx hb hts inX8_carOnDeck_X8 hown hK hP 0 (wS_a0 _ _ _ _) rfl 5 (by decide) lkX8_carOnDeck_35 (sFs_5 _ _) dX8_carOnDeck_26 ?_
          refine lv_iload_n hx hb dX8_carOnDeck_29 rfl (lv_at hl 1 rfl) ?_
          refine lv_bipush (v := 30) hx hb dX8_carOnDeck_30 rfl ?_
          refine lv_imul hx hb dX8_carOnDeck_32 ?_
          refine lv_iload_n hx hb dX8_carOnDeck_33 rfl (lv_at hl 2 rfl) ?_
          refine lv_iadd hx hb dX8_carOnDeck_34 ?_
          refine kc_rSN (As := [.ref (a 5), .int ((x1 * 30) + x2)]) (rest := []) h1 ⟨hx, hb, hml, hown, hts⟩ (cX9_atM l D cy (a 5) H.size 90 (sO u) ((x1 * 30) + x2)) ⟨va_cnB 2 hts gX8_carOnDeck_X9_at_n98 rfl rfl rfl hK.2.2.1 (hts _ (List.mem_of_getElem? (i := 4) rfl)) heX9_at ⟨Nat.le_of_ble_eq_true rfl, Nat.le_of_ble_eq_true rfl⟩, hts _ (List.mem_of_getElem? (i := 3) rfl), trivial⟩ hK (k_pick (k := 6) (wS_a6 _ _ _ _)) hP hD hS hA rfl hl.1 rfl (Nat.le_of_ble_eq_true rfl) dX8_carOnDeck_35 ⟨Nat.zero_le _, Nat.zero_le _⟩ (fun r35 H locs h1 hP hS => ?_)
          exact kret_r hx hb hr hlocks hP hD hS h1 dX8_carOnDeck_38
        · replace h1 := Ok.neg c20 h1
          refine lv_iconst (v := (-1)) hx hb dX8_carOnDeck_23 rfl ?_
          exact kret_r hx hb hr hlocks hP hD hS h1 dX8_carOnDeck_24
def fX8_carOnDeck (p1 : Int32) (p2 : Int32) (u : KS) : Option (Int32) := fX8_carOnDeck_b0 p1 p2 u
set_option maxHeartbeats 4000000 in
set_option maxRecDepth 100000 in
theorem cX8_carOnDeckM (l : Launch) (D : va_G) (cy : Nat → ClassId) (h : Nat) (a : Nat → Nat) (sz : Nat) (u : KS) (p1 : Int32) (p2 : Int32) : ∀ (K : Int32 → Prop), Ok (fX8_carOnDeck p1 p2 u) K → Met l yX8_carOnDeck wsX8_carOnDeck rmX8_carOnDeck (va_Pc [.ref h, .int p1, .int p2] (kPre D cy sz (wS cy h a u))) (va_Qi (fun r (_ : Unit) => K r) (fun _ => kPost D (va_A (wS cy h a u) sz) (wS cy h a u)) (va_A (wS cy h a u) sz)) 0 0 (va_A (wS cy h a u) sz) := by
  intro K h1
  refine Met.ofW (cc := cX8_carOnDeck) (maxL := 3) (ret := (some .int)) (by decide) rfl ?_
  intro p e s m args below meth c s₁ B hml hv
  obtain ⟨rfl, hsz, hP, hK, hD0⟩ := hv
  subst hsz
  have E : mE D cy RX8 cX8_carOnDeck 3 (some .int) wsX8_carOnDeck (va_A (wS cy h a u) s.heap.size) p s m _ meth c := ⟨B.exec, B.bytes, B.returns, hml, findClass_of_methodNamed B.named, atoms_spec (ws := wsX8_carOnDeck) B.pre, B.notSynchronized, hK, fun q h => Or.inr h⟩
  have hl := lv_entry ([.ref h, .int p1, .int p2]) (n := 3) (Nat.le_of_ble_eq_true rfl)
  rw [lg_entry_eq]
  generalize (lg_sl ([.ref h, .int p1, .int p2]) ++ List.replicate (3 - (lg_sl ([.ref h, .int p1, .int p2])).length) Slot.unset).toArray = ls at hl ⊢
  exact tX8_carOnDeck_b0 K E u p1 p2 _ _ _ hl hP hD0.self va_S.rf h1
-- X8_lastOnDeck
theorem inX8_lastOnDeck_X8 : ∀ w ∈ u_ws RX8 TX8 13, w ∈ wsX8_lastOnDeck := k_lays 11 rfl
theorem lkX8_lastOnDeck_38 : Cond.fieldLink RX8 38 "FerryRamp$State" "deckCars" "[I" ∈ wsX8_lastOnDeck := List.mem_of_getElem? (i := 1) rfl
theorem hdX8_carOnDeck : yX8_carOnDeck.cls = RX8 ∧ yX8_carOnDeck.cls ≠ "java/lang/invoke/MethodHandle" ∧ yX8_carOnDeck.cls ≠ "java/lang/invoke/VarHandle" ∧ (parseMethodDescriptor yX8_carOnDeck.desc).map (fun d => d.parameters.length) = some 2 := by decide +kernel
abbrev rmX8_lastOnDeck : Room := { frames := 2, cells := 0, slots := 0, locals := 43 }
def fX8_lastOnDeck_b0 (x1 : Int32) (u : KS) : Option (Int32) :=
  (if x1 < 0 then some (-1) else (if x1 < 3 then grd (inb x1 3) (bnd (fX8_carOnDeck x1 ((sD u (ix x1)) - 1) u) (fun r23 => some r23)) else some (-1)))
set_option maxHeartbeats 4000000 in
set_option maxRecDepth 100000 in
theorem tX8_lastOnDeck_b0 {p : Program} {l : Launch} {e : Env} {s : State} {m : MethodId} {args : Array Value} {below : List Frame} {meth : Method} {c : Code} {D : va_G} {cy : Nat → ClassId} {A : Nat → Prop} {h : Nat} {a : Nat → Nat} (K : Int32 → Prop) (E : mE D cy RX8 cX8_lastOnDeck 2 (some .int) wsX8_lastOnDeck A p s m args meth c) (u : KS)
     (x1 : Int32) (H : Heap) (locs : List Loc) (ls : Array Slot) (hl : lv_has ls 2 [(0, .ref h), (1, .int x1)]) (hP : va_P D kCl (wS cy h a u) H) (hD : va_D A (wS cy h a u)) (hS : va_S A s.heap H locs) (h1 : Ok (fX8_lastOnDeck_b0 x1 u) K) :
    kW p l e rmX8_lastOnDeck s m args below meth c H locs (va_Qi (fun r (_ : Unit) => K r) (fun _ => kPost D A (wS cy h a u)) A) A 0 ls [] := by
  obtain ⟨hx, hb, hr, hml, hown, hts, hlocks, hK, hA⟩ := id E
  unfold fX8_lastOnDeck_b0 at h1
  refine lv_iload_n hx hb dX8_lastOnDeck_0 rfl (lv_at hl 1 rfl) ?_
  refine lv_if_lt (tgt := 9) hx hb dX8_lastOnDeck_1 (by decide) (fun c1 => ?_) (fun c1 => ?_)
  · replace h1 := Ok.pos c1 h1
    refine lv_iconst (v := (-1)) hx hb dX8_lastOnDeck_9 rfl ?_
    refine lv_goto (tgt := 26) hx hb dX8_lastOnDeck_10 (by decide) ?_
    exact kret_r hx hb hr hlocks hP hD hS h1 dX8_lastOnDeck_26
  · replace h1 := Ok.neg c1 h1
    refine lv_iload_n hx hb dX8_lastOnDeck_4 rfl (lv_at hl 1 rfl) ?_
    refine lv_iconst (v := 3) hx hb dX8_lastOnDeck_5 rfl ?_
    refine lv_icmp_lt (tgt := 13) hx hb dX8_lastOnDeck_6 (by decide) (fun c6 => ?_) (fun c6 => ?_)
    · replace h1 := Ok.pos c6 h1
      refine lv_aload_n hx hb dX8_lastOnDeck_13 rfl (lv_at hl 0 rfl) ?_
      refine lv_iload_n hx hb dX8_lastOnDeck_14 rfl (lv_at hl 1 rfl) ?_
      refine lv_aload_n hx hb dX8_lastOnDeck_15 rfl (lv_at hl 0 rfl) ?_
      refine k_get (v := .ref (a 6)) (C := RX8) (T := TX8) (N := 13) hx hb hts inX8_lastOnDeck_X8 hown hK hP 0 (wS_a0 _ _ _ _) rfl 6 (by decide) lkX8_lastOnDeck_38 (sFs_6 _ _) dX8_lastOnDeck_16 ?_
      refine lv_iload_n hx hb dX8_lastOnDeck_19 rfl (lv_at hl 1 rfl) ?_
      have g20 := h1.grd1
      replace h1 := h1.grd2
      refine k_iald (k := (ix x1)) hx hb hK hP 7 (wS_a7 _ _ _ _) g20 rfl dX8_lastOnDeck_20 ?_
      refine lv_iconst (v := 1) hx hb dX8_lastOnDeck_21 rfl ?_
      refine lv_isub hx hb dX8_lastOnDeck_22 ?_
      refine kc_rV0 (b := h) (As := [.int x1, .int ((sD u (ix x1)) - 1)]) (rest := []) h1 ⟨hx, hb, hml, hown, hts⟩ (cX8_carOnDeckM l D cy h a H.size u x1 ((sD u (ix x1)) - 1)) (cwV 2 hts gX8_lastOnDeck_X8_carOnDeck rfl rfl rfl hdX8_carOnDeck ⟨Nat.le_of_ble_eq_true rfl, Nat.le_of_ble_eq_true rfl⟩) hK hP hD hS hA (q0 := 0) rfl rfl rfl hl.1 rfl (Nat.le_of_ble_eq_true rfl) dX8_lastOnDeck_23 ⟨Nat.zero_le _, Nat.zero_le _⟩ (fun r23 H locs h1 hP hS => ?_)
      exact kret_r hx hb hr hlocks hP hD hS h1 dX8_lastOnDeck_26
    · replace h1 := Ok.neg c6 h1
      refine lv_iconst (v := (-1)) hx hb dX8_lastOnDeck_9 rfl ?_
      refine lv_goto (tgt := 26) hx hb dX8_lastOnDeck_10 (by decide) ?_
      exact kret_r hx hb hr hlocks hP hD hS h1 dX8_lastOnDeck_26
def fX8_lastOnDeck (p1 : Int32) (u : KS) : Option (Int32) := fX8_lastOnDeck_b0 p1 u
set_option maxHeartbeats 4000000 in
set_option maxRecDepth 100000 in
theorem cX8_lastOnDeckM (l : Launch) (D : va_G) (cy : Nat → ClassId) (h : Nat) (a : Nat → Nat) (sz : Nat) (u : KS) (p1 : Int32) : ∀ (K : Int32 → Prop), Ok (fX8_lastOnDeck p1 u) K → Met l yX8_lastOnDeck wsX8_lastOnDeck rmX8_lastOnDeck (va_Pc [.ref h, .int p1] (kPre D cy sz (wS cy h a u))) (va_Qi (fun r (_ : Unit) => K r) (fun _ => kPost D (va_A (wS cy h a u) sz) (wS cy h a u)) (va_A (wS cy h a u) sz)) 0 0 (va_A (wS cy h a u) sz) := by
  intro K h1
  refine Met.ofW (cc := cX8_lastOnDeck) (maxL := 2) (ret := (some .int)) (by decide) rfl ?_
  intro p e s m args below meth c s₁ B hml hv
  obtain ⟨rfl, hsz, hP, hK, hD0⟩ := hv
  subst hsz
  have E : mE D cy RX8 cX8_lastOnDeck 2 (some .int) wsX8_lastOnDeck (va_A (wS cy h a u) s.heap.size) p s m _ meth c := ⟨B.exec, B.bytes, B.returns, hml, findClass_of_methodNamed B.named, atoms_spec (ws := wsX8_lastOnDeck) B.pre, B.notSynchronized, hK, fun q h => Or.inr h⟩
  have hl := lv_entry ([.ref h, .int p1]) (n := 2) (Nat.le_of_ble_eq_true rfl)
  rw [lg_entry_eq]
  generalize (lg_sl ([.ref h, .int p1]) ++ List.replicate (2 - (lg_sl ([.ref h, .int p1])).length) Slot.unset).toArray = ls at hl ⊢
  exact tX8_lastOnDeck_b0 K E u p1 _ _ _ hl hP hD0.self va_S.rf h1
-- X8_placeOf
theorem inX8_placeOf_X8 : ∀ w ∈ u_ws RX8 TX8 13, w ∈ wsX8_placeOf := k_lays 3 rfl
theorem lkX8_placeOf_11 : Cond.fieldLink RX8 11 "FerryRamp$State" "counts" "[I" ∈ wsX8_placeOf := List.mem_of_getElem? (i := 1) rfl
theorem lkX8_placeOf_32 : Cond.fieldLink RX8 32 "FerryRamp$State" "queue" "[I" ∈ wsX8_placeOf := List.mem_of_getElem? (i := 2) rfl
abbrev rmX8_placeOf : Room := { frames := 0, cells := 0, slots := 0, locals := 0 }
def fX8_placeOf_b2 (k2 : Int32 × Int32 → Option (Int32)) (x1 : Int32) (x2 : Int32) (u : KS) : Option (Int32) :=
  (if (sC u 1) ≤ x2 then some (-1) else (if 20 ≤ x2 then some (-1) else grd (inb x2 20) ((if (sQ u (ix x2)) = x1 then some x2 else k2 (x1, x2 + 1)))))
set_option maxHeartbeats 4000000 in
set_option maxRecDepth 100000 in
theorem tX8_placeOf_b2 {p : Program} {l : Launch} {e : Env} {s : State} {m : MethodId} {args : Array Value} {below : List Frame} {meth : Method} {c : Code} {D : va_G} {cy : Nat → ClassId} {A : Nat → Prop} {h : Nat} {a : Nat → Nat} (K : Int32 → Prop) (E : mE D cy RX8 cX8_placeOf 3 (some .int) wsX8_placeOf A p s m args meth c) (u : KS)
    (k2 : Int32 × Int32 → Option (Int32)) (hk2 : ∀ (x1 : Int32) (x2 : Int32) (H : Heap) (locs : List Loc) (ls : Array Slot), lv_has ls 3 [(0, .ref h), (1, .int x1), (2, .int x2)] → va_P D kCl (wS cy h a u) H → va_D A (wS cy h a u) → va_S A s.heap H locs → Ok (k2 (x1, x2)) K → kW p l e rmX8_placeOf s m args below meth c H locs (va_Qi (fun r (_ : Unit) => K r) (fun _ => kPost D A (wS cy h a u)) A) A 2 ls [])
     (x1 : Int32) (x2 : Int32) (H : Heap) (locs : List Loc) (ls : Array Slot) (hl : lv_has ls 3 [(0, .ref h), (1, .int x1), (2, .int x2)]) (hP : va_P D kCl (wS cy h a u) H) (hD : va_D A (wS cy h a u)) (hS : va_S A s.heap H locs) (h1 : Ok (fX8_placeOf_b2 k2 x1 x2 u) K) :
    kW p l e rmX8_placeOf s m args below meth c H locs (va_Qi (fun r (_ : Unit) => K r) (fun _ => kPost D A (wS cy h a u)) A) A 2 ls [] := by
  obtain ⟨hx, hb, hr, hml, hown, hts, hlocks, hK, hA⟩ := id E
  unfold fX8_placeOf_b2 at h1
  refine lv_iload_n hx hb dX8_placeOf_2 rfl (lv_at hl 2 rfl) ?_
  refine lv_aload_n hx hb dX8_placeOf_3 rfl (lv_at hl 0 rfl) ?_
  refine k_get (v := .ref (a 0)) (C := RX8) (T := TX8) (N := 13) hx hb hts inX8_placeOf_X8 hown hK hP 0 (wS_a0 _ _ _ _) rfl 0 (by decide) lkX8_placeOf_11 (sFs_0 _ _) dX8_placeOf_4 ?_
  refine lv_iconst (v := 1) hx hb dX8_placeOf_7 rfl ?_
  refine k_iald (k := 1) hx hb hK hP 1 (wS_a1 _ _ _ _) rfl rfl dX8_placeOf_8 ?_
  refine lv_icmp_ge (tgt := 36) hx hb dX8_placeOf_9 (by decide) (fun c9 => ?_) (fun c9 => ?_)
  · replace h1 := Ok.pos c9 h1
    refine lv_iconst (v := (-1)) hx hb dX8_placeOf_36 rfl ?_
    exact kret_r hx hb hr hlocks hP hD hS h1 dX8_placeOf_37
  · replace h1 := Ok.neg c9 h1
    refine lv_iload_n hx hb dX8_placeOf_12 rfl (lv_at hl 2 rfl) ?_
    refine lv_bipush (v := 20) hx hb dX8_placeOf_13 rfl ?_
    refine lv_icmp_ge (tgt := 36) hx hb dX8_placeOf_15 (by decide) (fun c15 => ?_) (fun c15 => ?_)
    · replace h1 := Ok.pos c15 h1
      refine lv_iconst (v := (-1)) hx hb dX8_placeOf_36 rfl ?_
      exact kret_r hx hb hr hlocks hP hD hS h1 dX8_placeOf_37
    · replace h1 := Ok.neg c15 h1
      refine lv_aload_n hx hb dX8_placeOf_18 rfl (lv_at hl 0 rfl) ?_
      refine k_get (v := .ref (a 4)) (C := RX8) (T := TX8) (N := 13) hx hb hts inX8_placeOf_X8 hown hK hP 0 (wS_a0 _ _ _ _) rfl 4 (by decide) lkX8_placeOf_32 (sFs_4 _ _) dX8_placeOf_19 ?_
      refine lv_iload_n hx hb dX8_placeOf_22 rfl (lv_at hl 2 rfl) ?_
      have g23 := h1.grd1
      replace h1 := h1.grd2
      refine k_iald (k := (ix x2)) hx hb hK hP 5 (wS_a5 _ _ _ _) g23 rfl dX8_placeOf_23 ?_
      refine lv_iload_n hx hb dX8_placeOf_24 rfl (lv_at hl 1 rfl) ?_
      refine lv_icmp_ne (tgt := 30) hx hb dX8_placeOf_25 (by decide) (fun c25 => ?_) (fun c25 => ?_)
      · replace h1 := Ok.neg c25 h1
        refine lv_iinc (v := x2 + 1) (lv' := [(2, .int (x2 + 1)), (0, .ref h), (1, .int x1)]) hx hb dX8_placeOf_30 hl (k := 2) rfl rfl (by decide) rfl (fun ls hl => ?_)
        refine lv_goto (tgt := 2) hx hb dX8_placeOf_33 (by decide) ?_
        exact hk2 x1 (x2 + 1) H locs ls (lv_sub hl [1, 2, 0] rfl) hP hD hS h1
      · replace h1 := Ok.pos c25 h1
        refine lv_iload_n hx hb dX8_placeOf_28 rfl (lv_at hl 2 rfl) ?_
        exact kret_r hx hb hr hlocks hP hD hS h1 dX8_placeOf_29
theorem tX8_placeOf_l2 {p : Program} {l : Launch} {e : Env} {s : State} {m : MethodId} {args : Array Value} {below : List Frame} {meth : Method} {c : Code} {D : va_G} {cy : Nat → ClassId} {A : Nat → Prop} {h : Nat} {a : Nat → Nat} (K : Int32 → Prop) (E : mE D cy RX8 cX8_placeOf 3 (some .int) wsX8_placeOf A p s m args meth c) (u : KS) : ∀ (n9 : Nat) (x1 : Int32) (x2 : Int32) (H : Heap) (locs : List Loc) (ls : Array Slot), lv_has ls 3 [(0, .ref h), (1, .int x1), (2, .int x2)] → va_P D kCl (wS cy h a u) H → va_D A (wS cy h a u) → va_S A s.heap H locs → Ok (lop (fun y z => fX8_placeOf_b2 y z.1 z.2 u) n9 (x1, x2)) K → kW p l e rmX8_placeOf s m args below meth c H locs (va_Qi (fun r (_ : Unit) => K r) (fun _ => kPost D A (wS cy h a u)) A) A 2 ls [] := by
  intro n9
  induction n9 with
  | zero =>
    intro x1 x2 H locs ls hl hP hD hS h1
    exact h1.no
  | succ n9 ih =>
    intro x1 x2 H locs ls hl hP hD hS h1
    exact tX8_placeOf_b2 K E u (lop (fun y z => fX8_placeOf_b2 y z.1 z.2 u) n9) (fun x1 x2 H locs ls hl hP hD hS h1 => ih x1 x2 H locs ls hl hP hD hS h1) x1 x2 H locs ls hl hP hD hS h1
def fX8_placeOf_b0 (x1 : Int32) (u : KS) : Option (Int32) :=
  lop (fun y z => fX8_placeOf_b2 y z.1 z.2 u) LF (x1, 0)
set_option maxHeartbeats 4000000 in
set_option maxRecDepth 100000 in
theorem tX8_placeOf_b0 {p : Program} {l : Launch} {e : Env} {s : State} {m : MethodId} {args : Array Value} {below : List Frame} {meth : Method} {c : Code} {D : va_G} {cy : Nat → ClassId} {A : Nat → Prop} {h : Nat} {a : Nat → Nat} (K : Int32 → Prop) (E : mE D cy RX8 cX8_placeOf 3 (some .int) wsX8_placeOf A p s m args meth c) (u : KS)
     (x1 : Int32) (H : Heap) (locs : List Loc) (ls : Array Slot) (hl : lv_has ls 3 [(0, .ref h), (1, .int x1)]) (hP : va_P D kCl (wS cy h a u) H) (hD : va_D A (wS cy h a u)) (hS : va_S A s.heap H locs) (h1 : Ok (fX8_placeOf_b0 x1 u) K) :
    kW p l e rmX8_placeOf s m args below meth c H locs (va_Qi (fun r (_ : Unit) => K r) (fun _ => kPost D A (wS cy h a u)) A) A 0 ls [] := by
  obtain ⟨hx, hb, hr, hml, hown, hts, hlocks, hK, hA⟩ := id E
  unfold fX8_placeOf_b0 at h1
  refine lv_iconst (v := 0) hx hb dX8_placeOf_0 rfl ?_
  refine lv_istore_n (lv' := [(2, .int 0), (0, .ref h), (1, .int x1)]) hx hb dX8_placeOf_1 rfl hl (by decide) rfl (fun ls hl => ?_)
  exact tX8_placeOf_l2 K E u LF x1 0 H locs ls (lv_sub hl [1, 2, 0] rfl) hP hD hS h1
def fX8_placeOf (p1 : Int32) (u : KS) : Option (Int32) := fX8_placeOf_b0 p1 u
set_option maxHeartbeats 4000000 in
set_option maxRecDepth 100000 in
theorem cX8_placeOfM (l : Launch) (D : va_G) (cy : Nat → ClassId) (h : Nat) (a : Nat → Nat) (sz : Nat) (u : KS) (p1 : Int32) : ∀ (K : Int32 → Prop), Ok (fX8_placeOf p1 u) K → Met l yX8_placeOf wsX8_placeOf rmX8_placeOf (va_Pc [.ref h, .int p1] (kPre D cy sz (wS cy h a u))) (va_Qi (fun r (_ : Unit) => K r) (fun _ => kPost D (va_A (wS cy h a u) sz) (wS cy h a u)) (va_A (wS cy h a u) sz)) 0 0 (va_A (wS cy h a u) sz) := by
  intro K h1
  refine Met.ofW (cc := cX8_placeOf) (maxL := 3) (ret := (some .int)) (by decide) rfl ?_
  intro p e s m args below meth c s₁ B hml hv
  obtain ⟨rfl, hsz, hP, hK, hD0⟩ := hv
  subst hsz
  have E : mE D cy RX8 cX8_placeOf 3 (some .int) wsX8_placeOf (va_A (wS cy h a u) s.heap.size) p s m _ meth c := ⟨B.exec, B.bytes, B.returns, hml, findClass_of_methodNamed B.named, atoms_spec (ws := wsX8_placeOf) B.pre, B.notSynchronized, hK, fun q h => Or.inr h⟩
  have hl := lv_entry ([.ref h, .int p1]) (n := 3) (Nat.le_of_ble_eq_true rfl)
  rw [lg_entry_eq]
  generalize (lg_sl ([.ref h, .int p1]) ++ List.replicate (3 - (lg_sl ([.ref h, .int p1])).length) Slot.unset).toArray = ls at hl ⊢
  exact tX8_placeOf_b0 K E u p1 _ _ _ hl hP hD0.self va_S.rf h1
-- X8_suitingLane
theorem inX8_suitingLane_X8 : ∀ w ∈ u_ws RX8 TX8 13, w ∈ wsX8_suitingLane := k_lays 4 rfl
theorem lkX8_suitingLane_41 : Cond.fieldLink RX8 41 "FerryRamp$State" "weights" "[I" ∈ wsX8_suitingLane := List.mem_of_getElem? (i := 1) rfl
theorem lkX8_suitingLane_19 : Cond.fieldLink RX8 19 "FerryRamp$State" "settings" "[I" ∈ wsX8_suitingLane := List.mem_of_getElem? (i := 2) rfl
theorem lkX8_suitingLane_44 : Cond.fieldLink RX8 44 "FerryRamp$State" "taken" "[I" ∈ wsX8_suitingLane := List.mem_of_getElem? (i := 3) rfl
abbrev rmX8_suitingLane : Room := { frames := 0, cells := 0, slots := 0, locals := 0 }
def fX8_suitingLane_b139 (k5 : Int32 × Int32 × Int32 × Int32 → Option (Int32)) (x1 : Int32) (x2 : Int32) (x3 : Int32) (x4 : Int32) (u : KS) : Option (Int32) :=
  k5 (x1, x2, x3, x4 + 1)
set_option maxHeartbeats 4000000 in
set_option maxRecDepth 100000 in
theorem tX8_suitingLane_b139 {p : Program} {l : Launch} {e : Env} {s : State} {m : MethodId} {args : Array Value} {below : List Frame} {meth : Method} {c : Code} {D : va_G} {cy : Nat → ClassId} {A : Nat → Prop} {h : Nat} {a : Nat → Nat} (K : Int32 → Prop) (E : mE D cy RX8 cX8_suitingLane 9 (some .int) wsX8_suitingLane A p s m args meth c) (u : KS)
    (k5 : Int32 × Int32 × Int32 × Int32 → Option (Int32)) (hk5 : ∀ (x1 : Int32) (x2 : Int32) (x3 : Int32) (x4 : Int32) (H : Heap) (locs : List Loc) (ls : Array Slot), lv_has ls 9 [(0, .ref h), (1, .int x1), (2, .int x2), (3, .int x3), (4, .int x4)] → va_P D kCl (wS cy h a u) H → va_D A (wS cy h a u) → va_S A s.heap H locs → Ok (k5 (x1, x2, x3, x4)) K → kW p l e rmX8_suitingLane s m args below meth c H locs (va_Qi (fun r (_ : Unit) => K r) (fun _ => kPost D A (wS cy h a u)) A) A 5 ls [])
     (x1 : Int32) (x2 : Int32) (x3 : Int32) (x4 : Int32) (H : Heap) (locs : List Loc) (ls : Array Slot) (hl : lv_has ls 9 [(0, .ref h), (1, .int x1), (2, .int x2), (3, .int x3), (4, .int x4)]) (hP : va_P D kCl (wS cy h a u) H) (hD : va_D A (wS cy h a u)) (hS : va_S A s.heap H locs) (h1 : Ok (fX8_suitingLane_b139 k5 x1 x2 x3 x4 u) K) :
    kW p l e rmX8_suitingLane s m args below meth c H locs (va_Qi (fun r (_ : Unit) => K r) (fun _ => kPost D A (wS cy h a u)) A) A 139 ls [] := by
  obtain ⟨hx, hb, hr, hml, hown, hts, hlocks, hK, hA⟩ := id E
  unfold fX8_suitingLane_b139 at h1
  refine lv_iinc (v := x4 + 1) (lv' := [(4, .int (x4 + 1)), (0, .ref h), (1, .int x1), (2, .int x2), (3, .int x3)]) hx hb dX8_suitingLane_139 hl (k := 4) rfl rfl (by decide) rfl (fun ls hl => ?_)
  refine lv_goto (tgt := 5) hx hb dX8_suitingLane_142 (by decide) ?_
  exact hk5 x1 x2 x3 (x4 + 1) H locs ls (lv_sub hl [1, 2, 3, 4, 0] rfl) hP hD hS h1
def fX8_suitingLane_b136 (k5 : Int32 × Int32 × Int32 × Int32 → Option (Int32)) (x1 : Int32) (x2 : Int32) (x4 : Int32) (u : KS) : Option (Int32) :=
  fX8_suitingLane_b139 k5 x1 x2 x4 x4 u
set_option maxHeartbeats 4000000 in
set_option maxRecDepth 100000 in
theorem tX8_suitingLane_b136 {p : Program} {l : Launch} {e : Env} {s : State} {m : MethodId} {args : Array Value} {below : List Frame} {meth : Method} {c : Code} {D : va_G} {cy : Nat → ClassId} {A : Nat → Prop} {h : Nat} {a : Nat → Nat} (K : Int32 → Prop) (E : mE D cy RX8 cX8_suitingLane 9 (some .int) wsX8_suitingLane A p s m args meth c) (u : KS)
    (k5 : Int32 × Int32 × Int32 × Int32 → Option (Int32)) (hk5 : ∀ (x1 : Int32) (x2 : Int32) (x3 : Int32) (x4 : Int32) (H : Heap) (locs : List Loc) (ls : Array Slot), lv_has ls 9 [(0, .ref h), (1, .int x1), (2, .int x2), (3, .int x3), (4, .int x4)] → va_P D kCl (wS cy h a u) H → va_D A (wS cy h a u) → va_S A s.heap H locs → Ok (k5 (x1, x2, x3, x4)) K → kW p l e rmX8_suitingLane s m args below meth c H locs (va_Qi (fun r (_ : Unit) => K r) (fun _ => kPost D A (wS cy h a u)) A) A 5 ls [])
     (x1 : Int32) (x2 : Int32) (x4 : Int32) (H : Heap) (locs : List Loc) (ls : Array Slot) (hl : lv_has ls 9 [(0, .ref h), (1, .int x1), (2, .int x2), (4, .int x4)]) (hP : va_P D kCl (wS cy h a u) H) (hD : va_D A (wS cy h a u)) (hS : va_S A s.heap H locs) (h1 : Ok (fX8_suitingLane_b136 k5 x1 x2 x4 u) K) :
    kW p l e rmX8_suitingLane s m args below meth c H locs (va_Qi (fun r (_ : Unit) => K r) (fun _ => kPost D A (wS cy h a u)) A) A 136 ls [] := by
  obtain ⟨hx, hb, hr, hml, hown, hts, hlocks, hK, hA⟩ := id E
  unfold fX8_suitingLane_b136 at h1
  refine lv_iload hx hb dX8_suitingLane_136 (lv_at hl 3 rfl) ?_
  refine lv_istore_n (lv' := [(3, .int x4), (0, .ref h), (1, .int x1), (2, .int x2), (4, .int x4)]) hx hb dX8_suitingLane_138 rfl hl (by decide) rfl (fun ls hl => ?_)
  exact tX8_suitingLane_b139 K E u k5 hk5 x1 x2 x4 x4 H locs ls (lv_sub hl [1, 2, 3, 0, 4] rfl) hP hD hS h1
def fX8_suitingLane_b108 (k5 : Int32 × Int32 × Int32 × Int32 → Option (Int32)) (x1 : Int32) (x2 : Int32) (x3 : Int32) (x4 : Int32) (s0 : Int32) (u : KS) : Option (Int32) :=
  (if s0 = 0 then fX8_suitingLane_b139 k5 x1 x2 x3 x4 u else (if x3 = (-1) then fX8_suitingLane_b136 k5 x1 x2 x4 u else grd (inb x4 3) (grd (inb x3 3) ((if (sW u (ix x3)) ≤ (sW u (ix x4)) then fX8_suitingLane_b139 k5 x1 x2 x3 x4 u else fX8_suitingLane_b136 k5 x1 x2 x4 u)))))
set_option maxHeartbeats 4000000 in
set_option maxRecDepth 100000 in
theorem tX8_suitingLane_b108 {p : Program} {l : Launch} {e : Env} {s : State} {m : MethodId} {args : Array Value} {below : List Frame} {meth : Method} {c : Code} {D : va_G} {cy : Nat → ClassId} {A : Nat → Prop} {h : Nat} {a : Nat → Nat} (K : Int32 → Prop) (E : mE D cy RX8 cX8_suitingLane 9 (some .int) wsX8_suitingLane A p s m args meth c) (u : KS)
    (k5 : Int32 × Int32 × Int32 × Int32 → Option (Int32)) (hk5 : ∀ (x1 : Int32) (x2 : Int32) (x3 : Int32) (x4 : Int32) (H : Heap) (locs : List Loc) (ls : Array Slot), lv_has ls 9 [(0, .ref h), (1, .int x1), (2, .int x2), (3, .int x3), (4, .int x4)] → va_P D kCl (wS cy h a u) H → va_D A (wS cy h a u) → va_S A s.heap H locs → Ok (k5 (x1, x2, x3, x4)) K → kW p l e rmX8_suitingLane s m args below meth c H locs (va_Qi (fun r (_ : Unit) => K r) (fun _ => kPost D A (wS cy h a u)) A) A 5 ls [])
     (x1 : Int32) (x2 : Int32) (x3 : Int32) (x4 : Int32) (s0 : Int32) (H : Heap) (locs : List Loc) (ls : Array Slot) (hl : lv_has ls 9 [(0, .ref h), (1, .int x1), (2, .int x2), (3, .int x3), (4, .int x4)]) (hP : va_P D kCl (wS cy h a u) H) (hD : va_D A (wS cy h a u)) (hS : va_S A s.heap H locs) (h1 : Ok (fX8_suitingLane_b108 k5 x1 x2 x3 x4 s0 u) K) :
    kW p l e rmX8_suitingLane s m args below meth c H locs (va_Qi (fun r (_ : Unit) => K r) (fun _ => kPost D A (wS cy h a u)) A) A 108 ls [.int s0] := by
  obtain ⟨hx, hb, hr, hml, hown, hts, hlocks, hK, hA⟩ := id E
  unfold fX8_suitingLane_b108 at h1
  refine lv_istore (lv' := [(8, .int s0), (0, .ref h), (1, .int x1), (2, .int x2), (3, .int x3), (4, .int x4)]) hx hb dX8_suitingLane_108 hl (by decide) rfl (fun ls hl => ?_)
  refine lv_iload hx hb dX8_suitingLane_110 (lv_at hl 0 rfl) ?_
  refine lv_if_eq (tgt := 139) hx hb dX8_suitingLane_112 (by decide) (fun c112 => ?_) (fun c112 => ?_)
  · replace h1 := Ok.pos c112 h1
    exact tX8_suitingLane_b139 K E u k5 hk5 x1 x2 x3 x4 H locs ls (lv_sub hl [1, 2, 3, 4, 5] rfl) hP hD hS h1
  · replace h1 := Ok.neg c112 h1
    refine lv_iload_n hx hb dX8_suitingLane_115 rfl (lv_at hl 4 rfl) ?_
    refine lv_iconst (v := (-1)) hx hb dX8_suitingLane_116 rfl ?_
    refine lv_icmp_eq (tgt := 136) hx hb dX8_suitingLane_117 (by decide) (fun c117 => ?_) (fun c117 => ?_)
    · replace h1 := Ok.pos c117 h1
      exact tX8_suitingLane_b136 K E u k5 hk5 x1 x2 x4 H locs ls (lv_sub hl [1, 2, 3, 5] rfl) hP hD hS h1
    · replace h1 := Ok.neg c117 h1
      refine lv_aload_n hx hb dX8_suitingLane_120 rfl (lv_at hl 1 rfl) ?_
      refine k_get (v := .ref (a 7)) (C := RX8) (T := TX8) (N := 13) hx hb hts inX8_suitingLane_X8 hown hK hP 0 (wS_a0 _ _ _ _) rfl 7 (by decide) lkX8_suitingLane_41 (sFs_7 _ _) dX8_suitingLane_121 ?_
      refine lv_iload hx hb dX8_suitingLane_124 (lv_at hl 5 rfl) ?_
      have g126 := h1.grd1
      replace h1 := h1.grd2
      refine k_iald (k := (ix x4)) hx hb hK hP 8 (wS_a8 _ _ _ _) g126 rfl dX8_suitingLane_126 ?_
      refine lv_aload_n hx hb dX8_suitingLane_127 rfl (lv_at hl 1 rfl) ?_
      refine k_get (v := .ref (a 7)) (C := RX8) (T := TX8) (N := 13) hx hb hts inX8_suitingLane_X8 hown hK hP 0 (wS_a0 _ _ _ _) rfl 7 (by decide) lkX8_suitingLane_41 (sFs_7 _ _) dX8_suitingLane_128 ?_
      refine lv_iload_n hx hb dX8_suitingLane_131 rfl (lv_at hl 4 rfl) ?_
      have g132 := h1.grd1
      replace h1 := h1.grd2
      refine k_iald (k := (ix x3)) hx hb hK hP 8 (wS_a8 _ _ _ _) g132 rfl dX8_suitingLane_132 ?_
      refine lv_icmp_ge (tgt := 139) hx hb dX8_suitingLane_133 (by decide) (fun c133 => ?_) (fun c133 => ?_)
      · replace h1 := Ok.pos c133 h1
        exact tX8_suitingLane_b139 K E u k5 hk5 x1 x2 x3 x4 H locs ls (lv_sub hl [1, 2, 3, 4, 5] rfl) hP hD hS h1
      · replace h1 := Ok.neg c133 h1
        exact tX8_suitingLane_b136 K E u k5 hk5 x1 x2 x4 H locs ls (lv_sub hl [1, 2, 3, 5] rfl) hP hD hS h1
def fX8_suitingLane_b107 (k5 : Int32 × Int32 × Int32 × Int32 → Option (Int32)) (x1 : Int32) (x2 : Int32) (x3 : Int32) (x4 : Int32) (u : KS) : Option (Int32) :=
  fX8_suitingLane_b108 k5 x1 x2 x3 x4 0 u
set_option maxHeartbeats 4000000 in
set_option maxRecDepth 100000 in
theorem tX8_suitingLane_b107 {p : Program} {l : Launch} {e : Env} {s : State} {m : MethodId} {args : Array Value} {below : List Frame} {meth : Method} {c : Code} {D : va_G} {cy : Nat → ClassId} {A : Nat → Prop} {h : Nat} {a : Nat → Nat} (K : Int32 → Prop) (E : mE D cy RX8 cX8_suitingLane 9 (some .int) wsX8_suitingLane A p s m args meth c) (u : KS)
    (k5 : Int32 × Int32 × Int32 × Int32 → Option (Int32)) (hk5 : ∀ (x1 : Int32) (x2 : Int32) (x3 : Int32) (x4 : Int32) (H : Heap) (locs : List Loc) (ls : Array Slot), lv_has ls 9 [(0, .ref h), (1, .int x1), (2, .int x2), (3, .int x3), (4, .int x4)] → va_P D kCl (wS cy h a u) H → va_D A (wS cy h a u) → va_S A s.heap H locs → Ok (k5 (x1, x2, x3, x4)) K → kW p l e rmX8_suitingLane s m args below meth c H locs (va_Qi (fun r (_ : Unit) => K r) (fun _ => kPost D A (wS cy h a u)) A) A 5 ls [])
     (x1 : Int32) (x2 : Int32) (x3 : Int32) (x4 : Int32) (H : Heap) (locs : List Loc) (ls : Array Slot) (hl : lv_has ls 9 [(0, .ref h), (1, .int x1), (2, .int x2), (3, .int x3), (4, .int x4)]) (hP : va_P D kCl (wS cy h a u) H) (hD : va_D A (wS cy h a u)) (hS : va_S A s.heap H locs) (h1 : Ok (fX8_suitingLane_b107 k5 x1 x2 x3 x4 u) K) :
    kW p l e rmX8_suitingLane s m args below meth c H locs (va_Qi (fun r (_ : Unit) => K r) (fun _ => kPost D A (wS cy h a u)) A) A 107 ls [] := by
  obtain ⟨hx, hb, hr, hml, hown, hts, hlocks, hK, hA⟩ := id E
  unfold fX8_suitingLane_b107 at h1
  refine lv_iconst (v := 0) hx hb dX8_suitingLane_107 rfl ?_
  exact tX8_suitingLane_b108 K E u k5 hk5 x1 x2 x3 x4 0 H locs ls (lv_sub hl [0, 1, 2, 3, 4] rfl) hP hD hS h1
def fX8_suitingLane_b70 (k5 : Int32 × Int32 × Int32 × Int32 → Option (Int32)) (x1 : Int32) (x2 : Int32) (x3 : Int32) (x4 : Int32) (s0 : Int32) (u : KS) : Option (Int32) :=
  grd (inb x4 3) ((if ((sT u 6) - (sN u (ix x4))) < x1 then fX8_suitingLane_b107 k5 x1 x2 x3 x4 u else (if (sT u 8) < s0 then fX8_suitingLane_b107 k5 x1 x2 x3 x4 u else fX8_suitingLane_b108 k5 x1 x2 x3 x4 1 u)))
set_option maxHeartbeats 4000000 in
set_option maxRecDepth 100000 in
theorem tX8_suitingLane_b70 {p : Program} {l : Launch} {e : Env} {s : State} {m : MethodId} {args : Array Value} {below : List Frame} {meth : Method} {c : Code} {D : va_G} {cy : Nat → ClassId} {A : Nat → Prop} {h : Nat} {a : Nat → Nat} (K : Int32 → Prop) (E : mE D cy RX8 cX8_suitingLane 9 (some .int) wsX8_suitingLane A p s m args meth c) (u : KS)
    (k5 : Int32 × Int32 × Int32 × Int32 → Option (Int32)) (hk5 : ∀ (x1 : Int32) (x2 : Int32) (x3 : Int32) (x4 : Int32) (H : Heap) (locs : List Loc) (ls : Array Slot), lv_has ls 9 [(0, .ref h), (1, .int x1), (2, .int x2), (3, .int x3), (4, .int x4)] → va_P D kCl (wS cy h a u) H → va_D A (wS cy h a u) → va_S A s.heap H locs → Ok (k5 (x1, x2, x3, x4)) K → kW p l e rmX8_suitingLane s m args below meth c H locs (va_Qi (fun r (_ : Unit) => K r) (fun _ => kPost D A (wS cy h a u)) A) A 5 ls [])
     (x1 : Int32) (x2 : Int32) (x3 : Int32) (x4 : Int32) (s0 : Int32) (H : Heap) (locs : List Loc) (ls : Array Slot) (hl : lv_has ls 9 [(0, .ref h), (1, .int x1), (2, .int x2), (3, .int x3), (4, .int x4)]) (hP : va_P D kCl (wS cy h a u) H) (hD : va_D A (wS cy h a u)) (hS : va_S A s.heap H locs) (h1 : Ok (fX8_suitingLane_b70 k5 x1 x2 x3 x4 s0 u) K) :
    kW p l e rmX8_suitingLane s m args below meth c H locs (va_Qi (fun r (_ : Unit) => K r) (fun _ => kPost D A (wS cy h a u)) A) A 70 ls [.int s0] := by
  obtain ⟨hx, hb, hr, hml, hown, hts, hlocks, hK, hA⟩ := id E
  unfold fX8_suitingLane_b70 at h1
  refine lv_istore (lv' := [(7, .int s0), (0, .ref h), (1, .int x1), (2, .int x2), (3, .int x3), (4, .int x4)]) hx hb dX8_suitingLane_70 hl (by decide) rfl (fun ls hl => ?_)
  refine lv_aload_n hx hb dX8_suitingLane_72 rfl (lv_at hl 1 rfl) ?_
  refine k_get (v := .ref (a 1)) (C := RX8) (T := TX8) (N := 13) hx hb hts inX8_suitingLane_X8 hown hK hP 0 (wS_a0 _ _ _ _) rfl 1 (by decide) lkX8_suitingLane_19 (sFs_1 _ _) dX8_suitingLane_73 ?_
  refine lv_bipush (v := 6) hx hb dX8_suitingLane_76 rfl ?_
  refine k_iald (k := 6) hx hb hK hP 2 (wS_a2 _ _ _ _) rfl rfl dX8_suitingLane_78 ?_
  refine lv_aload_n hx hb dX8_suitingLane_79 rfl (lv_at hl 1 rfl) ?_
  refine k_get (v := .ref (a 8)) (C := RX8) (T := TX8) (N := 13) hx hb hts inX8_suitingLane_X8 hown hK hP 0 (wS_a0 _ _ _ _) rfl 8 (by decide) lkX8_suitingLane_44 (sFs_8 _ _) dX8_suitingLane_80 ?_
  refine lv_iload hx hb dX8_suitingLane_83 (lv_at hl 5 rfl) ?_
  have g85 := h1.grd1
  replace h1 := h1.grd2
  refine k_iald (k := (ix x4)) hx hb hK hP 9 (wS_a9 _ _ _ _) g85 rfl dX8_suitingLane_85 ?_
  refine lv_isub hx hb dX8_suitingLane_86 ?_
  refine lv_iload_n hx hb dX8_suitingLane_87 rfl (lv_at hl 2 rfl) ?_
  refine lv_icmp_lt (tgt := 107) hx hb dX8_suitingLane_88 (by decide) (fun c88 => ?_) (fun c88 => ?_)
  · replace h1 := Ok.pos c88 h1
    exact tX8_suitingLane_b107 K E u k5 hk5 x1 x2 x3 x4 H locs ls (lv_sub hl [1, 2, 3, 4, 5] rfl) hP hD hS h1
  · replace h1 := Ok.neg c88 h1
    refine lv_iload hx hb dX8_suitingLane_91 (lv_at hl 0 rfl) ?_
    refine lv_aload_n hx hb dX8_suitingLane_93 rfl (lv_at hl 1 rfl) ?_
    refine k_get (v := .ref (a 1)) (C := RX8) (T := TX8) (N := 13) hx hb hts inX8_suitingLane_X8 hown hK hP 0 (wS_a0 _ _ _ _) rfl 1 (by decide) lkX8_suitingLane_19 (sFs_1 _ _) dX8_suitingLane_94 ?_
    refine lv_bipush (v := 8) hx hb dX8_suitingLane_97 rfl ?_
    refine k_iald (k := 8) hx hb hK hP 2 (wS_a2 _ _ _ _) rfl rfl dX8_suitingLane_99 ?_
    refine lv_icmp_gt (tgt := 107) hx hb dX8_suitingLane_100 (by decide) (fun c100 => ?_) (fun c100 => ?_)
    · replace h1 := Ok.pos c100 h1
      exact tX8_suitingLane_b107 K E u k5 hk5 x1 x2 x3 x4 H locs ls (lv_sub hl [1, 2, 3, 4, 5] rfl) hP hD hS h1
    · replace h1 := Ok.neg c100 h1
      refine lv_iconst (v := 1) hx hb dX8_suitingLane_103 rfl ?_
      refine lv_goto (tgt := 108) hx hb dX8_suitingLane_104 (by decide) ?_
      exact tX8_suitingLane_b108 K E u k5 hk5 x1 x2 x3 x4 1 H locs ls (lv_sub hl [1, 2, 3, 4, 5] rfl) hP hD hS h1
def fX8_suitingLane_b47 (k5 : Int32 × Int32 × Int32 × Int32 → Option (Int32)) (x1 : Int32) (x2 : Int32) (x3 : Int32) (x4 : Int32) (x5 : Int32) (s0 : Int32) (s1 : Int32) (u : KS) : Option (Int32) :=
  (if x5 ≤ (s0 + s1) then fX8_suitingLane_b70 k5 x1 x2 x3 x4 ((s0 + s1) - x5) u else fX8_suitingLane_b70 k5 x1 x2 x3 x4 (x5 - (s0 + s1)) u)
set_option maxHeartbeats 4000000 in
set_option maxRecDepth 100000 in
theorem tX8_suitingLane_b47 {p : Program} {l : Launch} {e : Env} {s : State} {m : MethodId} {args : Array Value} {below : List Frame} {meth : Method} {c : Code} {D : va_G} {cy : Nat → ClassId} {A : Nat → Prop} {h : Nat} {a : Nat → Nat} (K : Int32 → Prop) (E : mE D cy RX8 cX8_suitingLane 9 (some .int) wsX8_suitingLane A p s m args meth c) (u : KS)
    (k5 : Int32 × Int32 × Int32 × Int32 → Option (Int32)) (hk5 : ∀ (x1 : Int32) (x2 : Int32) (x3 : Int32) (x4 : Int32) (H : Heap) (locs : List Loc) (ls : Array Slot), lv_has ls 9 [(0, .ref h), (1, .int x1), (2, .int x2), (3, .int x3), (4, .int x4)] → va_P D kCl (wS cy h a u) H → va_D A (wS cy h a u) → va_S A s.heap H locs → Ok (k5 (x1, x2, x3, x4)) K → kW p l e rmX8_suitingLane s m args below meth c H locs (va_Qi (fun r (_ : Unit) => K r) (fun _ => kPost D A (wS cy h a u)) A) A 5 ls [])
     (x1 : Int32) (x2 : Int32) (x3 : Int32) (x4 : Int32) (x5 : Int32) (s0 : Int32) (s1 : Int32) (H : Heap) (locs : List Loc) (ls : Array Slot) (hl : lv_has ls 9 [(0, .ref h), (1, .int x1), (2, .int x2), (3, .int x3), (4, .int x4), (5, .int x5)]) (hP : va_P D kCl (wS cy h a u) H) (hD : va_D A (wS cy h a u)) (hS : va_S A s.heap H locs) (h1 : Ok (fX8_suitingLane_b47 k5 x1 x2 x3 x4 x5 s0 s1 u) K) :
    kW p l e rmX8_suitingLane s m args below meth c H locs (va_Qi (fun r (_ : Unit) => K r) (fun _ => kPost D A (wS cy h a u)) A) A 47 ls [.int s1, .int s0] := by
  obtain ⟨hx, hb, hr, hml, hown, hts, hlocks, hK, hA⟩ := id E
  unfold fX8_suitingLane_b47 at h1
  refine lv_iadd hx hb dX8_suitingLane_47 ?_
  refine lv_istore (lv' := [(6, .int (s0 + s1)), (0, .ref h), (1, .int x1), (2, .int x2), (3, .int x3), (4, .int x4), (5, .int x5)]) hx hb dX8_suitingLane_48 hl (by decide) rfl (fun ls hl => ?_)
  refine lv_iload hx hb dX8_suitingLane_50 (lv_at hl 6 rfl) ?_
  refine lv_iload hx hb dX8_suitingLane_52 (lv_at hl 0 rfl) ?_
  refine lv_icmp_le (tgt := 65) hx hb dX8_suitingLane_54 (by decide) (fun c54 => ?_) (fun c54 => ?_)
  · replace h1 := Ok.pos c54 h1
    refine lv_iload hx hb dX8_suitingLane_65 (lv_at hl 0 rfl) ?_
    refine lv_iload hx hb dX8_suitingLane_67 (lv_at hl 6 rfl) ?_
    refine lv_isub hx hb dX8_suitingLane_69 ?_
    exact tX8_suitingLane_b70 K E u k5 hk5 x1 x2 x3 x4 ((s0 + s1) - x5) H locs ls (lv_sub hl [1, 2, 3, 4, 5] rfl) hP hD hS h1
  · replace h1 := Ok.neg c54 h1
    refine lv_iload hx hb dX8_suitingLane_57 (lv_at hl 6 rfl) ?_
    refine lv_iload hx hb dX8_suitingLane_59 (lv_at hl 0 rfl) ?_
    refine lv_isub hx hb dX8_suitingLane_61 ?_
    refine lv_goto (tgt := 70) hx hb dX8_suitingLane_62 (by decide) ?_
    exact tX8_suitingLane_b70 K E u k5 hk5 x1 x2 x3 x4 (x5 - (s0 + s1)) H locs ls (lv_sub hl [1, 2, 3, 4, 5] rfl) hP hD hS h1
def fX8_suitingLane_b27 (k5 : Int32 × Int32 × Int32 × Int32 → Option (Int32)) (x1 : Int32) (x2 : Int32) (x3 : Int32) (x4 : Int32) (s0 : Int32) (s1 : Int32) (u : KS) : Option (Int32) :=
  (if x4 = 2 then fX8_suitingLane_b47 k5 x1 x2 x3 x4 (s0 + s1) (sW u 2) x2 u else fX8_suitingLane_b47 k5 x1 x2 x3 x4 (s0 + s1) (sW u 2) 0 u)
set_option maxHeartbeats 4000000 in
set_option maxRecDepth 100000 in
theorem tX8_suitingLane_b27 {p : Program} {l : Launch} {e : Env} {s : State} {m : MethodId} {args : Array Value} {below : List Frame} {meth : Method} {c : Code} {D : va_G} {cy : Nat → ClassId} {A : Nat → Prop} {h : Nat} {a : Nat → Nat} (K : Int32 → Prop) (E : mE D cy RX8 cX8_suitingLane 9 (some .int) wsX8_suitingLane A p s m args meth c) (u : KS)
    (k5 : Int32 × Int32 × Int32 × Int32 → Option (Int32)) (hk5 : ∀ (x1 : Int32) (x2 : Int32) (x3 : Int32) (x4 : Int32) (H : Heap) (locs : List Loc) (ls : Array Slot), lv_has ls 9 [(0, .ref h), (1, .int x1), (2, .int x2), (3, .int x3), (4, .int x4)] → va_P D kCl (wS cy h a u) H → va_D A (wS cy h a u) → va_S A s.heap H locs → Ok (k5 (x1, x2, x3, x4)) K → kW p l e rmX8_suitingLane s m args below meth c H locs (va_Qi (fun r (_ : Unit) => K r) (fun _ => kPost D A (wS cy h a u)) A) A 5 ls [])
     (x1 : Int32) (x2 : Int32) (x3 : Int32) (x4 : Int32) (s0 : Int32) (s1 : Int32) (H : Heap) (locs : List Loc) (ls : Array Slot) (hl : lv_has ls 9 [(0, .ref h), (1, .int x1), (2, .int x2), (3, .int x3), (4, .int x4)]) (hP : va_P D kCl (wS cy h a u) H) (hD : va_D A (wS cy h a u)) (hS : va_S A s.heap H locs) (h1 : Ok (fX8_suitingLane_b27 k5 x1 x2 x3 x4 s0 s1 u) K) :
    kW p l e rmX8_suitingLane s m args below meth c H locs (va_Qi (fun r (_ : Unit) => K r) (fun _ => kPost D A (wS cy h a u)) A) A 27 ls [.int s1, .int s0] := by
  obtain ⟨hx, hb, hr, hml, hown, hts, hlocks, hK, hA⟩ := id E
  unfold fX8_suitingLane_b27 at h1
  refine lv_iadd hx hb dX8_suitingLane_27 ?_
  refine lv_istore (lv' := [(5, .int (s0 + s1)), (0, .ref h), (1, .int x1), (2, .int x2), (3, .int x3), (4, .int x4)]) hx hb dX8_suitingLane_28 hl (by decide) rfl (fun ls hl => ?_)
  refine lv_aload_n hx hb dX8_suitingLane_30 rfl (lv_at hl 1 rfl) ?_
  refine k_get (v := .ref (a 7)) (C := RX8) (T := TX8) (N := 13) hx hb hts inX8_suitingLane_X8 hown hK hP 0 (wS_a0 _ _ _ _) rfl 7 (by decide) lkX8_suitingLane_41 (sFs_7 _ _) dX8_suitingLane_31 ?_
  refine lv_iconst (v := 2) hx hb dX8_suitingLane_34 rfl ?_
  refine k_iald (k := 2) hx hb hK hP 8 (wS_a8 _ _ _ _) rfl rfl dX8_suitingLane_35 ?_
  refine lv_iload hx hb dX8_suitingLane_36 (lv_at hl 5 rfl) ?_
  refine lv_iconst (v := 2) hx hb dX8_suitingLane_38 rfl ?_
  refine lv_icmp_ne (tgt := 46) hx hb dX8_suitingLane_39 (by decide) (fun c39 => ?_) (fun c39 => ?_)
  · replace h1 := Ok.neg c39 h1
    refine lv_iconst (v := 0) hx hb dX8_suitingLane_46 rfl ?_
    exact tX8_suitingLane_b47 K E u k5 hk5 x1 x2 x3 x4 (s0 + s1) (sW u 2) 0 H locs ls (lv_sub hl [1, 2, 3, 4, 5, 0] rfl) hP hD hS h1
  · replace h1 := Ok.pos c39 h1
    refine lv_iload_n hx hb dX8_suitingLane_42 rfl (lv_at hl 3 rfl) ?_
    refine lv_goto (tgt := 47) hx hb dX8_suitingLane_43 (by decide) ?_
    exact tX8_suitingLane_b47 K E u k5 hk5 x1 x2 x3 x4 (s0 + s1) (sW u 2) x2 H locs ls (lv_sub hl [1, 2, 3, 4, 5, 0] rfl) hP hD hS h1
def fX8_suitingLane_b5 (k5 : Int32 × Int32 × Int32 × Int32 → Option (Int32)) (x1 : Int32) (x2 : Int32) (x3 : Int32) (x4 : Int32) (u : KS) : Option (Int32) :=
  (if 3 ≤ x4 then some x3 else (if x4 = 0 then fX8_suitingLane_b27 k5 x1 x2 x3 x4 (sW u 0) x2 u else fX8_suitingLane_b27 k5 x1 x2 x3 x4 (sW u 0) 0 u))
set_option maxHeartbeats 4000000 in
set_option maxRecDepth 100000 in
theorem tX8_suitingLane_b5 {p : Program} {l : Launch} {e : Env} {s : State} {m : MethodId} {args : Array Value} {below : List Frame} {meth : Method} {c : Code} {D : va_G} {cy : Nat → ClassId} {A : Nat → Prop} {h : Nat} {a : Nat → Nat} (K : Int32 → Prop) (E : mE D cy RX8 cX8_suitingLane 9 (some .int) wsX8_suitingLane A p s m args meth c) (u : KS)
    (k5 : Int32 × Int32 × Int32 × Int32 → Option (Int32)) (hk5 : ∀ (x1 : Int32) (x2 : Int32) (x3 : Int32) (x4 : Int32) (H : Heap) (locs : List Loc) (ls : Array Slot), lv_has ls 9 [(0, .ref h), (1, .int x1), (2, .int x2), (3, .int x3), (4, .int x4)] → va_P D kCl (wS cy h a u) H → va_D A (wS cy h a u) → va_S A s.heap H locs → Ok (k5 (x1, x2, x3, x4)) K → kW p l e rmX8_suitingLane s m args below meth c H locs (va_Qi (fun r (_ : Unit) => K r) (fun _ => kPost D A (wS cy h a u)) A) A 5 ls [])
     (x1 : Int32) (x2 : Int32) (x3 : Int32) (x4 : Int32) (H : Heap) (locs : List Loc) (ls : Array Slot) (hl : lv_has ls 9 [(0, .ref h), (1, .int x1), (2, .int x2), (3, .int x3), (4, .int x4)]) (hP : va_P D kCl (wS cy h a u) H) (hD : va_D A (wS cy h a u)) (hS : va_S A s.heap H locs) (h1 : Ok (fX8_suitingLane_b5 k5 x1 x2 x3 x4 u) K) :
    kW p l e rmX8_suitingLane s m args below meth c H locs (va_Qi (fun r (_ : Unit) => K r) (fun _ => kPost D A (wS cy h a u)) A) A 5 ls [] := by
  obtain ⟨hx, hb, hr, hml, hown, hts, hlocks, hK, hA⟩ := id E
  unfold fX8_suitingLane_b5 at h1
  refine lv_iload hx hb dX8_suitingLane_5 (lv_at hl 4 rfl) ?_
  refine lv_iconst (v := 3) hx hb dX8_suitingLane_7 rfl ?_
  refine lv_icmp_ge (tgt := 145) hx hb dX8_suitingLane_8 (by decide) (fun c8 => ?_) (fun c8 => ?_)
  · replace h1 := Ok.pos c8 h1
    refine lv_iload_n hx hb dX8_suitingLane_145 rfl (lv_at hl 3 rfl) ?_
    exact kret_r hx hb hr hlocks hP hD hS h1 dX8_suitingLane_146
  · replace h1 := Ok.neg c8 h1
    refine lv_aload_n hx hb dX8_suitingLane_11 rfl (lv_at hl 0 rfl) ?_
    refine k_get (v := .ref (a 7)) (C := RX8) (T := TX8) (N := 13) hx hb hts inX8_suitingLane_X8 hown hK hP 0 (wS_a0 _ _ _ _) rfl 7 (by decide) lkX8_suitingLane_41 (sFs_7 _ _) dX8_suitingLane_12 ?_
    refine lv_iconst (v := 0) hx hb dX8_suitingLane_15 rfl ?_
    refine k_iald (k := 0) hx hb hK hP 8 (wS_a8 _ _ _ _) rfl rfl dX8_suitingLane_16 ?_
    refine lv_iload hx hb dX8_suitingLane_17 (lv_at hl 4 rfl) ?_
    refine lv_if_ne (tgt := 26) hx hb dX8_suitingLane_19 (by decide) (fun c19 => ?_) (fun c19 => ?_)
    · replace h1 := Ok.neg c19 h1
      refine lv_iconst (v := 0) hx hb dX8_suitingLane_26 rfl ?_
      exact tX8_suitingLane_b27 K E u k5 hk5 x1 x2 x3 x4 (sW u 0) 0 H locs ls (lv_sub hl [0, 1, 2, 3, 4] rfl) hP hD hS h1
    · replace h1 := Ok.pos c19 h1
      refine lv_iload_n hx hb dX8_suitingLane_22 rfl (lv_at hl 2 rfl) ?_
      refine lv_goto (tgt := 27) hx hb dX8_suitingLane_23 (by decide) ?_
      exact tX8_suitingLane_b27 K E u k5 hk5 x1 x2 x3 x4 (sW u 0) x2 H locs ls (lv_sub hl [0, 1, 2, 3, 4] rfl) hP hD hS h1
theorem tX8_suitingLane_l5 {p : Program} {l : Launch} {e : Env} {s : State} {m : MethodId} {args : Array Value} {below : List Frame} {meth : Method} {c : Code} {D : va_G} {cy : Nat → ClassId} {A : Nat → Prop} {h : Nat} {a : Nat → Nat} (K : Int32 → Prop) (E : mE D cy RX8 cX8_suitingLane 9 (some .int) wsX8_suitingLane A p s m args meth c) (u : KS) : ∀ (n9 : Nat) (x1 : Int32) (x2 : Int32) (x3 : Int32) (x4 : Int32) (H : Heap) (locs : List Loc) (ls : Array Slot), lv_has ls 9 [(0, .ref h), (1, .int x1), (2, .int x2), (3, .int x3), (4, .int x4)] → va_P D kCl (wS cy h a u) H → va_D A (wS cy h a u) → va_S A s.heap H locs → Ok (lop (fun y z => fX8_suitingLane_b5 y z.1 z.2.1 z.2.2.1 z.2.2.2 u) n9 (x1, x2, x3, x4)) K → kW p l e rmX8_suitingLane s m args below meth c H locs (va_Qi (fun r (_ : Unit) => K r) (fun _ => kPost D A (wS cy h a u)) A) A 5 ls [] := by
  intro n9
  induction n9 with
  | zero =>
    intro x1 x2 x3 x4 H locs ls hl hP hD hS h1
    exact h1.no
  | succ n9 ih =>
    intro x1 x2 x3 x4 H locs ls hl hP hD hS h1
    exact tX8_suitingLane_b5 K E u (lop (fun y z => fX8_suitingLane_b5 y z.1 z.2.1 z.2.2.1 z.2.2.2 u) n9) (fun x1 x2 x3 x4 H locs ls hl hP hD hS h1 => ih x1 x2 x3 x4 H locs ls hl hP hD hS h1) x1 x2 x3 x4 H locs ls hl hP hD hS h1
def fX8_suitingLane_b0 (x1 : Int32) (x2 : Int32) (u : KS) : Option (Int32) :=
  lop (fun y z => fX8_suitingLane_b5 y z.1 z.2.1 z.2.2.1 z.2.2.2 u) LF (x1, x2, (-1), 0)
set_option maxHeartbeats 4000000 in
set_option maxRecDepth 100000 in
theorem tX8_suitingLane_b0 {p : Program} {l : Launch} {e : Env} {s : State} {m : MethodId} {args : Array Value} {below : List Frame} {meth : Method} {c : Code} {D : va_G} {cy : Nat → ClassId} {A : Nat → Prop} {h : Nat} {a : Nat → Nat} (K : Int32 → Prop) (E : mE D cy RX8 cX8_suitingLane 9 (some .int) wsX8_suitingLane A p s m args meth c) (u : KS)
     (x1 : Int32) (x2 : Int32) (H : Heap) (locs : List Loc) (ls : Array Slot) (hl : lv_has ls 9 [(0, .ref h), (1, .int x1), (2, .int x2)]) (hP : va_P D kCl (wS cy h a u) H) (hD : va_D A (wS cy h a u)) (hS : va_S A s.heap H locs) (h1 : Ok (fX8_suitingLane_b0 x1 x2 u) K) :
    kW p l e rmX8_suitingLane s m args below meth c H locs (va_Qi (fun r (_ : Unit) => K r) (fun _ => kPost D A (wS cy h a u)) A) A 0 ls [] := by
  obtain ⟨hx, hb, hr, hml, hown, hts, hlocks, hK, hA⟩ := id E
  unfold fX8_suitingLane_b0 at h1
  refine lv_iconst (v := (-1)) hx hb dX8_suitingLane_0 rfl ?_
  refine lv_istore_n (lv' := [(3, .int (-1)), (0, .ref h), (1, .int x1), (2, .int x2)]) hx hb dX8_suitingLane_1 rfl hl (by decide) rfl (fun ls hl => ?_)
  refine lv_iconst (v := 0) hx hb dX8_suitingLane_2 rfl ?_
  refine lv_istore (lv' := [(4, .int 0), (3, .int (-1)), (0, .ref h), (1, .int x1), (2, .int x2)]) hx hb dX8_suitingLane_3 hl (by decide) rfl (fun ls hl => ?_)
  exact tX8_suitingLane_l5 K E u LF x1 x2 (-1) 0 H locs ls (lv_sub hl [2, 3, 4, 1, 0] rfl) hP hD hS h1
def fX8_suitingLane (p1 : Int32) (p2 : Int32) (u : KS) : Option (Int32) := fX8_suitingLane_b0 p1 p2 u
set_option maxHeartbeats 4000000 in
set_option maxRecDepth 100000 in
theorem cX8_suitingLaneM (l : Launch) (D : va_G) (cy : Nat → ClassId) (h : Nat) (a : Nat → Nat) (sz : Nat) (u : KS) (p1 : Int32) (p2 : Int32) : ∀ (K : Int32 → Prop), Ok (fX8_suitingLane p1 p2 u) K → Met l yX8_suitingLane wsX8_suitingLane rmX8_suitingLane (va_Pc [.ref h, .int p1, .int p2] (kPre D cy sz (wS cy h a u))) (va_Qi (fun r (_ : Unit) => K r) (fun _ => kPost D (va_A (wS cy h a u) sz) (wS cy h a u)) (va_A (wS cy h a u) sz)) 0 0 (va_A (wS cy h a u) sz) := by
  intro K h1
  refine Met.ofW (cc := cX8_suitingLane) (maxL := 9) (ret := (some .int)) (by decide) rfl ?_
  intro p e s m args below meth c s₁ B hml hv
  obtain ⟨rfl, hsz, hP, hK, hD0⟩ := hv
  subst hsz
  have E : mE D cy RX8 cX8_suitingLane 9 (some .int) wsX8_suitingLane (va_A (wS cy h a u) s.heap.size) p s m _ meth c := ⟨B.exec, B.bytes, B.returns, hml, findClass_of_methodNamed B.named, atoms_spec (ws := wsX8_suitingLane) B.pre, B.notSynchronized, hK, fun q h => Or.inr h⟩
  have hl := lv_entry ([.ref h, .int p1, .int p2]) (n := 9) (Nat.le_of_ble_eq_true rfl)
  rw [lg_entry_eq]
  generalize (lg_sl ([.ref h, .int p1, .int p2]) ++ List.replicate (9 - (lg_sl ([.ref h, .int p1, .int p2])).length) Slot.unset).toArray = ls at hl ⊢
  exact tX8_suitingLane_b0 K E u p1 p2 _ _ _ hl hP hD0.self va_S.rf h1
