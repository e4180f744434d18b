-- X10_isBetween
abbrev rmX10_isBetween : Room := { frames := 0, cells := 0, slots := 0, locals := 0 }
def fX10_isBetween_b0 (x0 : Int32) (x1 : Int32) (x2 : Int32) : Option (Int32) :=
  (if x0 < x1 then some 0 else (if x2 < x0 then some 0 else some 1))
set_option maxHeartbeats 4000000 in
set_option maxRecDepth 100000 in
theorem tX10_isBetween_b0 {p : Program} {l : Launch} {e : Env} {s : State} {m : MethodId} {args : Array Value} {below : List Frame} {meth : Method} {c : Code} {D : va_G} {cy : Nat → ClassId} {A : Nat → Prop} (K : Int32 → Prop) (E : mE D cy RX10 cX10_isBetween 3 (some .boolean) wsX10_isBetween A p s m args meth c)
     (x0 : Int32) (x1 : Int32) (x2 : Int32) (H : Heap) (locs : List Loc) (ls : Array Slot) (hl : lv_has ls 3 [(0, .int x0), (1, .int x1), (2, .int x2)]) (hP : va_P D vwCl (([] : va_W)) H) (hD : va_D A (([] : va_W))) (hS : va_S A s.heap H locs) (h1 : Ok (fX10_isBetween_b0 x0 x1 x2) K) :
    kW p l e rmX10_isBetween s m args below meth c H locs (va_Qi (fun r (_ : Unit) => K r) (fun _ => kPost D A (([] : va_W))) A) A 0 ls [] := by
  obtain ⟨hx, hb, hr, hml, hown, hts, hlocks, hK, hA⟩ := id E
  unfold fX10_isBetween_b0 at h1
  refine lv_iload_n hx hb dX10_isBetween_0 rfl (lv_at hl 0 rfl) ?_
  refine lv_iload_n hx hb dX10_isBetween_1 rfl (lv_at hl 1 rfl) ?_
  refine lv_icmp_lt (tgt := 14) hx hb dX10_isBetween_2 (by decide) (fun c2 => ?_) (fun c2 => ?_)
  · replace h1 := Ok.pos c2 h1
    refine lv_iconst (v := 0) hx hb dX10_isBetween_14 rfl ?_
    exact kret_rz hx hb hr rfl hlocks hP hD hS h1 dX10_isBetween_15
  · replace h1 := Ok.neg c2 h1
    refine lv_iload_n hx hb dX10_isBetween_5 rfl (lv_at hl 0 rfl) ?_
    refine lv_iload_n hx hb dX10_isBetween_6 rfl (lv_at hl 2 rfl) ?_
    refine lv_icmp_gt (tgt := 14) hx hb dX10_isBetween_7 (by decide) (fun c7 => ?_) (fun c7 => ?_)
    · replace h1 := Ok.pos c7 h1
      refine lv_iconst (v := 0) hx hb dX10_isBetween_14 rfl ?_
      exact kret_rz hx hb hr rfl hlocks hP hD hS h1 dX10_isBetween_15
    · replace h1 := Ok.neg c7 h1
      refine lv_iconst (v := 1) hx hb dX10_isBetween_10 rfl ?_
      refine lv_goto (tgt := 15) hx hb dX10_isBetween_11 (by decide) ?_
      exact kret_rz hx hb hr rfl hlocks hP hD hS h1 dX10_isBetween_15
def fX10_isBetween (p0 : Int32) (p1 : Int32) (p2 : Int32) : Option (Int32) := fX10_isBetween_b0 p0 p1 p2
set_option maxHeartbeats 4000000 in
set_option maxRecDepth 100000 in
theorem cX10_isBetweenM (l : Launch) (D : va_G) (cy : Nat → ClassId) (sz : Nat) (p0 : Int32) (p1 : Int32) (p2 : Int32) : ∀ (K : Int32 → Prop), Ok (fX10_isBetween p0 p1 p2) K → Met l yX10_isBetween wsX10_isBetween rmX10_isBetween (va_Pc [.int p0, .int p1, .int p2] (kPre D cy sz (([] : va_W)))) (va_Qi (fun r (_ : Unit) => K r) (fun _ => kPost D (va_A (([] : va_W)) sz) (([] : va_W))) (va_A (([] : va_W)) sz)) 0 0 (va_A (([] : va_W)) sz) := by
  intro K h1
  refine Met.ofW (cc := cX10_isBetween) (maxL := 3) (ret := (some .boolean)) (by decide) rfl ?_
  intro p e s m args below meth c s₁ B hml hv
  obtain ⟨rfl, hsz, hP, hK, hD0⟩ := hv
  subst hsz
  have E : mE D cy RX10 cX10_isBetween 3 (some .boolean) wsX10_isBetween (va_A (([] : va_W)) s.heap.size) p s m _ meth c := ⟨B.exec, B.bytes, B.returns, hml, findClass_of_methodNamed B.named, atoms_spec (ws := wsX10_isBetween) B.pre, B.notSynchronized, hK, fun q h => Or.inr h⟩
  have hl := lv_entry ([.int p0, .int p1, .int p2]) (n := 3) (Nat.le_of_ble_eq_true rfl)
  rw [lg_entry_eq]
  generalize (lg_sl ([.int p0, .int p1, .int p2]) ++ List.replicate (3 - (lg_sl ([.int p0, .int p1, .int p2])).length) Slot.unset).toArray = ls at hl ⊢
  exact tX10_isBetween_b0 K E p0 p1 p2 _ _ _ hl hP hD0.self va_S.rf h1
-- X10_isKind
theorem heX10_isBetween : yX10_isBetween.cls ≠ "java/lang/invoke/MethodHandle" ∧ yX10_isBetween.cls ≠ "java/lang/invoke/VarHandle" ∧ (parseMethodDescriptor yX10_isBetween.desc).map (fun d => d.parameters.length) = some 3 := by decide +kernel
abbrev rmX10_isKind : Room := { frames := 1, cells := 0, slots := 0, locals := 22 }
def fX10_isKind_b0 (x0 : Int32) : Option (Int32) :=
  bnd (fX10_isBetween x0 0 3) (fun r3 => grd (decide (r3 &&& 1 = r3)) (some r3))
set_option maxHeartbeats 4000000 in
set_option maxRecDepth 100000 in
theorem tX10_isKind_b0 {p : Program} {l : Launch} {e : Env} {s : State} {m : MethodId} {args : Array Value} {below : List Frame} {meth : Method} {c : Code} {D : va_G} {cy : Nat → ClassId} {A : Nat → Prop} (K : Int32 → Prop) (E : mE D cy RX10 cX10_isKind 1 (some .boolean) wsX10_isKind A p s m args meth c)
     (x0 : Int32) (H : Heap) (locs : List Loc) (ls : Array Slot) (hl : lv_has ls 1 [(0, .int x0)]) (hP : va_P D vwCl (([] : va_W)) H) (hD : va_D A (([] : va_W))) (hS : va_S A s.heap H locs) (h1 : Ok (fX10_isKind_b0 x0) K) :
    kW p l e rmX10_isKind s m args below meth c H locs (va_Qi (fun r (_ : Unit) => K r) (fun _ => kPost D A (([] : va_W))) A) A 0 ls [] := by
  obtain ⟨hx, hb, hr, hml, hown, hts, hlocks, hK, hA⟩ := id E
  unfold fX10_isKind_b0 at h1
  refine lv_iload_n hx hb dX10_isKind_0 rfl (lv_at hl 0 rfl) ?_
  refine lv_iconst (v := 0) hx hb dX10_isKind_1 rfl ?_
  refine lv_iconst (v := 3) hx hb dX10_isKind_2 rfl ?_
  refine kc_rS (As := [.int x0, .int 0, .int 3]) (rest := []) (wc := []) (wr := _) h1 ⟨hx, hb, hml, hown, hts⟩ (cX10_isBetweenM l D cy H.size x0 0 3) (va_cwS 3 hts gX10_isKind_X10_isBetween rfl rfl rfl heX10_isBetween ⟨Nat.le_of_ble_eq_true rfl, Nat.le_of_ble_eq_true rfl⟩) hK (List.Perm.refl _) hP hD hS hA rfl hl.1 rfl (Nat.le_of_ble_eq_true rfl) dX10_isKind_3 ⟨Nat.zero_le _, Nat.zero_le _⟩ (fun r3 H locs h1 hP hS => ?_)
  have g6 := h1.grd1
  replace h1 := h1.grd2
  exact kret_rz hx hb hr (k_zn g6) hlocks hP hD hS h1 dX10_isKind_6
def fX10_isKind (p0 : Int32) : Option (Int32) := fX10_isKind_b0 p0
set_option maxHeartbeats 4000000 in
set_option maxRecDepth 100000 in
theorem cX10_isKindM (l : Launch) (D : va_G) (cy : Nat → ClassId) (sz : Nat) (p0 : Int32) : ∀ (K : Int32 → Prop), Ok (fX10_isKind p0) K → Met l yX10_isKind wsX10_isKind rmX10_isKind (va_Pc [.int p0] (kPre D cy sz (([] : va_W)))) (va_Qi (fun r (_ : Unit) => K r) (fun _ => kPost D (va_A (([] : va_W)) sz) (([] : va_W))) (va_A (([] : va_W)) sz)) 0 0 (va_A (([] : va_W)) sz) := by
  intro K h1
  refine Met.ofW (cc := cX10_isKind) (maxL := 1) (ret := (some .boolean)) (by decide) rfl ?_
  intro p e s m args below meth c s₁ B hml hv
  obtain ⟨rfl, hsz, hP, hK, hD0⟩ := hv
  subst hsz
  have E : mE D cy RX10 cX10_isKind 1 (some .boolean) wsX10_isKind (va_A (([] : va_W)) s.heap.size) p s m _ meth c := ⟨B.exec, B.bytes, B.returns, hml, findClass_of_methodNamed B.named, atoms_spec (ws := wsX10_isKind) B.pre, B.notSynchronized, hK, fun q h => Or.inr h⟩
  have hl := lv_entry ([.int p0]) (n := 1) (Nat.le_of_ble_eq_true rfl)
  rw [lg_entry_eq]
  generalize (lg_sl ([.int p0]) ++ List.replicate (1 - (lg_sl ([.int p0])).length) Slot.unset).toArray = ls at hl ⊢
  exact tX10_isKind_b0 K E p0 _ _ _ hl hP hD0.self va_S.rf h1
-- X10_isLane
abbrev rmX10_isLane : Room := { frames := 1, cells := 0, slots := 0, locals := 22 }
def fX10_isLane_b0 (x0 : Int32) : Option (Int32) :=
  bnd (fX10_isBetween x0 0 2) (fun r3 => grd (decide (r3 &&& 1 = r3)) (some r3))
set_option maxHeartbeats 4000000 in
set_option maxRecDepth 100000 in
theorem tX10_isLane_b0 {p : Program} {l : Launch} {e : Env} {s : State} {m : MethodId} {args : Array Value} {below : List Frame} {meth : Method} {c : Code} {D : va_G} {cy : Nat → ClassId} {A : Nat → Prop} (K : Int32 → Prop) (E : mE D cy RX10 cX10_isLane 1 (some .boolean) wsX10_isLane A p s m args meth c)
     (x0 : Int32) (H : Heap) (locs : List Loc) (ls : Array Slot) (hl : lv_has ls 1 [(0, .int x0)]) (hP : va_P D vwCl (([] : va_W)) H) (hD : va_D A (([] : va_W))) (hS : va_S A s.heap H locs) (h1 : Ok (fX10_isLane_b0 x0) K) :
    kW p l e rmX10_isLane s m args below meth c H locs (va_Qi (fun r (_ : Unit) => K r) (fun _ => kPost D A (([] : va_W))) A) A 0 ls [] := by
  obtain ⟨hx, hb, hr, hml, hown, hts, hlocks, hK, hA⟩ := id E
  unfold fX10_isLane_b0 at h1
  refine lv_iload_n hx hb dX10_isLane_0 rfl (lv_at hl 0 rfl) ?_
  refine lv_iconst (v := 0) hx hb dX10_isLane_1 rfl ?_
  refine lv_iconst (v := 2) hx hb dX10_isLane_2 rfl ?_
  refine kc_rS (As := [.int x0, .int 0, .int 2]) (rest := []) (wc := []) (wr := _) h1 ⟨hx, hb, hml, hown, hts⟩ (cX10_isBetweenM l D cy H.size x0 0 2) (va_cwS 3 hts gX10_isLane_X10_isBetween rfl rfl rfl heX10_isBetween ⟨Nat.le_of_ble_eq_true rfl, Nat.le_of_ble_eq_true rfl⟩) hK (List.Perm.refl _) hP hD hS hA rfl hl.1 rfl (Nat.le_of_ble_eq_true rfl) dX10_isLane_3 ⟨Nat.zero_le _, Nat.zero_le _⟩ (fun r3 H locs h1 hP hS => ?_)
  have g6 := h1.grd1
  replace h1 := h1.grd2
  exact kret_rz hx hb hr (k_zn g6) hlocks hP hD hS h1 dX10_isLane_6
def fX10_isLane (p0 : Int32) : Option (Int32) := fX10_isLane_b0 p0
set_option maxHeartbeats 4000000 in
set_option maxRecDepth 100000 in
theorem cX10_isLaneM (l : Launch) (D : va_G) (cy : Nat → ClassId) (sz : Nat) (p0 : Int32) : ∀ (K : Int32 → Prop), Ok (fX10_isLane p0) K → Met l yX10_isLane wsX10_isLane rmX10_isLane (va_Pc [.int p0] (kPre D cy sz (([] : va_W)))) (va_Qi (fun r (_ : Unit) => K r) (fun _ => kPost D (va_A (([] : va_W)) sz) (([] : va_W))) (va_A (([] : va_W)) sz)) 0 0 (va_A (([] : va_W)) sz) := by
  intro K h1
  refine Met.ofW (cc := cX10_isLane) (maxL := 1) (ret := (some .boolean)) (by decide) rfl ?_
  intro p e s m args below meth c s₁ B hml hv
  obtain ⟨rfl, hsz, hP, hK, hD0⟩ := hv
  subst hsz
  have E : mE D cy RX10 cX10_isLane 1 (some .boolean) wsX10_isLane (va_A (([] : va_W)) s.heap.size) p s m _ meth c := ⟨B.exec, B.bytes, B.returns, hml, findClass_of_methodNamed B.named, atoms_spec (ws := wsX10_isLane) B.pre, B.notSynchronized, hK, fun q h => Or.inr h⟩
  have hl := lv_entry ([.int p0]) (n := 1) (Nat.le_of_ble_eq_true rfl)
  rw [lg_entry_eq]
  generalize (lg_sl ([.int p0]) ++ List.replicate (1 - (lg_sl ([.int p0])).length) Slot.unset).toArray = ls at hl ⊢
  exact tX10_isLane_b0 K E p0 _ _ _ hl hP hD0.self va_S.rf h1
-- X10_isLetter
abbrev rmX10_isLetter : Room := { frames := 0, cells := 0, slots := 0, locals := 0 }
def fX10_isLetter_b0 (x0 : Int32) : Option (Int32) :=
  (if x0 < 97 then some 0 else (if 122 < x0 then some 0 else some 1))
set_option maxHeartbeats 4000000 in
set_option maxRecDepth 100000 in
theorem tX10_isLetter_b0 {p : Program} {l : Launch} {e : Env} {s : State} {m : MethodId} {args : Array Value} {below : List Frame} {meth : Method} {c : Code} {D : va_G} {cy : Nat → ClassId} {A : Nat → Prop} (K : Int32 → Prop) (E : mE D cy RX10 cX10_isLetter 1 (some .boolean) wsX10_isLetter A p s m args meth c)
     (x0 : Int32) (H : Heap) (locs : List Loc) (ls : Array Slot) (hl : lv_has ls 1 [(0, .int x0)]) (hP : va_P D vwCl (([] : va_W)) H) (hD : va_D A (([] : va_W))) (hS : va_S A s.heap H locs) (h1 : Ok (fX10_isLetter_b0 x0) K) :
    kW p l e rmX10_isLetter s m args below meth c H locs (va_Qi (fun r (_ : Unit) => K r) (fun _ => kPost D A (([] : va_W))) A) A 0 ls [] := by
  obtain ⟨hx, hb, hr, hml, hown, hts, hlocks, hK, hA⟩ := id E
  unfold fX10_isLetter_b0 at h1
  refine lv_iload_n hx hb dX10_isLetter_0 rfl (lv_at hl 0 rfl) ?_
  refine lv_bipush (v := 97) hx hb dX10_isLetter_1 rfl ?_
  refine lv_icmp_lt (tgt := 16) hx hb dX10_isLetter_3 (by decide) (fun c3 => ?_) (fun c3 => ?_)
  · replace h1 := Ok.pos c3 h1
    refine lv_iconst (v := 0) hx hb dX10_isLetter_16 rfl ?_
    exact kret_rz hx hb hr rfl hlocks hP hD hS h1 dX10_isLetter_17
  · replace h1 := Ok.neg c3 h1
    refine lv_iload_n hx hb dX10_isLetter_6 rfl (lv_at hl 0 rfl) ?_
    refine lv_bipush (v := 122) hx hb dX10_isLetter_7 rfl ?_
    refine lv_icmp_gt (tgt := 16) hx hb dX10_isLetter_9 (by decide) (fun c9 => ?_) (fun c9 => ?_)
    · replace h1 := Ok.pos c9 h1
      refine lv_iconst (v := 0) hx hb dX10_isLetter_16 rfl ?_
      exact kret_rz hx hb hr rfl hlocks hP hD hS h1 dX10_isLetter_17
    · replace h1 := Ok.neg c9 h1
      refine lv_iconst (v := 1) hx hb dX10_isLetter_12 rfl ?_
      refine lv_goto (tgt := 17) hx hb dX10_isLetter_13 (by decide) ?_
      exact kret_rz hx hb hr rfl hlocks hP hD hS h1 dX10_isLetter_17
def fX10_isLetter (p0 : Int32) : Option (Int32) := fX10_isLetter_b0 p0
set_option maxHeartbeats 4000000 in
set_option maxRecDepth 100000 in
theorem cX10_isLetterM (l : Launch) (D : va_G) (cy : Nat → ClassId) (sz : Nat) (p0 : Int32) : ∀ (K : Int32 → Prop), Ok (fX10_isLetter p0) K → Met l yX10_isLetter wsX10_isLetter rmX10_isLetter (va_Pc [.int p0] (kPre D cy sz (([] : va_W)))) (va_Qi (fun r (_ : Unit) => K r) (fun _ => kPost D (va_A (([] : va_W)) sz) (([] : va_W))) (va_A (([] : va_W)) sz)) 0 0 (va_A (([] : va_W)) sz) := by
  intro K h1
  refine Met.ofW (cc := cX10_isLetter) (maxL := 1) (ret := (some .boolean)) (by decide) rfl ?_
  intro p e s m args below meth c s₁ B hml hv
  obtain ⟨rfl, hsz, hP, hK, hD0⟩ := hv
  subst hsz
  have E : mE D cy RX10 cX10_isLetter 1 (some .boolean) wsX10_isLetter (va_A (([] : va_W)) s.heap.size) p s m _ meth c := ⟨B.exec, B.bytes, B.returns, hml, findClass_of_methodNamed B.named, atoms_spec (ws := wsX10_isLetter) B.pre, B.notSynchronized, hK, fun q h => Or.inr h⟩
  have hl := lv_entry ([.int p0]) (n := 1) (Nat.le_of_ble_eq_true rfl)
  rw [lg_entry_eq]
  generalize (lg_sl ([.int p0]) ++ List.replicate (1 - (lg_sl ([.int p0])).length) Slot.unset).toArray = ls at hl ⊢
  exact tX10_isLetter_b0 K E p0 _ _ _ hl hP hD0.self va_S.rf h1
-- X10_isDigit
abbrev rmX10_isDigit : Room := { frames := 0, cells := 0, slots := 0, locals := 0 }
def fX10_isDigit_b0 (x0 : Int32) : Option (Int32) :=
  (if x0 < 48 then some 0 else (if 57 < x0 then some 0 else some 1))
set_option maxHeartbeats 4000000 in
set_option maxRecDepth 100000 in
theorem tX10_isDigit_b0 {p : Program} {l : Launch} {e : Env} {s : State} {m : MethodId} {args : Array Value} {below : List Frame} {meth : Method} {c : Code} {D : va_G} {cy : Nat → ClassId} {A : Nat → Prop} (K : Int32 → Prop) (E : mE D cy RX10 cX10_isDigit 1 (some .boolean) wsX10_isDigit A p s m args meth c)
     (x0 : Int32) (H : Heap) (locs : List Loc) (ls : Array Slot) (hl : lv_has ls 1 [(0, .int x0)]) (hP : va_P D vwCl (([] : va_W)) H) (hD : va_D A (([] : va_W))) (hS : va_S A s.heap H locs) (h1 : Ok (fX10_isDigit_b0 x0) K) :
    kW p l e rmX10_isDigit s m args below meth c H locs (va_Qi (fun r (_ : Unit) => K r) (fun _ => kPost D A (([] : va_W))) A) A 0 ls [] := by
  obtain ⟨hx, hb, hr, hml, hown, hts, hlocks, hK, hA⟩ := id E
  unfold fX10_isDigit_b0 at h1
  refine lv_iload_n hx hb dX10_isDigit_0 rfl (lv_at hl 0 rfl) ?_
  refine lv_bipush (v := 48) hx hb dX10_isDigit_1 rfl ?_
  refine lv_icmp_lt (tgt := 16) hx hb dX10_isDigit_3 (by decide) (fun c3 => ?_) (fun c3 => ?_)
  · replace h1 := Ok.pos c3 h1
    refine lv_iconst (v := 0) hx hb dX10_isDigit_16 rfl ?_
    exact kret_rz hx hb hr rfl hlocks hP hD hS h1 dX10_isDigit_17
  · replace h1 := Ok.neg c3 h1
    refine lv_iload_n hx hb dX10_isDigit_6 rfl (lv_at hl 0 rfl) ?_
    refine lv_bipush (v := 57) hx hb dX10_isDigit_7 rfl ?_
    refine lv_icmp_gt (tgt := 16) hx hb dX10_isDigit_9 (by decide) (fun c9 => ?_) (fun c9 => ?_)
    · replace h1 := Ok.pos c9 h1
      refine lv_iconst (v := 0) hx hb dX10_isDigit_16 rfl ?_
      exact kret_rz hx hb hr rfl hlocks hP hD hS h1 dX10_isDigit_17
    · replace h1 := Ok.neg c9 h1
      refine lv_iconst (v := 1) hx hb dX10_isDigit_12 rfl ?_
      refine lv_goto (tgt := 17) hx hb dX10_isDigit_13 (by decide) ?_
      exact kret_rz hx hb hr rfl hlocks hP hD hS h1 dX10_isDigit_17
def fX10_isDigit (p0 : Int32) : Option (Int32) := fX10_isDigit_b0 p0
set_option maxHeartbeats 4000000 in
set_option maxRecDepth 100000 in
theorem cX10_isDigitM (l : Launch) (D : va_G) (cy : Nat → ClassId) (sz : Nat) (p0 : Int32) : ∀ (K : Int32 → Prop), Ok (fX10_isDigit p0) K → Met l yX10_isDigit wsX10_isDigit rmX10_isDigit (va_Pc [.int p0] (kPre D cy sz (([] : va_W)))) (va_Qi (fun r (_ : Unit) => K r) (fun _ => kPost D (va_A (([] : va_W)) sz) (([] : va_W))) (va_A (([] : va_W)) sz)) 0 0 (va_A (([] : va_W)) sz) := by
  intro K h1
  refine Met.ofW (cc := cX10_isDigit) (maxL := 1) (ret := (some .boolean)) (by decide) rfl ?_
  intro p e s m args below meth c s₁ B hml hv
  obtain ⟨rfl, hsz, hP, hK, hD0⟩ := hv
  subst hsz
  have E : mE D cy RX10 cX10_isDigit 1 (some .boolean) wsX10_isDigit (va_A (([] : va_W)) s.heap.size) p s m _ meth c := ⟨B.exec, B.bytes, B.returns, hml, findClass_of_methodNamed B.named, atoms_spec (ws := wsX10_isDigit) B.pre, B.notSynchronized, hK, fun q h => Or.inr h⟩
  have hl := lv_entry ([.int p0]) (n := 1) (Nat.le_of_ble_eq_true rfl)
  rw [lg_entry_eq]
  generalize (lg_sl ([.int p0]) ++ List.replicate (1 - (lg_sl ([.int p0])).length) Slot.unset).toArray = ls at hl ⊢
  exact tX10_isDigit_b0 K E p0 _ _ _ hl hP hD0.self va_S.rf h1
-- X10_copy
abbrev rmX10_copy : Room := { frames := 0, cells := 0, slots := 0, locals := 0 }
def fX10_copy_b3 (k3 : Int32 × Int32 × Int32 × (Nat → Int32) → Option ((Nat → Int32))) (x1 : Int32) (x3 : Int32) (x4 : Int32) (n1 : Nat) (f1 : Nat → Int32) (n2 : Nat) (u2 : Nat → Int32) : Option ((Nat → Int32)) :=
  (if 561 ≤ x4 then some u2 else grd (inb (x1 + x4) n1) (grd (inb (x3 + x4) n2) (k3 (x1, x3, x4 + 1, upd u2 (ix (x3 + x4)) (f1 (ix (x1 + x4)))))))
set_option maxHeartbeats 4000000 in
set_option maxRecDepth 100000 in
theorem tX10_copy_b3 {p : Program} {l : Launch} {e : Env} {s : State} {m : MethodId} {args : Array Value} {below : List Frame} {meth : Method} {c : Code} {D : va_G} {cy : Nat → ClassId} {A : Nat → Prop} {ra1 : Nat} {ra2 : Nat} (K : (Nat → Int32) → Prop) (E : mE D cy RX10 cX10_copy 5 none wsX10_copy A p s m args meth c) (n1 : Nat) (f1 : Nat → Int32) (n2 : Nat)
    (k3 : Int32 × Int32 × Int32 × (Nat → Int32) → Option ((Nat → Int32))) (hk3 : ∀ (x1 : Int32) (x3 : Int32) (x4 : Int32) (u2 : Nat → Int32) (H : Heap) (locs : List Loc) (ls : Array Slot), lv_has ls 5 [(0, .ref ra1), (1, .int x1), (2, .ref ra2), (3, .int x3), (4, .int x4)] → va_P D vwCl ([(ra1, .inl (cy 0, n1, .inl f1)), (ra2, .inl (cy 0, n2, .inl u2))]) H → va_D A ([(ra1, .inl (cy 0, n1, .inl f1)), (ra2, .inl (cy 0, n2, .inl u2))]) → va_S A s.heap H locs → Ok (k3 (x1, x3, x4, u2)) K → kW p l e rmX10_copy s m args below meth c H locs (va_Qv K (fun q => kPost D A ([(ra1, .inl (cy 0, n1, .inl f1)), (ra2, .inl (cy 0, n2, .inl q))])) A) A 3 ls [])
     (x1 : Int32) (x3 : Int32) (x4 : Int32) (u2 : Nat → Int32) (H : Heap) (locs : List Loc) (ls : Array Slot) (hl : lv_has ls 5 [(0, .ref ra1), (1, .int x1), (2, .ref ra2), (3, .int x3), (4, .int x4)]) (hP : va_P D vwCl ([(ra1, .inl (cy 0, n1, .inl f1)), (ra2, .inl (cy 0, n2, .inl u2))]) H) (hD : va_D A ([(ra1, .inl (cy 0, n1, .inl f1)), (ra2, .inl (cy 0, n2, .inl u2))])) (hS : va_S A s.heap H locs) (h1 : Ok (fX10_copy_b3 k3 x1 x3 x4 n1 f1 n2 u2) K) :
    kW p l e rmX10_copy s m args below meth c H locs (va_Qv K (fun q => kPost D A ([(ra1, .inl (cy 0, n1, .inl f1)), (ra2, .inl (cy 0, n2, .inl q))])) A) A 3 ls [] := by
  obtain ⟨hx, hb, hr, hml, hown, hts, hlocks, hK, hA⟩ := id E
  unfold fX10_copy_b3 at h1
  refine lv_iload hx hb dX10_copy_3 (lv_at hl 4 rfl) ?_
  refine lv_sipush (v := 561) hx hb dX10_copy_5 rfl ?_
  refine lv_icmp_ge (tgt := 29) hx hb dX10_copy_8 (by decide) (fun c8 => ?_) (fun c8 => ?_)
  · replace h1 := Ok.pos c8 h1
    exact kret_v hx hb hr hlocks hP hD hS h1 dX10_copy_29
  · replace h1 := Ok.neg c8 h1
    refine lv_aload_n hx hb dX10_copy_11 rfl (lv_at hl 2 rfl) ?_
    refine lv_iload_n hx hb dX10_copy_12 rfl (lv_at hl 3 rfl) ?_
    refine lv_iload hx hb dX10_copy_13 (lv_at hl 4 rfl) ?_
    refine lv_iadd hx hb dX10_copy_15 ?_
    refine lv_aload_n hx hb dX10_copy_16 rfl (lv_at hl 0 rfl) ?_
    refine lv_iload_n hx hb dX10_copy_17 rfl (lv_at hl 1 rfl) ?_
    refine lv_iload hx hb dX10_copy_18 (lv_at hl 4 rfl) ?_
    refine lv_iadd hx hb dX10_copy_20 ?_
    have g21 := h1.grd1
    replace h1 := h1.grd2
    refine k_iald (k := (ix (x1 + x4))) hx hb hK hP 0 rfl g21 rfl dX10_copy_21 ?_
    have g22 := h1.grd1
    replace h1 := h1.grd2
    refine k_iast (k := (ix (x3 + x4))) (ws' := [(ra1, .inl (cy 0, n1, .inl f1)), (ra2, .inl (cy 0, n2, .inl (upd u2 (ix (x3 + x4)) (f1 (ix (x1 + x4))))))]) hx hb hK hP hD hS 1 rfl g22 rfl rfl dX10_copy_22 (fun H locs hP hD hS => ?_)
    refine lv_iinc (v := x4 + 1) (lv' := [(4, .int (x4 + 1)), (0, .ref ra1), (1, .int x1), (2, .ref ra2), (3, .int x3)]) hx hb dX10_copy_23 hl (k := 4) rfl rfl (by decide) rfl (fun ls hl => ?_)
    refine lv_goto (tgt := 3) hx hb dX10_copy_26 (by decide) ?_
    exact hk3 x1 x3 (x4 + 1) (upd u2 (ix (x3 + x4)) (f1 (ix (x1 + x4)))) H locs ls (lv_sub hl [1, 2, 3, 4, 0] rfl) hP hD hS h1
theorem tX10_copy_l3 {p : Program} {l : Launch} {e : Env} {s : State} {m : MethodId} {args : Array Value} {below : List Frame} {meth : Method} {c : Code} {D : va_G} {cy : Nat → ClassId} {A : Nat → Prop} {ra1 : Nat} {ra2 : Nat} (K : (Nat → Int32) → Prop) (E : mE D cy RX10 cX10_copy 5 none wsX10_copy A p s m args meth c) (n1 : Nat) (f1 : Nat → Int32) (n2 : Nat) : ∀ (n9 : Nat) (x1 : Int32) (x3 : Int32) (x4 : Int32) (u2 : Nat → Int32) (H : Heap) (locs : List Loc) (ls : Array Slot), lv_has ls 5 [(0, .ref ra1), (1, .int x1), (2, .ref ra2), (3, .int x3), (4, .int x4)] → va_P D vwCl ([(ra1, .inl (cy 0, n1, .inl f1)), (ra2, .inl (cy 0, n2, .inl u2))]) H → va_D A ([(ra1, .inl (cy 0, n1, .inl f1)), (ra2, .inl (cy 0, n2, .inl u2))]) → va_S A s.heap H locs → Ok (lop (fun y z => fX10_copy_b3 y z.1 z.2.1 z.2.2.1 n1 f1 n2 z.2.2.2) n9 (x1, x3, x4, u2)) K → kW p l e rmX10_copy s m args below meth c H locs (va_Qv K (fun q => kPost D A ([(ra1, .inl (cy 0, n1, .inl f1)), (ra2, .inl (cy 0, n2, .inl q))])) A) A 3 ls [] := by
  intro n9
  induction n9 with
  | zero =>
    intro x1 x3 x4 u2 H locs ls hl hP hD hS h1
    exact h1.no
  | succ n9 ih =>
    intro x1 x3 x4 u2 H locs ls hl hP hD hS h1
    exact tX10_copy_b3 K E n1 f1 n2 (lop (fun y z => fX10_copy_b3 y z.1 z.2.1 z.2.2.1 n1 f1 n2 z.2.2.2) n9) (fun x1 x3 x4 u2 H locs ls hl hP hD hS h1 => ih x1 x3 x4 u2 H locs ls hl hP hD hS h1) x1 x3 x4 u2 H locs ls hl hP hD hS h1
def fX10_copy_b0 (x1 : Int32) (x3 : Int32) (n1 : Nat) (f1 : Nat → Int32) (n2 : Nat) (u2 : Nat → Int32) : Option ((Nat → Int32)) :=
  lop (fun y z => fX10_copy_b3 y z.1 z.2.1 z.2.2.1 n1 f1 n2 z.2.2.2) LF (x1, x3, 0, u2)
set_option maxHeartbeats 4000000 in
set_option maxRecDepth 100000 in
theorem tX10_copy_b0 {p : Program} {l : Launch} {e : Env} {s : State} {m : MethodId} {args : Array Value} {below : List Frame} {meth : Method} {c : Code} {D : va_G} {cy : Nat → ClassId} {A : Nat → Prop} {ra1 : Nat} {ra2 : Nat} (K : (Nat → Int32) → Prop) (E : mE D cy RX10 cX10_copy 5 none wsX10_copy A p s m args meth c) (n1 : Nat) (f1 : Nat → Int32) (n2 : Nat)
     (x1 : Int32) (x3 : Int32) (u2 : Nat → Int32) (H : Heap) (locs : List Loc) (ls : Array Slot) (hl : lv_has ls 5 [(0, .ref ra1), (1, .int x1), (2, .ref ra2), (3, .int x3)]) (hP : va_P D vwCl ([(ra1, .inl (cy 0, n1, .inl f1)), (ra2, .inl (cy 0, n2, .inl u2))]) H) (hD : va_D A ([(ra1, .inl (cy 0, n1, .inl f1)), (ra2, .inl (cy 0, n2, .inl u2))])) (hS : va_S A s.heap H locs) (h1 : Ok (fX10_copy_b0 x1 x3 n1 f1 n2 u2) K) :
    kW p l e rmX10_copy s m args below meth c H locs (va_Qv K (fun q => kPost D A ([(ra1, .inl (cy 0, n1, .inl f1)), (ra2, .inl (cy 0, n2, .inl q))])) A) A 0 ls [] := by
  obtain ⟨hx, hb, hr, hml, hown, hts, hlocks, hK, hA⟩ := id E
  unfold fX10_copy_b0 at h1
  refine lv_iconst (v := 0) hx hb dX10_copy_0 rfl ?_
  refine lv_istore (lv' := [(4, .int 0), (0, .ref ra1), (1, .int x1), (2, .ref ra2), (3, .int x3)]) hx hb dX10_copy_1 hl (by decide) rfl (fun ls hl => ?_)
  exact tX10_copy_l3 K E n1 f1 n2 LF x1 x3 0 u2 H locs ls (lv_sub hl [1, 2, 3, 4, 0] rfl) hP hD hS h1
def fX10_copy (p1 : Int32) (p3 : Int32) (n1 : Nat) (f1 : Nat → Int32) (n2 : Nat) (u2 : Nat → Int32) : Option ((Nat → Int32)) := fX10_copy_b0 p1 p3 n1 f1 n2 u2
set_option maxHeartbeats 4000000 in
set_option maxRecDepth 100000 in
theorem cX10_copyM (l : Launch) (D : va_G) (cy : Nat → ClassId) (ra1 : Nat) (ra2 : Nat) (sz : Nat) (n1 : Nat) (f1 : Nat → Int32) (n2 : Nat) (u2 : Nat → Int32) (p1 : Int32) (p3 : Int32) : ∀ (K : (Nat → Int32) → Prop), Ok (fX10_copy p1 p3 n1 f1 n2 u2) K → Met l yX10_copy wsX10_copy rmX10_copy (va_Pc [.ref ra1, .int p1, .ref ra2, .int p3] (kPre D cy sz ([(ra1, .inl (cy 0, n1, .inl f1)), (ra2, .inl (cy 0, n2, .inl u2))]))) (va_Qv K (fun q => kPost D (va_A ([(ra1, .inl (cy 0, n1, .inl f1)), (ra2, .inl (cy 0, n2, .inl u2))]) sz) ([(ra1, .inl (cy 0, n1, .inl f1)), (ra2, .inl (cy 0, n2, .inl q))])) (va_A ([(ra1, .inl (cy 0, n1, .inl f1)), (ra2, .inl (cy 0, n2, .inl u2))]) sz)) 0 0 (va_A ([(ra1, .inl (cy 0, n1, .inl f1)), (ra2, .inl (cy 0, n2, .inl u2))]) sz) := by
  intro K h1
  refine Met.ofW (cc := cX10_copy) (maxL := 5) (ret := none) (by decide) rfl ?_
  intro p e s m args below meth c s₁ B hml hv
  obtain ⟨rfl, hsz, hP, hK, hD0⟩ := hv
  subst hsz
  have E : mE D cy RX10 cX10_copy 5 none wsX10_copy (va_A ([(ra1, .inl (cy 0, n1, .inl f1)), (ra2, .inl (cy 0, n2, .inl u2))]) s.heap.size) p s m _ meth c := ⟨B.exec, B.bytes, B.returns, hml, findClass_of_methodNamed B.named, atoms_spec (ws := wsX10_copy) B.pre, B.notSynchronized, hK, fun q h => Or.inr h⟩
  have hl := lv_entry ([.ref ra1, .int p1, .ref ra2, .int p3]) (n := 5) (Nat.le_of_ble_eq_true rfl)
  rw [lg_entry_eq]
  generalize (lg_sl ([.ref ra1, .int p1, .ref ra2, .int p3]) ++ List.replicate (5 - (lg_sl ([.ref ra1, .int p1, .ref ra2, .int p3])).length) Slot.unset).toArray = ls at hl ⊢
  exact tX10_copy_b0 K E n1 f1 n2 p1 p3 u2 _ _ _ hl hP hD0.self va_S.rf h1
-- X10_ofKind
theorem inX10_ofKind_X10 : ∀ w ∈ u_ws RX10 TX10 23, w ∈ wsX10_ofKind := k_lays 2 rfl
theorem lkX10_ofKind_7 : Cond.fieldLink RX10 7 "FerryRampModel" "state" "[I" ∈ wsX10_ofKind := List.mem_of_getElem? (i := 1) rfl
abbrev rmX10_ofKind : Room := { frames := 0, cells := 0, slots := 0, locals := 0 }
def fX10_ofKind_b0 (x1 : Int32) (x2 : Int32) (u : Nat → Int32) : Option (Int32) :=
  grd (inb ((29 + (3 * x1)) + x2) 561) (some (u (ix ((29 + (3 * x1)) + x2))))
set_option maxHeartbeats 4000000 in
set_option maxRecDepth 100000 in
theorem tX10_ofKind_b0 {p : Program} {l : Launch} {e : Env} {s : State} {m : MethodId} {args : Array Value} {below : List Frame} {meth : Method} {c : Code} {D : va_G} {cy : Nat → ClassId} {A : Nat → Prop} {h : Nat} {a : Nat} {rs : List Value} (K : Int32 → Prop) (E : mE D cy RX10 cX10_ofKind 3 (some .int) wsX10_ofKind A p s m args meth c) (u : Nat → Int32)
     (x1 : Int32) (x2 : Int32) (H : Heap) (locs : List Loc) (ls : Array Slot) (hl : lv_has ls 3 [(0, .ref h), (1, .int x1), (2, .int x2)]) (hP : va_P D vwCl (wM0 cy h a rs u) H) (hD : va_D A (wM0 cy h a rs u)) (hS : va_S A s.heap H locs) (h1 : Ok (fX10_ofKind_b0 x1 x2 u) K) :
    kW p l e rmX10_ofKind s m args below meth c H locs (va_Qi (fun r (_ : Unit) => K r) (fun _ => kPost D A (wM0 cy h a rs u)) A) A 0 ls [] := by
  obtain ⟨hx, hb, hr, hml, hown, hts, hlocks, hK, hA⟩ := id E
  unfold fX10_ofKind_b0 at h1
  refine lv_aload_n hx hb dX10_ofKind_0 rfl (lv_at hl 0 rfl) ?_
  refine k_get (v := .ref a) (C := RX10) (T := TX10) (N := 23) hx hb hts inX10_ofKind_X10 hown hK hP 0 (wM0_a0 _ _ _ _ _) rfl 0 (by decide) lkX10_ofKind_7 (m0Fs_0 _ _) dX10_ofKind_1 ?_
  refine lv_bipush (v := 29) hx hb dX10_ofKind_4 rfl ?_
  refine lv_iconst (v := 3) hx hb dX10_ofKind_6 rfl ?_
  refine lv_iload_n hx hb dX10_ofKind_7 rfl (lv_at hl 1 rfl) ?_
  refine lv_imul hx hb dX10_ofKind_8 ?_
  refine lv_iadd hx hb dX10_ofKind_9 ?_
  refine lv_iload_n hx hb dX10_ofKind_10 rfl (lv_at hl 2 rfl) ?_
  refine lv_iadd hx hb dX10_ofKind_11 ?_
  have g12 := h1.grd1
  replace h1 := h1.grd2
  refine k_iald (k := (ix ((29 + (3 * x1)) + x2))) hx hb hK hP 1 (wM0_a1 _ _ _ _ _) g12 rfl dX10_ofKind_12 ?_
  exact kret_r hx hb hr hlocks hP hD hS h1 dX10_ofKind_13
def fX10_ofKind (p1 : Int32) (p2 : Int32) (u : Nat → Int32) : Option (Int32) := fX10_ofKind_b0 p1 p2 u
set_option maxHeartbeats 4000000 in
set_option maxRecDepth 100000 in
theorem cX10_ofKindM (l : Launch) (D : va_G) (cy : Nat → ClassId) (h : Nat) (a : Nat) (rs : List Value) (sz : Nat) (u : Nat → Int32) (p1 : Int32) (p2 : Int32) : ∀ (K : Int32 → Prop), Ok (fX10_ofKind p1 p2 u) K → Met l yX10_ofKind wsX10_ofKind rmX10_ofKind (va_Pc [.ref h, .int p1, .int p2] (kPre D cy sz (wM0 cy h a rs u))) (va_Qi (fun r (_ : Unit) => K r) (fun _ => kPost D (va_A (wM0 cy h a rs u) sz) (wM0 cy h a rs u)) (va_A (wM0 cy h a rs u) sz)) 0 0 (va_A (wM0 cy h a rs u) sz) := by
  intro K h1
  refine Met.ofW (cc := cX10_ofKind) (maxL := 3) (ret := (some .int)) (by decide) rfl ?_
  intro p e s m args below meth c s₁ B hml hv
  obtain ⟨rfl, hsz, hP, hK, hD0⟩ := hv
  subst hsz
  have E : mE D cy RX10 cX10_ofKind 3 (some .int) wsX10_ofKind (va_A (wM0 cy h a rs u) s.heap.size) p s m _ meth c := ⟨B.exec, B.bytes, B.returns, hml, findClass_of_methodNamed B.named, atoms_spec (ws := wsX10_ofKind) B.pre, B.notSynchronized, hK, fun q h => Or.inr h⟩
  have hl := lv_entry ([.ref h, .int p1, .int p2]) (n := 3) (Nat.le_of_ble_eq_true rfl)
  rw [lg_entry_eq]
  generalize (lg_sl ([.ref h, .int p1, .int p2]) ++ List.replicate (3 - (lg_sl ([.ref h, .int p1, .int p2])).length) Slot.unset).toArray = ls at hl ⊢
  exact tX10_ofKind_b0 K E u p1 p2 _ _ _ hl hP hD0.self va_S.rf h1
-- X10_layKind
theorem inX10_layKind_X10 : ∀ w ∈ u_ws RX10 TX10 23, w ∈ wsX10_layKind := k_lays 2 rfl
theorem lkX10_layKind_7 : Cond.fieldLink RX10 7 "FerryRampModel" "state" "[I" ∈ wsX10_layKind := List.mem_of_getElem? (i := 1) rfl
abbrev rmX10_layKind : Room := { frames := 0, cells := 0, slots := 0, locals := 0 }
def fX10_layKind_b0 (x1 : Int32) (x2 : Int32) (x3 : Int32) (x4 : Int32) (u : Nat → Int32) : Option ((Nat → Int32)) :=
  grd (inb (29 + (3 * x1)) 561) (grd (inb ((29 + (3 * x1)) + 1) 561) (grd (inb ((29 + (3 * x1)) + 2) 561) (some (upd (upd (upd u (ix (29 + (3 * x1))) x2) (ix ((29 + (3 * x1)) + 1)) x3) (ix ((29 + (3 * x1)) + 2)) x4))))
set_option maxHeartbeats 4000000 in
set_option maxRecDepth 100000 in
theorem tX10_layKind_b0 {p : Program} {l : Launch} {e : Env} {s : State} {m : MethodId} {args : Array Value} {below : List Frame} {meth : Method} {c : Code} {D : va_G} {cy : Nat → ClassId} {A : Nat → Prop} {h : Nat} {a : Nat} {rs : List Value} (K : (Nat → Int32) → Prop) (E : mE D cy RX10 cX10_layKind 6 none wsX10_layKind A p s m args meth c)
     (x1 : Int32) (x2 : Int32) (x3 : Int32) (x4 : Int32) (u : Nat → Int32) (H : Heap) (locs : List Loc) (ls : Array Slot) (hl : lv_has ls 6 [(0, .ref h), (1, .int x1), (2, .int x2), (3, .int x3), (4, .int x4)]) (hP : va_P D vwCl (wM0 cy h a rs u) H) (hD : va_D A (wM0 cy h a rs u)) (hS : va_S A s.heap H locs) (h1 : Ok (fX10_layKind_b0 x1 x2 x3 x4 u) K) :
    kW p l e rmX10_layKind s m args below meth c H locs (va_Qv K (fun q => kPost D A (wM0 cy h a rs q)) A) A 0 ls [] := by
  obtain ⟨hx, hb, hr, hml, hown, hts, hlocks, hK, hA⟩ := id E
  unfold fX10_layKind_b0 at h1
  refine lv_bipush (v := 29) hx hb dX10_layKind_0 rfl ?_
  refine lv_iconst (v := 3) hx hb dX10_layKind_2 rfl ?_
  refine lv_iload_n hx hb dX10_layKind_3 rfl (lv_at hl 1 rfl) ?_
  refine lv_imul hx hb dX10_layKind_4 ?_
  refine lv_iadd hx hb dX10_layKind_5 ?_
  refine lv_istore (lv' := [(5, .int (29 + (3 * x1))), (0, .ref h), (1, .int x1), (2, .int x2), (3, .int x3), (4, .int x4)]) hx hb dX10_layKind_6 hl (by decide) rfl (fun ls hl => ?_)
  refine lv_aload_n hx hb dX10_layKind_8 rfl (lv_at hl 1 rfl) ?_
  refine k_get (v := .ref a) (C := RX10) (T := TX10) (N := 23) hx hb hts inX10_layKind_X10 hown hK hP 0 (wM0_a0 _ _ _ _ _) rfl 0 (by decide) lkX10_layKind_7 (m0Fs_0 _ _) dX10_layKind_9 ?_
  refine lv_iload hx hb dX10_layKind_12 (lv_at hl 0 rfl) ?_
  refine lv_iload_n hx hb dX10_layKind_14 rfl (lv_at hl 3 rfl) ?_
  have g15 := h1.grd1
  replace h1 := h1.grd2
  refine k_iast (k := (ix (29 + (3 * x1)))) (ws' := wM0 cy h a rs (upd u (ix (29 + (3 * x1))) x2)) hx hb hK hP hD hS 1 (wM0_a1 _ _ _ _ _) g15 rfl (wM0_upd _ _ _ _ _ _ _) dX10_layKind_15 (fun H locs hP hD hS => ?_)
  refine lv_aload_n hx hb dX10_layKind_16 rfl (lv_at hl 1 rfl) ?_
  refine k_get (v := .ref a) (C := RX10) (T := TX10) (N := 23) hx hb hts inX10_layKind_X10 hown hK hP 0 (wM0_a0 _ _ _ _ _) rfl 0 (by decide) lkX10_layKind_7 (m0Fs_0 _ _) dX10_layKind_17 ?_
  refine lv_iload hx hb dX10_layKind_20 (lv_at hl 0 rfl) ?_
  refine lv_iconst (v := 1) hx hb dX10_layKind_22 rfl ?_
  refine lv_iadd hx hb dX10_layKind_23 ?_
  refine lv_iload_n hx hb dX10_layKind_24 rfl (lv_at hl 4 rfl) ?_
  have g25 := h1.grd1
  replace h1 := h1.grd2
  refine k_iast (k := (ix ((29 + (3 * x1)) + 1))) (ws' := wM0 cy h a rs (upd (upd u (ix (29 + (3 * x1))) x2) (ix ((29 + (3 * x1)) + 1)) x3)) hx hb hK hP hD hS 1 (wM0_a1 _ _ _ _ _) g25 rfl (wM0_upd _ _ _ _ _ _ _) dX10_layKind_25 (fun H locs hP hD hS => ?_)
  refine lv_aload_n hx hb dX10_layKind_26 rfl (lv_at hl 1 rfl) ?_
  refine k_get (v := .ref a) (C := RX10) (T := TX10) (N := 23) hx hb hts inX10_layKind_X10 hown hK hP 0 (wM0_a0 _ _ _ _ _) rfl 0 (by decide) lkX10_layKind_7 (m0Fs_0 _ _) dX10_layKind_27 ?_
  refine lv_iload hx hb dX10_layKind_30 (lv_at hl 0 rfl) ?_
  refine lv_iconst (v := 2) hx hb dX10_layKind_32 rfl ?_
  refine lv_iadd hx hb dX10_layKind_33 ?_
  refine lv_iload hx hb dX10_layKind_34 (lv_at hl 5 rfl) ?_
  have g36 := h1.grd1
  replace h1 := h1.grd2
  refine k_iast (k := (ix ((29 + (3 * x1)) + 2))) (ws' := wM0 cy h a rs (upd (upd (upd u (ix (29 + (3 * x1))) x2) (ix ((29 + (3 * x1)) + 1)) x3) (ix ((29 + (3 * x1)) + 2)) x4)) hx hb hK hP hD hS 1 (wM0_a1 _ _ _ _ _) g36 rfl (wM0_upd _ _ _ _ _ _ _) dX10_layKind_36 (fun H locs hP hD hS => ?_)
  exact kret_v hx hb hr hlocks hP hD hS h1 dX10_layKind_37
def fX10_layKind (p1 : Int32) (p2 : Int32) (p3 : Int32) (p4 : Int32) (u : Nat → Int32) : Option ((Nat → Int32)) := fX10_layKind_b0 p1 p2 p3 p4 u
set_option maxHeartbeats 4000000 in
set_option maxRecDepth 100000 in
theorem cX10_layKindM (l : Launch) (D : va_G) (cy : Nat → ClassId) (h : Nat) (a : Nat) (rs : List Value) (sz : Nat) (u : Nat → Int32) (p1 : Int32) (p2 : Int32) (p3 : Int32) (p4 : Int32) : ∀ (K : (Nat → Int32) → Prop), Ok (fX10_layKind p1 p2 p3 p4 u) K → Met l yX10_layKind wsX10_layKind rmX10_layKind (va_Pc [.ref h, .int p1, .int p2, .int p3, .int p4] (kPre D cy sz (wM0 cy h a rs u))) (va_Qv K (fun q => kPost D (va_A (wM0 cy h a rs u) sz) (wM0 cy h a rs q)) (va_A (wM0 cy h a rs u) sz)) 0 0 (va_A (wM0 cy h a rs u) sz) := by
  intro K h1
  refine Met.ofW (cc := cX10_layKind) (maxL := 6) (ret := none) (by decide) rfl ?_
  intro p e s m args below meth c s₁ B hml hv
  obtain ⟨rfl, hsz, hP, hK, hD0⟩ := hv
  subst hsz
  have E : mE D cy RX10 cX10_layKind 6 none wsX10_layKind (va_A (wM0 cy h a rs u) s.heap.size) p s m _ meth c := ⟨B.exec, B.bytes, B.returns, hml, findClass_of_methodNamed B.named, atoms_spec (ws := wsX10_layKind) B.pre, B.notSynchronized, hK, fun q h => Or.inr h⟩
  have hl := lv_entry ([.ref h, .int p1, .int p2, .int p3, .int p4]) (n := 6) (Nat.le_of_ble_eq_true rfl)
  rw [lg_entry_eq]
  generalize (lg_sl ([.ref h, .int p1, .int p2, .int p3, .int p4]) ++ List.replicate (6 - (lg_sl ([.ref h, .int p1, .int p2, .int p3, .int p4])).length) Slot.unset).toArray = ls at hl ⊢
  exact tX10_layKind_b0 K E p1 p2 p3 p4 u _ _ _ hl hP hD0.self va_S.rf h1
-- X10_begin
theorem inX10_begin_X10 : ∀ w ∈ u_ws RX10 TX10 23, w ∈ wsX10_begin := k_lays 7 rfl
theorem lkX10_begin_7 : Cond.fieldLink RX10 7 "FerryRampModel" "state" "[I" ∈ wsX10_begin := List.mem_of_getElem? (i := 1) rfl
theorem hdX10_layKind : yX10_layKind.cls = RX10 ∧ yX10_layKind.cls ≠ "java/lang/invoke/MethodHandle" ∧ yX10_layKind.cls ≠ "java/lang/invoke/VarHandle" ∧ (parseMethodDescriptor yX10_layKind.desc).map (fun d => d.parameters.length) = some 4 := by decide +kernel
abbrev rmX10_begin : Room := { frames := 1, cells := 0, slots := 0, locals := 25 }
def fX10_begin_b126 (k126 : Int32 × (Nat → Int32) → Option ((Nat → Int32))) (x1 : Int32) (u : Nat → Int32) : Option ((Nat → Int32)) :=
  (if 4 ≤ x1 then some u else bnd (fX10_layKind x1 100 10 (x1 + 1) u) (fun u140 => k126 (x1 + 1, u140)))
set_option maxHeartbeats 4000000 in
set_option maxRecDepth 100000 in
theorem tX10_begin_b126 {p : Program} {l : Launch} {e : Env} {s : State} {m : MethodId} {args : Array Value} {below : List Frame} {meth : Method} {c : Code} {D : va_G} {cy : Nat → ClassId} {A : Nat → Prop} {h : Nat} {a : Nat} {rs : List Value} (K : (Nat → Int32) → Prop) (E : mE D cy RX10 cX10_begin 2 none wsX10_begin A p s m args meth c)
    (k126 : Int32 × (Nat → Int32) → Option ((Nat → Int32))) (hk126 : ∀ (x1 : Int32) (u : Nat → Int32) (H : Heap) (locs : List Loc) (ls : Array Slot), lv_has ls 2 [(0, .ref h), (1, .int x1)] → va_P D vwCl (wM0 cy h a rs u) H → va_D A (wM0 cy h a rs u) → va_S A s.heap H locs → Ok (k126 (x1, u)) K → kW p l e rmX10_begin s m args below meth c H locs (va_Qv K (fun q => kPost D A (wM0 cy h a rs q)) A) A 126 ls [])
     (x1 : Int32) (u : Nat → Int32) (H : Heap) (locs : List Loc) (ls : Array Slot) (hl : lv_has ls 2 [(0, .ref h), (1, .int x1)]) (hP : va_P D vwCl (wM0 cy h a rs u) H) (hD : va_D A (wM0 cy h a rs u)) (hS : va_S A s.heap H locs) (h1 : Ok (fX10_begin_b126 k126 x1 u) K) :
    kW p l e rmX10_begin s m args below meth c H locs (va_Qv K (fun q => kPost D A (wM0 cy h a rs q)) A) A 126 ls [] := by
  obtain ⟨hx, hb, hr, hml, hown, hts, hlocks, hK, hA⟩ := id E
  unfold fX10_begin_b126 at h1
  refine lv_iload_n hx hb dX10_begin_126 rfl (lv_at hl 1 rfl) ?_
  refine lv_iconst (v := 4) hx hb dX10_begin_127 rfl ?_
  refine lv_icmp_ge (tgt := 149) hx hb dX10_begin_128 (by decide) (fun c128 => ?_) (fun c128 => ?_)
  · replace h1 := Ok.pos c128 h1
    exact kret_v hx hb hr hlocks hP hD hS h1 dX10_begin_149
  · replace h1 := Ok.neg c128 h1
    refine lv_aload_n hx hb dX10_begin_131 rfl (lv_at hl 0 rfl) ?_
    refine lv_iload_n hx hb dX10_begin_132 rfl (lv_at hl 1 rfl) ?_
    refine lv_bipush (v := 100) hx hb dX10_begin_133 rfl ?_
    refine lv_bipush (v := 10) hx hb dX10_begin_135 rfl ?_
    refine lv_iload_n hx hb dX10_begin_137 rfl (lv_at hl 1 rfl) ?_
    refine lv_iconst (v := 1) hx hb dX10_begin_138 rfl ?_
    refine lv_iadd hx hb dX10_begin_139 ?_
    refine kc_vV0 (b := h) (As := [.int x1, .int 100, .int 10, .int (x1 + 1)]) (rest := []) h1 ⟨hx, hb, hml, hown, hts⟩ (cX10_layKindM l D cy h a rs H.size u x1 100 10 (x1 + 1)) (cwV 4 hts gX10_begin_X10_layKind rfl rfl rfl hdX10_layKind ⟨Nat.le_of_ble_eq_true rfl, Nat.le_of_ble_eq_true rfl⟩) hK hP hD hS hA (q0 := 0) rfl rfl rfl hl.1 rfl (Nat.le_of_ble_eq_true rfl) dX10_begin_140 ⟨Nat.zero_le _, Nat.zero_le _⟩ (fun u140 H locs h1 hP hD hS => ?_)
    refine lv_iinc (v := x1 + 1) (lv' := [(1, .int (x1 + 1)), (0, .ref h)]) hx hb dX10_begin_143 hl (k := 1) rfl rfl (by decide) rfl (fun ls hl => ?_)
    refine lv_goto (tgt := 126) hx hb dX10_begin_146 (by decide) ?_
    exact hk126 (x1 + 1) u140 H locs ls (lv_sub hl [1, 0] rfl) hP hD hS h1
theorem tX10_begin_l126 {p : Program} {l : Launch} {e : Env} {s : State} {m : MethodId} {args : Array Value} {below : List Frame} {meth : Method} {c : Code} {D : va_G} {cy : Nat → ClassId} {A : Nat → Prop} {h : Nat} {a : Nat} {rs : List Value} (K : (Nat → Int32) → Prop) (E : mE D cy RX10 cX10_begin 2 none wsX10_begin A p s m args meth c) : ∀ (n9 : Nat) (x1 : Int32) (u : Nat → Int32) (H : Heap) (locs : List Loc) (ls : Array Slot), lv_has ls 2 [(0, .ref h), (1, .int x1)] → va_P D vwCl (wM0 cy h a rs u) H → va_D A (wM0 cy h a rs u) → va_S A s.heap H locs → Ok (lop (fun y z => fX10_begin_b126 y z.1 z.2) n9 (x1, u)) K → kW p l e rmX10_begin s m args below meth c H locs (va_Qv K (fun q => kPost D A (wM0 cy h a rs q)) A) A 126 ls [] := by
  intro n9
  induction n9 with
  | zero =>
    intro x1 u H locs ls hl hP hD hS h1
    exact h1.no
  | succ n9 ih =>
    intro x1 u H locs ls hl hP hD hS h1
    exact tX10_begin_b126 K E (lop (fun y z => fX10_begin_b126 y z.1 z.2) n9) (fun x1 u H locs ls hl hP hD hS h1 => ih x1 u H locs ls hl hP hD hS h1) x1 u H locs ls hl hP hD hS h1
def fX10_begin_b2 (k2 : Int32 × (Nat → Int32) → Option ((Nat → Int32))) (x1 : Int32) (u : Nat → Int32) : Option ((Nat → Int32)) :=
  (if 561 ≤ x1 then lop (fun y z => fX10_begin_b126 y z.1 z.2) LF (0, upd (upd (upd (upd (upd (upd (upd (upd (upd (upd (upd (upd u 4 (-1)) 12 1) 17 10) 20 100) 21 10) 22 1000) 23 1000) 24 2) 25 5) 26 2) 27 3) 28 5) else grd (inb x1 561) (k2 (x1 + 1, upd u (ix x1) 0)))
set_option maxHeartbeats 4000000 in
set_option maxRecDepth 100000 in
theorem tX10_begin_b2 {p : Program} {l : Launch} {e : Env} {s : State} {m : MethodId} {args : Array Value} {below : List Frame} {meth : Method} {c : Code} {D : va_G} {cy : Nat → ClassId} {A : Nat → Prop} {h : Nat} {a : Nat} {rs : List Value} (K : (Nat → Int32) → Prop) (E : mE D cy RX10 cX10_begin 2 none wsX10_begin A p s m args meth c)
    (k2 : Int32 × (Nat → Int32) → Option ((Nat → Int32))) (hk2 : ∀ (x1 : Int32) (u : Nat → Int32) (H : Heap) (locs : List Loc) (ls : Array Slot), lv_has ls 2 [(0, .ref h), (1, .int x1)] → va_P D vwCl (wM0 cy h a rs u) H → va_D A (wM0 cy h a rs u) → va_S A s.heap H locs → Ok (k2 (x1, u)) K → kW p l e rmX10_begin s m args below meth c H locs (va_Qv K (fun q => kPost D A (wM0 cy h a rs q)) A) A 2 ls [])
     (x1 : Int32) (u : Nat → Int32) (H : Heap) (locs : List Loc) (ls : Array Slot) (hl : lv_has ls 2 [(0, .ref h), (1, .int x1)]) (hP : va_P D vwCl (wM0 cy h a rs u) H) (hD : va_D A (wM0 cy h a rs u)) (hS : va_S A s.heap H locs) (h1 : Ok (fX10_begin_b2 k2 x1 u) K) :
    kW p l e rmX10_begin s m args below meth c H locs (va_Qv K (fun q => kPost D A (wM0 cy h a rs q)) A) A 2 ls [] := by
  obtain ⟨hx, hb, hr, hml, hown, hts, hlocks, hK, hA⟩ := id E
  unfold fX10_begin_b2 at h1
  refine lv_iload_n hx hb dX10_begin_2 rfl (lv_at hl 1 rfl) ?_
  refine lv_sipush (v := 561) hx hb dX10_begin_3 rfl ?_
  refine lv_icmp_ge (tgt := 22) hx hb dX10_begin_6 (by decide) (fun c6 => ?_) (fun c6 => ?_)
  · replace h1 := Ok.pos c6 h1
    refine lv_aload_n hx hb dX10_begin_22 rfl (lv_at hl 0 rfl) ?_
    refine k_get (v := .ref a) (C := RX10) (T := TX10) (N := 23) hx hb hts inX10_begin_X10 hown hK hP 0 (wM0_a0 _ _ _ _ _) rfl 0 (by decide) lkX10_begin_7 (m0Fs_0 _ _) dX10_begin_23 ?_
    refine lv_iconst (v := 4) hx hb dX10_begin_26 rfl ?_
    refine lv_iconst (v := (-1)) hx hb dX10_begin_27 rfl ?_
    refine k_iast (k := 4) (ws' := wM0 cy h a rs (upd u 4 (-1))) hx hb hK hP hD hS 1 (wM0_a1 _ _ _ _ _) rfl rfl (wM0_upd _ _ _ _ _ _ _) dX10_begin_28 (fun H locs hP hD hS => ?_)
    refine lv_aload_n hx hb dX10_begin_29 rfl (lv_at hl 0 rfl) ?_
    refine k_get (v := .ref a) (C := RX10) (T := TX10) (N := 23) hx hb hts inX10_begin_X10 hown hK hP 0 (wM0_a0 _ _ _ _ _) rfl 0 (by decide) lkX10_begin_7 (m0Fs_0 _ _) dX10_begin_30 ?_
    refine lv_bipush (v := 12) hx hb dX10_begin_33 rfl ?_
    refine lv_iconst (v := 1) hx hb dX10_begin_35 rfl ?_
    refine k_iast (k := 12) (ws' := wM0 cy h a rs (upd (upd u 4 (-1)) 12 1)) hx hb hK hP hD hS 1 (wM0_a1 _ _ _ _ _) rfl rfl (wM0_upd _ _ _ _ _ _ _) dX10_begin_36 (fun H locs hP hD hS => ?_)
    refine lv_aload_n hx hb dX10_begin_37 rfl (lv_at hl 0 rfl) ?_
    refine k_get (v := .ref a) (C := RX10) (T := TX10) (N := 23) hx hb hts inX10_begin_X10 hown hK hP 0 (wM0_a0 _ _ _ _ _) rfl 0 (by decide) lkX10_begin_7 (m0Fs_0 _ _) dX10_begin_38 ?_
    refine lv_bipush (v := 17) hx hb dX10_begin_41 rfl ?_
    refine lv_bipush (v := 10) hx hb dX10_begin_43 rfl ?_
    refine k_iast (k := 17) (ws' := wM0 cy h a rs (upd (upd (upd u 4 (-1)) 12 1) 17 10)) hx hb hK hP hD hS 1 (wM0_a1 _ _ _ _ _) rfl rfl (wM0_upd _ _ _ _ _ _ _) dX10_begin_45 (fun H locs hP hD hS => ?_)
    refine lv_aload_n hx hb dX10_begin_46 rfl (lv_at hl 0 rfl) ?_
    refine k_get (v := .ref a) (C := RX10) (T := TX10) (N := 23) hx hb hts inX10_begin_X10 hown hK hP 0 (wM0_a0 _ _ _ _ _) rfl 0 (by decide) lkX10_begin_7 (m0Fs_0 _ _) dX10_begin_47 ?_
    refine lv_bipush (v := 20) hx hb dX10_begin_50 rfl ?_
    refine lv_bipush (v := 100) hx hb dX10_begin_52 rfl ?_
    refine k_iast (k := 20) (ws' := wM0 cy h a rs (upd (upd (upd (upd u 4 (-1)) 12 1) 17 10) 20 100)) hx hb hK hP hD hS 1 (wM0_a1 _ _ _ _ _) rfl rfl (wM0_upd _ _ _ _ _ _ _) dX10_begin_54 (fun H locs hP hD hS => ?_)
    refine lv_aload_n hx hb dX10_begin_55 rfl (lv_at hl 0 rfl) ?_
    refine k_get (v := .ref a) (C := RX10) (T := TX10) (N := 23) hx hb hts inX10_begin_X10 hown hK hP 0 (wM0_a0 _ _ _ _ _) rfl 0 (by decide) lkX10_begin_7 (m0Fs_0 _ _) dX10_begin_56 ?_
    refine lv_bipush (v := 21) hx hb dX10_begin_59 rfl ?_
    refine lv_bipush (v := 10) hx hb dX10_begin_61 rfl ?_
    refine k_iast (k := 21) (ws' := wM0 cy h a rs (upd (upd (upd (upd (upd u 4 (-1)) 12 1) 17 10) 20 100) 21 10)) hx hb hK hP hD hS 1 (wM0_a1 _ _ _ _ _) rfl rfl (wM0_upd _ _ _ _ _ _ _) dX10_begin_63 (fun H locs hP hD hS => ?_)
    refine lv_aload_n hx hb dX10_begin_64 rfl (lv_at hl 0 rfl) ?_
    refine k_get (v := .ref a) (C := RX10) (T := TX10) (N := 23) hx hb hts inX10_begin_X10 hown hK hP 0 (wM0_a0 _ _ _ _ _) rfl 0 (by decide) lkX10_begin_7 (m0Fs_0 _ _) dX10_begin_65 ?_
    refine lv_bipush (v := 22) hx hb dX10_begin_68 rfl ?_
    refine lv_sipush (v := 1000) hx hb dX10_begin_70 rfl ?_
    refine k_iast (k := 22) (ws' := wM0 cy h a rs (upd (upd (upd (upd (upd (upd u 4 (-1)) 12 1) 17 10) 20 100) 21 10) 22 1000)) hx hb hK hP hD hS 1 (wM0_a1 _ _ _ _ _) rfl rfl (wM0_upd _ _ _ _ _ _ _) dX10_begin_73 (fun H locs hP hD hS => ?_)
    refine lv_aload_n hx hb dX10_begin_74 rfl (lv_at hl 0 rfl) ?_
    refine k_get (v := .ref a) (C := RX10) (T := TX10) (N := 23) hx hb hts inX10_begin_X10 hown hK hP 0 (wM0_a0 _ _ _ _ _) rfl 0 (by decide) lkX10_begin_7 (m0Fs_0 _ _) dX10_begin_75 ?_
    refine lv_bipush (v := 23) hx hb dX10_begin_78 rfl ?_
    refine lv_sipush (v := 1000) hx hb dX10_begin_80 rfl ?_
    refine k_iast (k := 23) (ws' := wM0 cy h a rs (upd (upd (upd (upd (upd (upd (upd u 4 (-1)) 12 1) 17 10) 20 100) 21 10) 22 1000) 23 1000)) hx hb hK hP hD hS 1 (wM0_a1 _ _ _ _ _) rfl rfl (wM0_upd _ _ _ _ _ _ _) dX10_begin_83 (fun H locs hP hD hS => ?_)
    refine lv_aload_n hx hb dX10_begin_84 rfl (lv_at hl 0 rfl) ?_
    refine k_get (v := .ref a) (C := RX10) (T := TX10) (N := 23) hx hb hts inX10_begin_X10 hown hK hP 0 (wM0_a0 _ _ _ _ _) rfl 0 (by decide) lkX10_begin_7 (m0Fs_0 _ _) dX10_begin_85 ?_
    refine lv_bipush (v := 24) hx hb dX10_begin_88 rfl ?_
    refine lv_iconst (v := 2) hx hb dX10_begin_90 rfl ?_
    refine k_iast (k := 24) (ws' := wM0 cy h a rs (upd (upd (upd (upd (upd (upd (upd (upd u 4 (-1)) 12 1) 17 10) 20 100) 21 10) 22 1000) 23 1000) 24 2)) hx hb hK hP hD hS 1 (wM0_a1 _ _ _ _ _) rfl rfl (wM0_upd _ _ _ _ _ _ _) dX10_begin_91 (fun H locs hP hD hS => ?_)
    refine lv_aload_n hx hb dX10_begin_92 rfl (lv_at hl 0 rfl) ?_
    refine k_get (v := .ref a) (C := RX10) (T := TX10) (N := 23) hx hb hts inX10_begin_X10 hown hK hP 0 (wM0_a0 _ _ _ _ _) rfl 0 (by decide) lkX10_begin_7 (m0Fs_0 _ _) dX10_begin_93 ?_
    refine lv_bipush (v := 25) hx hb dX10_begin_96 rfl ?_
    refine lv_iconst (v := 5) hx hb dX10_begin_98 rfl ?_
    refine k_iast (k := 25) (ws' := wM0 cy h a rs (upd (upd (upd (upd (upd (upd (upd (upd (upd u 4 (-1)) 12 1) 17 10) 20 100) 21 10) 22 1000) 23 1000) 24 2) 25 5)) hx hb hK hP hD hS 1 (wM0_a1 _ _ _ _ _) rfl rfl (wM0_upd _ _ _ _ _ _ _) dX10_begin_99 (fun H locs hP hD hS => ?_)
    refine lv_aload_n hx hb dX10_begin_100 rfl (lv_at hl 0 rfl) ?_
    refine k_get (v := .ref a) (C := RX10) (T := TX10) (N := 23) hx hb hts inX10_begin_X10 hown hK hP 0 (wM0_a0 _ _ _ _ _) rfl 0 (by decide) lkX10_begin_7 (m0Fs_0 _ _) dX10_begin_101 ?_
    refine lv_bipush (v := 26) hx hb dX10_begin_104 rfl ?_
    refine lv_iconst (v := 2) hx hb dX10_begin_106 rfl ?_
    refine k_iast (k := 26) (ws' := wM0 cy h a rs (upd (upd (upd (upd (upd (upd (upd (upd (upd (upd u 4 (-1)) 12 1) 17 10) 20 100) 21 10) 22 1000) 23 1000) 24 2) 25 5) 26 2)) hx hb hK hP hD hS 1 (wM0_a1 _ _ _ _ _) rfl rfl (wM0_upd _ _ _ _ _ _ _) dX10_begin_107 (fun H locs hP hD hS => ?_)
    refine lv_aload_n hx hb dX10_begin_108 rfl (lv_at hl 0 rfl) ?_
    refine k_get (v := .ref a) (C := RX10) (T := TX10) (N := 23) hx hb hts inX10_begin_X10 hown hK hP 0 (wM0_a0 _ _ _ _ _) rfl 0 (by decide) lkX10_begin_7 (m0Fs_0 _ _) dX10_begin_109 ?_
    refine lv_bipush (v := 27) hx hb dX10_begin_112 rfl ?_
    refine lv_iconst (v := 3) hx hb dX10_begin_114 rfl ?_
    refine k_iast (k := 27) (ws' := wM0 cy h a rs (upd (upd (upd (upd (upd (upd (upd (upd (upd (upd (upd u 4 (-1)) 12 1) 17 10) 20 100) 21 10) 22 1000) 23 1000) 24 2) 25 5) 26 2) 27 3)) hx hb hK hP hD hS 1 (wM0_a1 _ _ _ _ _) rfl rfl (wM0_upd _ _ _ _ _ _ _) dX10_begin_115 (fun H locs hP hD hS => ?_)
    refine lv_aload_n hx hb dX10_begin_116 rfl (lv_at hl 0 rfl) ?_
    refine k_get (v := .ref a) (C := RX10) (T := TX10) (N := 23) hx hb hts inX10_begin_X10 hown hK hP 0 (wM0_a0 _ _ _ _ _) rfl 0 (by decide) lkX10_begin_7 (m0Fs_0 _ _) dX10_begin_117 ?_
    refine lv_bipush (v := 28) hx hb dX10_begin_120 rfl ?_
    refine lv_iconst (v := 5) hx hb dX10_begin_122 rfl ?_
    refine k_iast (k := 28) (ws' := wM0 cy h a rs (upd (upd (upd (upd (upd (upd (upd (upd (upd (upd (upd (upd u 4 (-1)) 12 1) 17 10) 20 100) 21 10) 22 1000) 23 1000) 24 2) 25 5) 26 2) 27 3) 28 5)) hx hb hK hP hD hS 1 (wM0_a1 _ _ _ _ _) rfl rfl (wM0_upd _ _ _ _ _ _ _) dX10_begin_123 (fun H locs hP hD hS => ?_)
    refine lv_iconst (v := 0) hx hb dX10_begin_124 rfl ?_
    refine lv_istore_n (lv' := [(1, .int 0), (0, .ref h)]) hx hb dX10_begin_125 rfl hl (by decide) rfl (fun ls hl => ?_)
    exact tX10_begin_l126 K E LF 0 (upd (upd (upd (upd (upd (upd (upd (upd (upd (upd (upd (upd u 4 (-1)) 12 1) 17 10) 20 100) 21 10) 22 1000) 23 1000) 24 2) 25 5) 26 2) 27 3) 28 5) H locs ls (lv_sub hl [1, 0] rfl) hP hD hS h1
  · replace h1 := Ok.neg c6 h1
    refine lv_aload_n hx hb dX10_begin_9 rfl (lv_at hl 0 rfl) ?_
    refine k_get (v := .ref a) (C := RX10) (T := TX10) (N := 23) hx hb hts inX10_begin_X10 hown hK hP 0 (wM0_a0 _ _ _ _ _) rfl 0 (by decide) lkX10_begin_7 (m0Fs_0 _ _) dX10_begin_10 ?_
    refine lv_iload_n hx hb dX10_begin_13 rfl (lv_at hl 1 rfl) ?_
    refine lv_iconst (v := 0) hx hb dX10_begin_14 rfl ?_
    have g15 := h1.grd1
    replace h1 := h1.grd2
    refine k_iast (k := (ix x1)) (ws' := wM0 cy h a rs (upd u (ix x1) 0)) hx hb hK hP hD hS 1 (wM0_a1 _ _ _ _ _) g15 rfl (wM0_upd _ _ _ _ _ _ _) dX10_begin_15 (fun H locs hP hD hS => ?_)
    refine lv_iinc (v := x1 + 1) (lv' := [(1, .int (x1 + 1)), (0, .ref h)]) hx hb dX10_begin_16 hl (k := 1) rfl rfl (by decide) rfl (fun ls hl => ?_)
    refine lv_goto (tgt := 2) hx hb dX10_begin_19 (by decide) ?_
    exact hk2 (x1 + 1) (upd u (ix x1) 0) H locs ls (lv_sub hl [1, 0] rfl) hP hD hS h1
theorem tX10_begin_l2 {p : Program} {l : Launch} {e : Env} {s : State} {m : MethodId} {args : Array Value} {below : List Frame} {meth : Method} {c : Code} {D : va_G} {cy : Nat → ClassId} {A : Nat → Prop} {h : Nat} {a : Nat} {rs : List Value} (K : (Nat → Int32) → Prop) (E : mE D cy RX10 cX10_begin 2 none wsX10_begin A p s m args meth c) : ∀ (n9 : Nat) (x1 : Int32) (u : Nat → Int32) (H : Heap) (locs : List Loc) (ls : Array Slot), lv_has ls 2 [(0, .ref h), (1, .int x1)] → va_P D vwCl (wM0 cy h a rs u) H → va_D A (wM0 cy h a rs u) → va_S A s.heap H locs → Ok (lop (fun y z => fX10_begin_b2 y z.1 z.2) n9 (x1, u)) K → kW p l e rmX10_begin s m args below meth c H locs (va_Qv K (fun q => kPost D A (wM0 cy h a rs q)) A) A 2 ls [] := by
  intro n9
  induction n9 with
  | zero =>
    intro x1 u H locs ls hl hP hD hS h1
    exact h1.no
  | succ n9 ih =>
    intro x1 u H locs ls hl hP hD hS h1
    exact tX10_begin_b2 K E (lop (fun y z => fX10_begin_b2 y z.1 z.2) n9) (fun x1 u H locs ls hl hP hD hS h1 => ih x1 u H locs ls hl hP hD hS h1) x1 u H locs ls hl hP hD hS h1
def fX10_begin_b0 (u : Nat → Int32) : Option ((Nat → Int32)) :=
  lop (fun y z => fX10_begin_b2 y z.1 z.2) LF (0, u)
set_option maxHeartbeats 4000000 in
set_option maxRecDepth 100000 in
theorem tX10_begin_b0 {p : Program} {l : Launch} {e : Env} {s : State} {m : MethodId} {args : Array Value} {below : List Frame} {meth : Method} {c : Code} {D : va_G} {cy : Nat → ClassId} {A : Nat → Prop} {h : Nat} {a : Nat} {rs : List Value} (K : (Nat → Int32) → Prop) (E : mE D cy RX10 cX10_begin 2 none wsX10_begin A p s m args meth c)
     (u : Nat → Int32) (H : Heap) (locs : List Loc) (ls : Array Slot) (hl : lv_has ls 2 [(0, .ref h)]) (hP : va_P D vwCl (wM0 cy h a rs u) H) (hD : va_D A (wM0 cy h a rs u)) (hS : va_S A s.heap H locs) (h1 : Ok (fX10_begin_b0 u) K) :
    kW p l e rmX10_begin s m args below meth c H locs (va_Qv K (fun q => kPost D A (wM0 cy h a rs q)) A) A 0 ls [] := by
  obtain ⟨hx, hb, hr, hml, hown, hts, hlocks, hK, hA⟩ := id E
  unfold fX10_begin_b0 at h1
  refine lv_iconst (v := 0) hx hb dX10_begin_0 rfl ?_
  refine lv_istore_n (lv' := [(1, .int 0), (0, .ref h)]) hx hb dX10_begin_1 rfl hl (by decide) rfl (fun ls hl => ?_)
  exact tX10_begin_l2 K E LF 0 u H locs ls (lv_sub hl [1, 0] rfl) hP hD hS h1
def fX10_begin (u : Nat → Int32) : Option ((Nat → Int32)) := fX10_begin_b0 u
set_option maxHeartbeats 4000000 in
set_option maxRecDepth 100000 in
theorem cX10_beginM (l : Launch) (D : va_G) (cy : Nat → ClassId) (h : Nat) (a : Nat) (rs : List Value) (sz : Nat) (u : Nat → Int32) : ∀ (K : (Nat → Int32) → Prop), Ok (fX10_begin u) K → Met l yX10_begin wsX10_begin rmX10_begin (va_Pc [.ref h] (kPre D cy sz (wM0 cy h a rs u))) (va_Qv K (fun q => kPost D (va_A (wM0 cy h a rs u) sz) (wM0 cy h a rs q)) (va_A (wM0 cy h a rs u) sz)) 0 0 (va_A (wM0 cy h a rs u) sz) := by
  intro K h1
  refine Met.ofW (cc := cX10_begin) (maxL := 2) (ret := none) (by decide) rfl ?_
  intro p e s m args below meth c s₁ B hml hv
  obtain ⟨rfl, hsz, hP, hK, hD0⟩ := hv
  subst hsz
  have E : mE D cy RX10 cX10_begin 2 none wsX10_begin (va_A (wM0 cy h a rs u) s.heap.size) p s m _ meth c := ⟨B.exec, B.bytes, B.returns, hml, findClass_of_methodNamed B.named, atoms_spec (ws := wsX10_begin) B.pre, B.notSynchronized, hK, fun q h => Or.inr h⟩
  have hl := lv_entry ([.ref h]) (n := 2) (Nat.le_of_ble_eq_true rfl)
  rw [lg_entry_eq]
  generalize (lg_sl ([.ref h]) ++ List.replicate (2 - (lg_sl ([.ref h])).length) Slot.unset).toArray = ls at hl ⊢
  exact tX10_begin_b0 K E u _ _ _ hl hP hD0.self va_S.rf h1
-- X10_ofCar
theorem inX10_ofCar_X10 : ∀ w ∈ u_ws RX10 TX10 23, w ∈ wsX10_ofCar := k_lays 2 rfl
theorem lkX10_ofCar_7 : Cond.fieldLink RX10 7 "FerryRampModel" "state" "[I" ∈ wsX10_ofCar := List.mem_of_getElem? (i := 1) rfl
abbrev rmX10_ofCar : Room := { frames := 0, cells := 0, slots := 0, locals := 0 }
def fX10_ofCar_b0 (x1 : Int32) (x2 : Int32) (u : Nat → Int32) : Option (Int32) :=
  grd (inb ((61 + (7 * x1)) + x2) 561) (some (u (ix ((61 + (7 * x1)) + x2))))
set_option maxHeartbeats 4000000 in
set_option maxRecDepth 100000 in
theorem tX10_ofCar_b0 {p : Program} {l : Launch} {e : Env} {s : State} {m : MethodId} {args : Array Value} {below : List Frame} {meth : Method} {c : Code} {D : va_G} {cy : Nat → ClassId} {A : Nat → Prop} {h : Nat} {a : Nat} {rs : List Value} (K : Int32 → Prop) (E : mE D cy RX10 cX10_ofCar 3 (some .int) wsX10_ofCar A p s m args meth c) (u : Nat → Int32)
     (x1 : Int32) (x2 : Int32) (H : Heap) (locs : List Loc) (ls : Array Slot) (hl : lv_has ls 3 [(0, .ref h), (1, .int x1), (2, .int x2)]) (hP : va_P D vwCl (wM0 cy h a rs u) H) (hD : va_D A (wM0 cy h a rs u)) (hS : va_S A s.heap H locs) (h1 : Ok (fX10_ofCar_b0 x1 x2 u) K) :
    kW p l e rmX10_ofCar s m args below meth c H locs (va_Qi (fun r (_ : Unit) => K r) (fun _ => kPost D A (wM0 cy h a rs u)) A) A 0 ls [] := by
  obtain ⟨hx, hb, hr, hml, hown, hts, hlocks, hK, hA⟩ := id E
  unfold fX10_ofCar_b0 at h1
  refine lv_aload_n hx hb dX10_ofCar_0 rfl (lv_at hl 0 rfl) ?_
  refine k_get (v := .ref a) (C := RX10) (T := TX10) (N := 23) hx hb hts inX10_ofCar_X10 hown hK hP 0 (wM0_a0 _ _ _ _ _) rfl 0 (by decide) lkX10_ofCar_7 (m0Fs_0 _ _) dX10_ofCar_1 ?_
  refine lv_bipush (v := 61) hx hb dX10_ofCar_4 rfl ?_
  refine lv_bipush (v := 7) hx hb dX10_ofCar_6 rfl ?_
  refine lv_iload_n hx hb dX10_ofCar_8 rfl (lv_at hl 1 rfl) ?_
  refine lv_imul hx hb dX10_ofCar_9 ?_
  refine lv_iadd hx hb dX10_ofCar_10 ?_
  refine lv_iload_n hx hb dX10_ofCar_11 rfl (lv_at hl 2 rfl) ?_
  refine lv_iadd hx hb dX10_ofCar_12 ?_
  have g13 := h1.grd1
  replace h1 := h1.grd2
  refine k_iald (k := (ix ((61 + (7 * x1)) + x2))) hx hb hK hP 1 (wM0_a1 _ _ _ _ _) g13 rfl dX10_ofCar_13 ?_
  exact kret_r hx hb hr hlocks hP hD hS h1 dX10_ofCar_14
def fX10_ofCar (p1 : Int32) (p2 : Int32) (u : Nat → Int32) : Option (Int32) := fX10_ofCar_b0 p1 p2 u
set_option maxHeartbeats 4000000 in
set_option maxRecDepth 100000 in
theorem cX10_ofCarM (l : Launch) (D : va_G) (cy : Nat → ClassId) (h : Nat) (a : Nat) (rs : List Value) (sz : Nat) (u : Nat → Int32) (p1 : Int32) (p2 : Int32) : ∀ (K : Int32 → Prop), Ok (fX10_ofCar p1 p2 u) K → Met l yX10_ofCar wsX10_ofCar rmX10_ofCar (va_Pc [.ref h, .int p1, .int p2] (kPre D cy sz (wM0 cy h a rs u))) (va_Qi (fun r (_ : Unit) => K r) (fun _ => kPost D (va_A (wM0 cy h a rs u) sz) (wM0 cy h a rs u)) (va_A (wM0 cy h a rs u) sz)) 0 0 (va_A (wM0 cy h a rs u) sz) := by
  intro K h1
  refine Met.ofW (cc := cX10_ofCar) (maxL := 3) (ret := (some .int)) (by decide) rfl ?_
  intro p e s m args below meth c s₁ B hml hv
  obtain ⟨rfl, hsz, hP, hK, hD0⟩ := hv
  subst hsz
  have E : mE D cy RX10 cX10_ofCar 3 (some .int) wsX10_ofCar (va_A (wM0 cy h a rs u) s.heap.size) p s m _ meth c := ⟨B.exec, B.bytes, B.returns, hml, findClass_of_methodNamed B.named, atoms_spec (ws := wsX10_ofCar) B.pre, B.notSynchronized, hK, fun q h => Or.inr h⟩
  have hl := lv_entry ([.ref h, .int p1, .int p2]) (n := 3) (Nat.le_of_ble_eq_true rfl)
  rw [lg_entry_eq]
  generalize (lg_sl ([.ref h, .int p1, .int p2]) ++ List.replicate (3 - (lg_sl ([.ref h, .int p1, .int p2])).length) Slot.unset).toArray = ls at hl ⊢
  exact tX10_ofCar_b0 K E u p1 p2 _ _ _ hl hP hD0.self va_S.rf h1
-- X10_layCar
theorem inX10_layCar_X10 : ∀ w ∈ u_ws RX10 TX10 23, w ∈ wsX10_layCar := k_lays 2 rfl
theorem lkX10_layCar_7 : Cond.fieldLink RX10 7 "FerryRampModel" "state" "[I" ∈ wsX10_layCar := List.mem_of_getElem? (i := 1) rfl
abbrev rmX10_layCar : Room := { frames := 0, cells := 0, slots := 0, locals := 0 }
def fX10_layCar_b0 (x1 : Int32) (x2 : Int32) (x3 : Int32) (u : Nat → Int32) : Option ((Nat → Int32)) :=
  grd (inb ((61 + (7 * x1)) + x2) 561) (some (upd u (ix ((61 + (7 * x1)) + x2)) x3))
set_option maxHeartbeats 4000000 in
set_option maxRecDepth 100000 in
theorem tX10_layCar_b0 {p : Program} {l : Launch} {e : Env} {s : State} {m : MethodId} {args : Array Value} {below : List Frame} {meth : Method} {c : Code} {D : va_G} {cy : Nat → ClassId} {A : Nat → Prop} {h : Nat} {a : Nat} {rs : List Value} (K : (Nat → Int32) → Prop) (E : mE D cy RX10 cX10_layCar 4 none wsX10_layCar A p s m args meth c)
     (x1 : Int32) (x2 : Int32) (x3 : Int32) (u : Nat → Int32) (H : Heap) (locs : List Loc) (ls : Array Slot) (hl : lv_has ls 4 [(0, .ref h), (1, .int x1), (2, .int x2), (3, .int x3)]) (hP : va_P D vwCl (wM0 cy h a rs u) H) (hD : va_D A (wM0 cy h a rs u)) (hS : va_S A s.heap H locs) (h1 : Ok (fX10_layCar_b0 x1 x2 x3 u) K) :
    kW p l e rmX10_layCar s m args below meth c H locs (va_Qv K (fun q => kPost D A (wM0 cy h a rs q)) A) A 0 ls [] := by
  obtain ⟨hx, hb, hr, hml, hown, hts, hlocks, hK, hA⟩ := id E
  unfold fX10_layCar_b0 at h1
  refine lv_aload_n hx hb dX10_layCar_0 rfl (lv_at hl 0 rfl) ?_
  refine k_get (v := .ref a) (C := RX10) (T := TX10) (N := 23) hx hb hts inX10_layCar_X10 hown hK hP 0 (wM0_a0 _ _ _ _ _) rfl 0 (by decide) lkX10_layCar_7 (m0Fs_0 _ _) dX10_layCar_1 ?_
  refine lv_bipush (v := 61) hx hb dX10_layCar_4 rfl ?_
  refine lv_bipush (v := 7) hx hb dX10_layCar_6 rfl ?_
  refine lv_iload_n hx hb dX10_layCar_8 rfl (lv_at hl 1 rfl) ?_
  refine lv_imul hx hb dX10_layCar_9 ?_
  refine lv_iadd hx hb dX10_layCar_10 ?_
  refine lv_iload_n hx hb dX10_layCar_11 rfl (lv_at hl 2 rfl) ?_
  refine lv_iadd hx hb dX10_layCar_12 ?_
  refine lv_iload_n hx hb dX10_layCar_13 rfl (lv_at hl 3 rfl) ?_
  have g14 := h1.grd1
  replace h1 := h1.grd2
  refine k_iast (k := (ix ((61 + (7 * x1)) + x2))) (ws' := wM0 cy h a rs (upd u (ix ((61 + (7 * x1)) + x2)) x3)) hx hb hK hP hD hS 1 (wM0_a1 _ _ _ _ _) g14 rfl (wM0_upd _ _ _ _ _ _ _) dX10_layCar_14 (fun H locs hP hD hS => ?_)
  exact kret_v hx hb hr hlocks hP hD hS h1 dX10_layCar_15
def fX10_layCar (p1 : Int32) (p2 : Int32) (p3 : Int32) (u : Nat → Int32) : Option ((Nat → Int32)) := fX10_layCar_b0 p1 p2 p3 u
set_option maxHeartbeats 4000000 in
set_option maxRecDepth 100000 in
theorem cX10_layCarM (l : Launch) (D : va_G) (cy : Nat → ClassId) (h : Nat) (a : Nat) (rs : List Value) (sz : Nat) (u : Nat → Int32) (p1 : Int32) (p2 : Int32) (p3 : Int32) : ∀ (K : (Nat → Int32) → Prop), Ok (fX10_layCar p1 p2 p3 u) K → Met l yX10_layCar wsX10_layCar rmX10_layCar (va_Pc [.ref h, .int p1, .int p2, .int p3] (kPre D cy sz (wM0 cy h a rs u))) (va_Qv K (fun q => kPost D (va_A (wM0 cy h a rs u) sz) (wM0 cy h a rs q)) (va_A (wM0 cy h a rs u) sz)) 0 0 (va_A (wM0 cy h a rs u) sz) := by
  intro K h1
  refine Met.ofW (cc := cX10_layCar) (maxL := 4) (ret := none) (by decide) rfl ?_
  intro p e s m args below meth c s₁ B hml hv
  obtain ⟨rfl, hsz, hP, hK, hD0⟩ := hv
  subst hsz
  have E : mE D cy RX10 cX10_layCar 4 none wsX10_layCar (va_A (wM0 cy h a rs u) s.heap.size) p s m _ meth c := ⟨B.exec, B.bytes, B.returns, hml, findClass_of_methodNamed B.named, atoms_spec (ws := wsX10_layCar) B.pre, B.notSynchronized, hK, fun q h => Or.inr h⟩
  have hl := lv_entry ([.ref h, .int p1, .int p2, .int p3]) (n := 4) (Nat.le_of_ble_eq_true rfl)
  rw [lg_entry_eq]
  generalize (lg_sl ([.ref h, .int p1, .int p2, .int p3]) ++ List.replicate (4 - (lg_sl ([.ref h, .int p1, .int p2, .int p3])).length) Slot.unset).toArray = ls at hl ⊢
  exact tX10_layCar_b0 K E p1 p2 p3 u _ _ _ hl hP hD0.self va_S.rf h1
-- X10_kindOf
theorem hdX10_ofCar : yX10_ofCar.cls = RX10 ∧ yX10_ofCar.cls ≠ "java/lang/invoke/MethodHandle" ∧ yX10_ofCar.cls ≠ "java/lang/invoke/VarHandle" ∧ (parseMethodDescriptor yX10_ofCar.desc).map (fun d => d.parameters.length) = some 2 := by decide +kernel
theorem hdX10_ofKind : yX10_ofKind.cls = RX10 ∧ yX10_ofKind.cls ≠ "java/lang/invoke/MethodHandle" ∧ yX10_ofKind.cls ≠ "java/lang/invoke/VarHandle" ∧ (parseMethodDescriptor yX10_ofKind.desc).map (fun d => d.parameters.length) = some 2 := by decide +kernel
abbrev rmX10_kindOf : Room := { frames := 1, cells := 0, slots := 0, locals := 22 }
def fX10_kindOf_b0 (x1 : Int32) (x2 : Int32) (u : Nat → Int32) : Option (Int32) :=
  bnd (fX10_ofCar x1 0 u) (fun r4 => bnd (fX10_ofKind r4 x2 u) (fun r8 => some r8))
set_option maxHeartbeats 4000000 in
set_option maxRecDepth 100000 in
theorem tX10_kindOf_b0 {p : Program} {l : Launch} {e : Env} {s : State} {m : MethodId} {args : Array Value} {below : List Frame} {meth : Method} {c : Code} {D : va_G} {cy : Nat → ClassId} {A : Nat → Prop} {h : Nat} {a : Nat} {rs : List Value} (K : Int32 → Prop) (E : mE D cy RX10 cX10_kindOf 3 (some .int) wsX10_kindOf A p s m args meth c) (u : Nat → Int32)
     (x1 : Int32) (x2 : Int32) (H : Heap) (locs : List Loc) (ls : Array Slot) (hl : lv_has ls 3 [(0, .ref h), (1, .int x1), (2, .int x2)]) (hP : va_P D vwCl (wM0 cy h a rs u) H) (hD : va_D A (wM0 cy h a rs u)) (hS : va_S A s.heap H locs) (h1 : Ok (fX10_kindOf_b0 x1 x2 u) K) :
    kW p l e rmX10_kindOf s m args below meth c H locs (va_Qi (fun r (_ : Unit) => K r) (fun _ => kPost D A (wM0 cy h a rs u)) A) A 0 ls [] := by
  obtain ⟨hx, hb, hr, hml, hown, hts, hlocks, hK, hA⟩ := id E
  unfold fX10_kindOf_b0 at h1
  refine lv_aload_n hx hb dX10_kindOf_0 rfl (lv_at hl 0 rfl) ?_
  refine lv_aload_n hx hb dX10_kindOf_1 rfl (lv_at hl 0 rfl) ?_
  refine lv_iload_n hx hb dX10_kindOf_2 rfl (lv_at hl 1 rfl) ?_
  refine lv_iconst (v := 0) hx hb dX10_kindOf_3 rfl ?_
  refine kc_rV0 (b := h) (As := [.int x1, .int 0]) (rest := [.ref h]) h1 ⟨hx, hb, hml, hown, hts⟩ (cX10_ofCarM l D cy h a rs H.size u x1 0) (cwV 2 hts gX10_kindOf_X10_ofCar rfl rfl rfl hdX10_ofCar ⟨Nat.le_of_ble_eq_true rfl, Nat.le_of_ble_eq_true rfl⟩) hK hP hD hS hA (q0 := 0) rfl rfl rfl hl.1 rfl (Nat.le_of_ble_eq_true rfl) dX10_kindOf_4 ⟨Nat.zero_le _, Nat.zero_le _⟩ (fun r4 H locs h1 hP hS => ?_)
  refine lv_iload_n hx hb dX10_kindOf_7 rfl (lv_at hl 2 rfl) ?_
  refine kc_rV0 (b := h) (As := [.int r4, .int x2]) (rest := []) h1 ⟨hx, hb, hml, hown, hts⟩ (cX10_ofKindM l D cy h a rs H.size u r4 x2) (cwV 2 hts gX10_kindOf_X10_ofKind rfl rfl rfl hdX10_ofKind ⟨Nat.le_of_ble_eq_true rfl, Nat.le_of_ble_eq_true rfl⟩) hK hP hD hS hA (q0 := 0) rfl rfl rfl hl.1 rfl (Nat.le_of_ble_eq_true rfl) dX10_kindOf_8 ⟨Nat.zero_le _, Nat.zero_le _⟩ (fun r8 H locs h1 hP hS => ?_)
  exact kret_r hx hb hr hlocks hP hD hS h1 dX10_kindOf_11
def fX10_kindOf (p1 : Int32) (p2 : Int32) (u : Nat → Int32) : Option (Int32) := fX10_kindOf_b0 p1 p2 u
set_option maxHeartbeats 4000000 in
set_option maxRecDepth 100000 in
theorem cX10_kindOfM (l : Launch) (D : va_G) (cy : Nat → ClassId) (h : Nat) (a : Nat) (rs : List Value) (sz : Nat) (u : Nat → Int32) (p1 : Int32) (p2 : Int32) : ∀ (K : Int32 → Prop), Ok (fX10_kindOf p1 p2 u) K → Met l yX10_kindOf wsX10_kindOf rmX10_kindOf (va_Pc [.ref h, .int p1, .int p2] (kPre D cy sz (wM0 cy h a rs u))) (va_Qi (fun r (_ : Unit) => K r) (fun _ => kPost D (va_A (wM0 cy h a rs u) sz) (wM0 cy h a rs u)) (va_A (wM0 cy h a rs u) sz)) 0 0 (va_A (wM0 cy h a rs u) sz) := by
  intro K h1
  refine Met.ofW (cc := cX10_kindOf) (maxL := 3) (ret := (some .int)) (by decide) rfl ?_
  intro p e s m args below meth c s₁ B hml hv
  obtain ⟨rfl, hsz, hP, hK, hD0⟩ := hv
  subst hsz
  have E : mE D cy RX10 cX10_kindOf 3 (some .int) wsX10_kindOf (va_A (wM0 cy h a rs u) s.heap.size) p s m _ meth c := ⟨B.exec, B.bytes, B.returns, hml, findClass_of_methodNamed B.named, atoms_spec (ws := wsX10_kindOf) B.pre, B.notSynchronized, hK, fun q h => Or.inr h⟩
  have hl := lv_entry ([.ref h, .int p1, .int p2]) (n := 3) (Nat.le_of_ble_eq_true rfl)
  rw [lg_entry_eq]
  generalize (lg_sl ([.ref h, .int p1, .int p2]) ++ List.replicate (3 - (lg_sl ([.ref h, .int p1, .int p2])).length) Slot.unset).toArray = ls at hl ⊢
  exact tX10_kindOf_b0 K E u p1 p2 _ _ _ hl hP hD0.self va_S.rf h1
-- X10_isCar
theorem inX10_isCar_X10 : ∀ w ∈ u_ws RX10 TX10 23, w ∈ wsX10_isCar := k_lays 6 rfl
theorem lkX10_isCar_7 : Cond.fieldLink RX10 7 "FerryRampModel" "state" "[I" ∈ wsX10_isCar := List.mem_of_getElem? (i := 1) rfl
abbrev rmX10_isCar : Room := { frames := 1, cells := 0, slots := 0, locals := 22 }
def fX10_isCar_b0 (x1 : Int32) (u : Nat → Int32) : Option (Int32) :=
  bnd (fX10_isBetween x1 0 ((u 13) - 1)) (fun r11 => grd (decide (r11 &&& 1 = r11)) (some r11))
set_option maxHeartbeats 4000000 in
set_option maxRecDepth 100000 in
theorem tX10_isCar_b0 {p : Program} {l : Launch} {e : Env} {s : State} {m : MethodId} {args : Array Value} {below : List Frame} {meth : Method} {c : Code} {D : va_G} {cy : Nat → ClassId} {A : Nat → Prop} {h : Nat} {a : Nat} {rs : List Value} (K : Int32 → Prop) (E : mE D cy RX10 cX10_isCar 2 (some .boolean) wsX10_isCar A p s m args meth c) (u : Nat → Int32)
     (x1 : Int32) (H : Heap) (locs : List Loc) (ls : Array Slot) (hl : lv_has ls 2 [(0, .ref h), (1, .int x1)]) (hP : va_P D vwCl (wM0 cy h a rs u) H) (hD : va_D A (wM0 cy h a rs u)) (hS : va_S A s.heap H locs) (h1 : Ok (fX10_isCar_b0 x1 u) K) :
    kW p l e rmX10_isCar s m args below meth c H locs (va_Qi (fun r (_ : Unit) => K r) (fun _ => kPost D A (wM0 cy h a rs u)) A) A 0 ls [] := by
  obtain ⟨hx, hb, hr, hml, hown, hts, hlocks, hK, hA⟩ := id E
  unfold fX10_isCar_b0 at h1
  refine lv_iload_n hx hb dX10_isCar_0 rfl (lv_at hl 1 rfl) ?_
  refine lv_iconst (v := 0) hx hb dX10_isCar_1 rfl ?_
  refine lv_aload_n hx hb dX10_isCar_2 rfl (lv_at hl 0 rfl) ?_
  refine k_get (v := .ref a) (C := RX10) (T := TX10) (N := 23) hx hb hts inX10_isCar_X10 hown hK hP 0 (wM0_a0 _ _ _ _ _) rfl 0 (by decide) lkX10_isCar_7 (m0Fs_0 _ _) dX10_isCar_3 ?_
  refine lv_bipush (v := 13) hx hb dX10_isCar_6 rfl ?_
  refine k_iald (k := 13) hx hb hK hP 1 (wM0_a1 _ _ _ _ _) rfl rfl dX10_isCar_8 ?_
  refine lv_iconst (v := 1) hx hb dX10_isCar_9 rfl ?_
  refine lv_isub hx hb dX10_isCar_10 ?_
  refine kc_rS (As := [.int x1, .int 0, .int ((u 13) - 1)]) (rest := []) (wc := []) (wr := _) h1 ⟨hx, hb, hml, hown, hts⟩ (cX10_isBetweenM l D cy H.size x1 0 ((u 13) - 1)) (va_cwS 3 hts gX10_isCar_X10_isBetween rfl rfl rfl heX10_isBetween ⟨Nat.le_of_ble_eq_true rfl, Nat.le_of_ble_eq_true rfl⟩) hK (List.Perm.refl _) hP hD hS hA rfl hl.1 rfl (Nat.le_of_ble_eq_true rfl) dX10_isCar_11 ⟨Nat.zero_le _, Nat.zero_le _⟩ (fun r11 H locs h1 hP hS => ?_)
  have g14 := h1.grd1
  replace h1 := h1.grd2
  exact kret_rz hx hb hr (k_zn g14) hlocks hP hD hS h1 dX10_isCar_14
def fX10_isCar (p1 : Int32) (u : Nat → Int32) : Option (Int32) := fX10_isCar_b0 p1 u
set_option maxHeartbeats 4000000 in
set_option maxRecDepth 100000 in
theorem cX10_isCarM (l : Launch) (D : va_G) (cy : Nat → ClassId) (h : Nat) (a : Nat) (rs : List Value) (sz : Nat) (u : Nat → Int32) (p1 : Int32) : ∀ (K : Int32 → Prop), Ok (fX10_isCar p1 u) K → Met l yX10_isCar wsX10_isCar rmX10_isCar (va_Pc [.ref h, .int p1] (kPre D cy sz (wM0 cy h a rs u))) (va_Qi (fun r (_ : Unit) => K r) (fun _ => kPost D (va_A (wM0 cy h a rs u) sz) (wM0 cy h a rs u)) (va_A (wM0 cy h a rs u) sz)) 0 0 (va_A (wM0 cy h a rs u) sz) := by
  intro K h1
  refine Met.ofW (cc := cX10_isCar) (maxL := 2) (ret := (some .boolean)) (by decide) rfl ?_
  intro p e s m args below meth c s₁ B hml hv
  obtain ⟨rfl, hsz, hP, hK, hD0⟩ := hv
  subst hsz
  have E : mE D cy RX10 cX10_isCar 2 (some .boolean) wsX10_isCar (va_A (wM0 cy h a rs u) s.heap.size) p s m _ meth c := ⟨B.exec, B.bytes, B.returns, hml, findClass_of_methodNamed B.named, atoms_spec (ws := wsX10_isCar) B.pre, B.notSynchronized, hK, fun q h => Or.inr h⟩
  have hl := lv_entry ([.ref h, .int p1]) (n := 2) (Nat.le_of_ble_eq_true rfl)
  rw [lg_entry_eq]
  generalize (lg_sl ([.ref h, .int p1]) ++ List.replicate (2 - (lg_sl ([.ref h, .int p1])).length) Slot.unset).toArray = ls at hl ⊢
  exact tX10_isCar_b0 K E u p1 _ _ _ hl hP hD0.self va_S.rf h1
-- X10_isQueued
theorem hdX10_isCar : yX10_isCar.cls = RX10 ∧ yX10_isCar.cls ≠ "java/lang/invoke/MethodHandle" ∧ yX10_isCar.cls ≠ "java/lang/invoke/VarHandle" ∧ (parseMethodDescriptor yX10_isCar.desc).map (fun d => d.parameters.length) = some 1 := by decide +kernel
abbrev rmX10_isQueued : Room := { frames := 2, cells := 0, slots := 0, locals := 43 }
def fX10_isQueued_b0 (x1 : Int32) (u : Nat → Int32) : Option (Int32) :=
  bnd (fX10_isCar x1 u) (fun r2 => (if r2 = 0 then some 0 else bnd (fX10_ofCar x1 2 u) (fun r11 => (if r11 = 0 then some 1 else some 0))))
set_option maxHeartbeats 4000000 in
set_option maxRecDepth 100000 in
theorem tX10_isQueued_b0 {p : Program} {l : Launch} {e : Env} {s : State} {m : MethodId} {args : Array Value} {below : List Frame} {meth : Method} {c : Code} {D : va_G} {cy : Nat → ClassId} {A : Nat → Prop} {h : Nat} {a : Nat} {rs : List Value} (K : Int32 → Prop) (E : mE D cy RX10 cX10_isQueued 2 (some .boolean) wsX10_isQueued A p s m args meth c) (u : Nat → Int32)
     (x1 : Int32) (H : Heap) (locs : List Loc) (ls : Array Slot) (hl : lv_has ls 2 [(0, .ref h), (1, .int x1)]) (hP : va_P D vwCl (wM0 cy h a rs u) H) (hD : va_D A (wM0 cy h a rs u)) (hS : va_S A s.heap H locs) (h1 : Ok (fX10_isQueued_b0 x1 u) K) :
    kW p l e rmX10_isQueued s m args below meth c H locs (va_Qi (fun r (_ : Unit) => K r) (fun _ => kPost D A (wM0 cy h a rs u)) A) A 0 ls [] := by
  obtain ⟨hx, hb, hr, hml, hown, hts, hlocks, hK, hA⟩ := id E
  unfold fX10_isQueued_b0 at h1
  refine lv_aload_n hx hb dX10_isQueued_0 rfl (lv_at hl 0 rfl) ?_
  refine lv_iload_n hx hb dX10_isQueued_1 rfl (lv_at hl 1 rfl) ?_
  refine kc_rV0 (b := h) (As := [.int x1]) (rest := []) h1 ⟨hx, hb, hml, hown, hts⟩ (cX10_isCarM l D cy h a rs H.size u x1) (cwV 1 hts gX10_isQueued_X10_isCar rfl rfl rfl hdX10_isCar ⟨Nat.le_of_ble_eq_true rfl, Nat.le_of_ble_eq_true rfl⟩) hK hP hD hS hA (q0 := 0) rfl rfl rfl hl.1 rfl (Nat.le_of_ble_eq_true rfl) dX10_isQueued_2 ⟨Nat.zero_le _, Nat.zero_le _⟩ (fun r2 H locs h1 hP hS => ?_)
  refine lv_if_eq (tgt := 21) hx hb dX10_isQueued_5 (by decide) (fun c5 => ?_) (fun c5 => ?_)
  · replace h1 := Ok.pos c5 h1
    refine lv_iconst (v := 0) hx hb dX10_isQueued_21 rfl ?_
    exact kret_rz hx hb hr rfl hlocks hP hD hS h1 dX10_isQueued_22
  · replace h1 := Ok.neg c5 h1
    refine lv_aload_n hx hb dX10_isQueued_8 rfl (lv_at hl 0 rfl) ?_
    refine lv_iload_n hx hb dX10_isQueued_9 rfl (lv_at hl 1 rfl) ?_
    refine lv_iconst (v := 2) hx hb dX10_isQueued_10 rfl ?_
    refine kc_rV0 (b := h) (As := [.int x1, .int 2]) (rest := []) h1 ⟨hx, hb, hml, hown, hts⟩ (cX10_ofCarM l D cy h a rs H.size u x1 2) (cwV 2 hts gX10_isQueued_X10_ofCar rfl rfl rfl hdX10_ofCar ⟨Nat.le_of_ble_eq_true rfl, Nat.le_of_ble_eq_true rfl⟩) hK hP hD hS hA (q0 := 0) rfl rfl rfl hl.1 rfl (Nat.le_of_ble_eq_true rfl) dX10_isQueued_11 ⟨Nat.zero_le _, Nat.zero_le _⟩ (fun r11 H locs h1 hP hS => ?_)
    refine lv_if_ne (tgt := 21) hx hb dX10_isQueued_14 (by decide) (fun c14 => ?_) (fun c14 => ?_)
    · replace h1 := Ok.neg c14 h1
      refine lv_iconst (v := 0) hx hb dX10_isQueued_21 rfl ?_
      exact kret_rz hx hb hr rfl hlocks hP hD hS h1 dX10_isQueued_22
    · replace h1 := Ok.pos c14 h1
      refine lv_iconst (v := 1) hx hb dX10_isQueued_17 rfl ?_
      refine lv_goto (tgt := 22) hx hb dX10_isQueued_18 (by decide) ?_
      exact kret_rz hx hb hr rfl hlocks hP hD hS h1 dX10_isQueued_22
def fX10_isQueued (p1 : Int32) (u : Nat → Int32) : Option (Int32) := fX10_isQueued_b0 p1 u
set_option maxHeartbeats 4000000 in
set_option maxRecDepth 100000 in
theorem cX10_isQueuedM (l : Launch) (D : va_G) (cy : Nat → ClassId) (h : Nat) (a : Nat) (rs : List Value) (sz : Nat) (u : Nat → Int32) (p1 : Int32) : ∀ (K : Int32 → Prop), Ok (fX10_isQueued p1 u) K → Met l yX10_isQueued wsX10_isQueued rmX10_isQueued (va_Pc [.ref h, .int p1] (kPre D cy sz (wM0 cy h a rs u))) (va_Qi (fun r (_ : Unit) => K r) (fun _ => kPost D (va_A (wM0 cy h a rs u) sz) (wM0 cy h a rs u)) (va_A (wM0 cy h a rs u) sz)) 0 0 (va_A (wM0 cy h a rs u) sz) := by
  intro K h1
  refine Met.ofW (cc := cX10_isQueued) (maxL := 2) (ret := (some .boolean)) (by decide) rfl ?_
  intro p e s m args below meth c s₁ B hml hv
  obtain ⟨rfl, hsz, hP, hK, hD0⟩ := hv
  subst hsz
  have E : mE D cy RX10 cX10_isQueued 2 (some .boolean) wsX10_isQueued (va_A (wM0 cy h a rs u) s.heap.size) p s m _ meth c := ⟨B.exec, B.bytes, B.returns, hml, findClass_of_methodNamed B.named, atoms_spec (ws := wsX10_isQueued) B.pre, B.notSynchronized, hK, fun q h => Or.inr h⟩
  have hl := lv_entry ([.ref h, .int p1]) (n := 2) (Nat.le_of_ble_eq_true rfl)
  rw [lg_entry_eq]
  generalize (lg_sl ([.ref h, .int p1]) ++ List.replicate (2 - (lg_sl ([.ref h, .int p1])).length) Slot.unset).toArray = ls at hl ⊢
  exact tX10_isQueued_b0 K E u p1 _ _ _ hl hP hD0.self va_S.rf h1
-- X10_tideAt
theorem inX10_tideAt_X10 : ∀ w ∈ u_ws RX10 TX10 23, w ∈ wsX10_tideAt := k_lays 2 rfl
theorem lkX10_tideAt_7 : Cond.fieldLink RX10 7 "FerryRampModel" "state" "[I" ∈ wsX10_tideAt := List.mem_of_getElem? (i := 1) rfl
abbrev rmX10_tideAt : Room := { frames := 0, cells := 0, slots := 0, locals := 0 }
def fX10_tideAt_b28 (x2 : Int32) (s0 : Int32) (u : Nat → Int32) : Option (Int32) :=
  grd (nz x2) (some ((u 15) + ((((u 16) - (u 15)) * s0) / x2)))
set_option maxHeartbeats 4000000 in
set_option maxRecDepth 100000 in
theorem tX10_tideAt_b28 {p : Program} {l : Launch} {e : Env} {s : State} {m : MethodId} {args : Array Value} {below : List Frame} {meth : Method} {c : Code} {D : va_G} {cy : Nat → ClassId} {A : Nat → Prop} {h : Nat} {a : Nat} {rs : List Value} (K : Int32 → Prop) (E : mE D cy RX10 cX10_tideAt 5 (some .int) wsX10_tideAt A p s m args meth c) (u : Nat → Int32)
     (x2 : Int32) (s0 : Int32) (H : Heap) (locs : List Loc) (ls : Array Slot) (hl : lv_has ls 5 [(0, .ref h), (2, .int x2)]) (hP : va_P D vwCl (wM0 cy h a rs u) H) (hD : va_D A (wM0 cy h a rs u)) (hS : va_S A s.heap H locs) (h1 : Ok (fX10_tideAt_b28 x2 s0 u) K) :
    kW p l e rmX10_tideAt s m args below meth c H locs (va_Qi (fun r (_ : Unit) => K r) (fun _ => kPost D A (wM0 cy h a rs u)) A) A 28 ls [.int s0] := by
  obtain ⟨hx, hb, hr, hml, hown, hts, hlocks, hK, hA⟩ := id E
  unfold fX10_tideAt_b28 at h1
  refine lv_istore (lv' := [(4, .int s0), (0, .ref h), (2, .int x2)]) hx hb dX10_tideAt_28 hl (by decide) rfl (fun ls hl => ?_)
  refine lv_aload_n hx hb dX10_tideAt_30 rfl (lv_at hl 1 rfl) ?_
  refine k_get (v := .ref a) (C := RX10) (T := TX10) (N := 23) hx hb hts inX10_tideAt_X10 hown hK hP 0 (wM0_a0 _ _ _ _ _) rfl 0 (by decide) lkX10_tideAt_7 (m0Fs_0 _ _) dX10_tideAt_31 ?_
  refine lv_bipush (v := 15) hx hb dX10_tideAt_34 rfl ?_
  refine k_iald (k := 15) hx hb hK hP 1 (wM0_a1 _ _ _ _ _) rfl rfl dX10_tideAt_36 ?_
  refine lv_aload_n hx hb dX10_tideAt_37 rfl (lv_at hl 1 rfl) ?_
  refine k_get (v := .ref a) (C := RX10) (T := TX10) (N := 23) hx hb hts inX10_tideAt_X10 hown hK hP 0 (wM0_a0 _ _ _ _ _) rfl 0 (by decide) lkX10_tideAt_7 (m0Fs_0 _ _) dX10_tideAt_38 ?_
  refine lv_bipush (v := 16) hx hb dX10_tideAt_41 rfl ?_
  refine k_iald (k := 16) hx hb hK hP 1 (wM0_a1 _ _ _ _ _) rfl rfl dX10_tideAt_43 ?_
  refine lv_aload_n hx hb dX10_tideAt_44 rfl (lv_at hl 1 rfl) ?_
  refine k_get (v := .ref a) (C := RX10) (T := TX10) (N := 23) hx hb hts inX10_tideAt_X10 hown hK hP 0 (wM0_a0 _ _ _ _ _) rfl 0 (by decide) lkX10_tideAt_7 (m0Fs_0 _ _) dX10_tideAt_45 ?_
  refine lv_bipush (v := 15) hx hb dX10_tideAt_48 rfl ?_
  refine k_iald (k := 15) hx hb hK hP 1 (wM0_a1 _ _ _ _ _) rfl rfl dX10_tideAt_50 ?_
  refine lv_isub hx hb dX10_tideAt_51 ?_
  refine lv_iload hx hb dX10_tideAt_52 (lv_at hl 0 rfl) ?_
  refine lv_imul hx hb dX10_tideAt_54 ?_
  refine lv_iload_n hx hb dX10_tideAt_55 rfl (lv_at hl 2 rfl) ?_
  have g56 := h1.grd1
  replace h1 := h1.grd2
  refine lv_idiv hx hb dX10_tideAt_56 (nz_ne g56) ?_
  refine lv_iadd hx hb dX10_tideAt_57 ?_
  exact kret_r hx hb hr hlocks hP hD hS h1 dX10_tideAt_58
def fX10_tideAt_b0 (x1 : Int32) (u : Nat → Int32) : Option (Int32) :=
  grd (nz (2 * (u 17))) ((if (u 17) < (x1 - x1 / (2 * (u 17)) * (2 * (u 17))) then fX10_tideAt_b28 (u 17) ((2 * (u 17)) - (x1 - x1 / (2 * (u 17)) * (2 * (u 17)))) u else fX10_tideAt_b28 (u 17) (x1 - x1 / (2 * (u 17)) * (2 * (u 17))) u))
set_option maxHeartbeats 4000000 in
set_option maxRecDepth 100000 in
theorem tX10_tideAt_b0 {p : Program} {l : Launch} {e : Env} {s : State} {m : MethodId} {args : Array Value} {below : List Frame} {meth : Method} {c : Code} {D : va_G} {cy : Nat → ClassId} {A : Nat → Prop} {h : Nat} {a : Nat} {rs : List Value} (K : Int32 → Prop) (E : mE D cy RX10 cX10_tideAt 5 (some .int) wsX10_tideAt A p s m args meth c) (u : Nat → Int32)
     (x1 : Int32) (H : Heap) (locs : List Loc) (ls : Array Slot) (hl : lv_has ls 5 [(0, .ref h), (1, .int x1)]) (hP : va_P D vwCl (wM0 cy h a rs u) H) (hD : va_D A (wM0 cy h a rs u)) (hS : va_S A s.heap H locs) (h1 : Ok (fX10_tideAt_b0 x1 u) K) :
    kW p l e rmX10_tideAt s m args below meth c H locs (va_Qi (fun r (_ : Unit) => K r) (fun _ => kPost D A (wM0 cy h a rs u)) A) A 0 ls [] := by
  obtain ⟨hx, hb, hr, hml, hown, hts, hlocks, hK, hA⟩ := id E
  unfold fX10_tideAt_b0 at h1
  refine lv_aload_n hx hb dX10_tideAt_0 rfl (lv_at hl 0 rfl) ?_
  refine k_get (v := .ref a) (C := RX10) (T := TX10) (N := 23) hx hb hts inX10_tideAt_X10 hown hK hP 0 (wM0_a0 _ _ _ _ _) rfl 0 (by decide) lkX10_tideAt_7 (m0Fs_0 _ _) dX10_tideAt_1 ?_
  refine lv_bipush (v := 17) hx hb dX10_tideAt_4 rfl ?_
  refine k_iald (k := 17) hx hb hK hP 1 (wM0_a1 _ _ _ _ _) rfl rfl dX10_tideAt_6 ?_
  refine lv_istore_n (lv' := [(2, .int (u 17)), (0, .ref h), (1, .int x1)]) hx hb dX10_tideAt_7 rfl hl (by decide) rfl (fun ls hl => ?_)
  refine lv_iload_n hx hb dX10_tideAt_8 rfl (lv_at hl 2 rfl) ?_
  refine lv_iconst (v := 2) hx hb dX10_tideAt_9 rfl ?_
  refine lv_iload_n hx hb dX10_tideAt_10 rfl (lv_at hl 0 rfl) ?_
  refine lv_imul hx hb dX10_tideAt_11 ?_
  have g12 := h1.grd1
  replace h1 := h1.grd2
  refine lv_irem hx hb dX10_tideAt_12 (nz_ne g12) ?_
  refine lv_istore_n (lv' := [(3, .int (x1 - x1 / (2 * (u 17)) * (2 * (u 17)))), (2, .int (u 17)), (0, .ref h), (1, .int x1)]) hx hb dX10_tideAt_13 rfl hl (by decide) rfl (fun ls hl => ?_)
  refine lv_iload_n hx hb dX10_tideAt_14 rfl (lv_at hl 0 rfl) ?_
  refine lv_iload_n hx hb dX10_tideAt_15 rfl (lv_at hl 1 rfl) ?_
  refine lv_icmp_gt (tgt := 23) hx hb dX10_tideAt_16 (by decide) (fun c16 => ?_) (fun c16 => ?_)
  · replace h1 := Ok.pos c16 h1
    refine lv_iconst (v := 2) hx hb dX10_tideAt_23 rfl ?_
    refine lv_iload_n hx hb dX10_tideAt_24 rfl (lv_at hl 1 rfl) ?_
    refine lv_imul hx hb dX10_tideAt_25 ?_
    refine lv_iload_n hx hb dX10_tideAt_26 rfl (lv_at hl 0 rfl) ?_
    refine lv_isub hx hb dX10_tideAt_27 ?_
    exact tX10_tideAt_b28 K E u (u 17) ((2 * (u 17)) - (x1 - x1 / (2 * (u 17)) * (2 * (u 17)))) H locs ls (lv_sub hl [2, 1] rfl) hP hD hS h1
  · replace h1 := Ok.neg c16 h1
    refine lv_iload_n hx hb dX10_tideAt_19 rfl (lv_at hl 0 rfl) ?_
    refine lv_goto (tgt := 28) hx hb dX10_tideAt_20 (by decide) ?_
    exact tX10_tideAt_b28 K E u (u 17) (x1 - x1 / (2 * (u 17)) * (2 * (u 17))) H locs ls (lv_sub hl [2, 1] rfl) hP hD hS h1
def fX10_tideAt (p1 : Int32) (u : Nat → Int32) : Option (Int32) := fX10_tideAt_b0 p1 u
set_option maxHeartbeats 4000000 in
set_option maxRecDepth 100000 in
theorem cX10_tideAtM (l : Launch) (D : va_G) (cy : Nat → ClassId) (h : Nat) (a : Nat) (rs : List Value) (sz : Nat) (u : Nat → Int32) (p1 : Int32) : ∀ (K : Int32 → Prop), Ok (fX10_tideAt p1 u) K → Met l yX10_tideAt wsX10_tideAt rmX10_tideAt (va_Pc [.ref h, .int p1] (kPre D cy sz (wM0 cy h a rs u))) (va_Qi (fun r (_ : Unit) => K r) (fun _ => kPost D (va_A (wM0 cy h a rs u) sz) (wM0 cy h a rs u)) (va_A (wM0 cy h a rs u) sz)) 0 0 (va_A (wM0 cy h a rs u) sz) := by
  intro K h1
  refine Met.ofW (cc := cX10_tideAt) (maxL := 5) (ret := (some .int)) (by decide) rfl ?_
  intro p e s m args below meth c s₁ B hml hv
  obtain ⟨rfl, hsz, hP, hK, hD0⟩ := hv
  subst hsz
  have E : mE D cy RX10 cX10_tideAt 5 (some .int) wsX10_tideAt (va_A (wM0 cy h a rs u) s.heap.size) p s m _ meth c := ⟨B.exec, B.bytes, B.returns, hml, findClass_of_methodNamed B.named, atoms_spec (ws := wsX10_tideAt) B.pre, B.notSynchronized, hK, fun q h => Or.inr h⟩
  have hl := lv_entry ([.ref h, .int p1]) (n := 5) (Nat.le_of_ble_eq_true rfl)
  rw [lg_entry_eq]
  generalize (lg_sl ([.ref h, .int p1]) ++ List.replicate (5 - (lg_sl ([.ref h, .int p1])).length) Slot.unset).toArray = ls at hl ⊢
  exact tX10_tideAt_b0 K E u p1 _ _ _ hl hP hD0.self va_S.rf h1
-- X10_weightOnDeck
theorem inX10_weightOnDeck_X10 : ∀ w ∈ u_ws RX10 TX10 23, w ∈ wsX10_weightOnDeck := k_lays 7 rfl
theorem lkX10_weightOnDeck_7 : Cond.fieldLink RX10 7 "FerryRampModel" "state" "[I" ∈ wsX10_weightOnDeck := List.mem_of_getElem? (i := 1) rfl
abbrev rmX10_weightOnDeck : Room := { frames := 1, cells := 0, slots := 0, locals := 22 }
def fX10_weightOnDeck_b36 (k4 : Int32 × Int32 → Option (Int32)) (x2 : Int32) (s0 : Int32) (s1 : Int32) (u : Nat → Int32) : Option (Int32) :=
  k4 (s0 + s1, x2 + 1)
set_option maxHeartbeats 4000000 in
set_option maxRecDepth 100000 in
theorem tX10_weightOnDeck_b36 {p : Program} {l : Launch} {e : Env} {s : State} {m : MethodId} {args : Array Value} {below : List Frame} {meth : Method} {c : Code} {D : va_G} {cy : Nat → ClassId} {A : Nat → Prop} {h : Nat} {a : Nat} {rs : List Value} (K : Int32 → Prop) (E : mE D cy RX10 cX10_weightOnDeck 3 (some .int) wsX10_weightOnDeck A p s m args meth c) (u : Nat → Int32)
    (k4 : Int32 × Int32 → Option (Int32)) (hk4 : ∀ (x1 : Int32) (x2 : Int32) (H : Heap) (locs : List Loc) (ls : Array Slot), lv_has ls 3 [(0, .ref h), (1, .int x1), (2, .int x2)] → va_P D vwCl (wM0 cy h a rs u) H → va_D A (wM0 cy h a rs u) → va_S A s.heap H locs → Ok (k4 (x1, x2)) K → kW p l e rmX10_weightOnDeck s m args below meth c H locs (va_Qi (fun r (_ : Unit) => K r) (fun _ => kPost D A (wM0 cy h a rs u)) A) A 4 ls [])
     (x2 : Int32) (s0 : Int32) (s1 : Int32) (H : Heap) (locs : List Loc) (ls : Array Slot) (hl : lv_has ls 3 [(0, .ref h), (2, .int x2)]) (hP : va_P D vwCl (wM0 cy h a rs u) H) (hD : va_D A (wM0 cy h a rs u)) (hS : va_S A s.heap H locs) (h1 : Ok (fX10_weightOnDeck_b36 k4 x2 s0 s1 u) K) :
    kW p l e rmX10_weightOnDeck s m args below meth c H locs (va_Qi (fun r (_ : Unit) => K r) (fun _ => kPost D A (wM0 cy h a rs u)) A) A 36 ls [.int s1, .int s0] := by
  obtain ⟨hx, hb, hr, hml, hown, hts, hlocks, hK, hA⟩ := id E
  unfold fX10_weightOnDeck_b36 at h1
  refine lv_iadd hx hb dX10_weightOnDeck_36 ?_
  refine lv_istore_n (lv' := [(1, .int (s0 + s1)), (0, .ref h), (2, .int x2)]) hx hb dX10_weightOnDeck_37 rfl hl (by decide) rfl (fun ls hl => ?_)
  refine lv_iinc (v := x2 + 1) (lv' := [(2, .int (x2 + 1)), (1, .int (s0 + s1)), (0, .ref h)]) hx hb dX10_weightOnDeck_38 hl (k := 2) rfl rfl (by decide) rfl (fun ls hl => ?_)
  refine lv_goto (tgt := 4) hx hb dX10_weightOnDeck_41 (by decide) ?_
  exact hk4 (s0 + s1) (x2 + 1) H locs ls (lv_sub hl [2, 1, 0] rfl) hP hD hS h1
def fX10_weightOnDeck_b4 (k4 : Int32 × Int32 → Option (Int32)) (x1 : Int32) (x2 : Int32) (u : Nat → Int32) : Option (Int32) :=
  (if (u 13) ≤ x2 then some x1 else bnd (fX10_ofCar x2 2 u) (fun r19 => (if r19 = 2 then bnd (fX10_ofCar x2 1 u) (fun r29 => fX10_weightOnDeck_b36 k4 x2 x1 r29 u) else fX10_weightOnDeck_b36 k4 x2 x1 0 u)))
set_option maxHeartbeats 4000000 in
set_option maxRecDepth 100000 in
theorem tX10_weightOnDeck_b4 {p : Program} {l : Launch} {e : Env} {s : State} {m : MethodId} {args : Array Value} {below : List Frame} {meth : Method} {c : Code} {D : va_G} {cy : Nat → ClassId} {A : Nat → Prop} {h : Nat} {a : Nat} {rs : List Value} (K : Int32 → Prop) (E : mE D cy RX10 cX10_weightOnDeck 3 (some .int) wsX10_weightOnDeck A p s m args meth c) (u : Nat → Int32)
    (k4 : Int32 × Int32 → Option (Int32)) (hk4 : ∀ (x1 : Int32) (x2 : Int32) (H : Heap) (locs : List Loc) (ls : Array Slot), lv_has ls 3 [(0, .ref h), (1, .int x1), (2, .int x2)] → va_P D vwCl (wM0 cy h a rs u) H → va_D A (wM0 cy h a rs u) → va_S A s.heap H locs → Ok (k4 (x1, x2)) K → kW p l e rmX10_weightOnDeck s m args below meth c H locs (va_Qi (fun r (_ : Unit) => K r) (fun _ => kPost D A (wM0 cy h a rs u)) A) A 4 ls [])
     (x1 : Int32) (x2 : Int32) (H : Heap) (locs : List Loc) (ls : Array Slot) (hl : lv_has ls 3 [(0, .ref h), (1, .int x1), (2, .int x2)]) (hP : va_P D vwCl (wM0 cy h a rs u) H) (hD : va_D A (wM0 cy h a rs u)) (hS : va_S A s.heap H locs) (h1 : Ok (fX10_weightOnDeck_b4 k4 x1 x2 u) K) :
    kW p l e rmX10_weightOnDeck s m args below meth c H locs (va_Qi (fun r (_ : Unit) => K r) (fun _ => kPost D A (wM0 cy h a rs u)) A) A 4 ls [] := by
  obtain ⟨hx, hb, hr, hml, hown, hts, hlocks, hK, hA⟩ := id E
  unfold fX10_weightOnDeck_b4 at h1
  refine lv_iload_n hx hb dX10_weightOnDeck_4 rfl (lv_at hl 2 rfl) ?_
  refine lv_aload_n hx hb dX10_weightOnDeck_5 rfl (lv_at hl 0 rfl) ?_
  refine k_get (v := .ref a) (C := RX10) (T := TX10) (N := 23) hx hb hts inX10_weightOnDeck_X10 hown hK hP 0 (wM0_a0 _ _ _ _ _) rfl 0 (by decide) lkX10_weightOnDeck_7 (m0Fs_0 _ _) dX10_weightOnDeck_6 ?_
  refine lv_bipush (v := 13) hx hb dX10_weightOnDeck_9 rfl ?_
  refine k_iald (k := 13) hx hb hK hP 1 (wM0_a1 _ _ _ _ _) rfl rfl dX10_weightOnDeck_11 ?_
  refine lv_icmp_ge (tgt := 44) hx hb dX10_weightOnDeck_12 (by decide) (fun c12 => ?_) (fun c12 => ?_)
  · replace h1 := Ok.pos c12 h1
    refine lv_iload_n hx hb dX10_weightOnDeck_44 rfl (lv_at hl 1 rfl) ?_
    exact kret_r hx hb hr hlocks hP hD hS h1 dX10_weightOnDeck_45
  · replace h1 := Ok.neg c12 h1
    refine lv_iload_n hx hb dX10_weightOnDeck_15 rfl (lv_at hl 1 rfl) ?_
    refine lv_aload_n hx hb dX10_weightOnDeck_16 rfl (lv_at hl 0 rfl) ?_
    refine lv_iload_n hx hb dX10_weightOnDeck_17 rfl (lv_at hl 2 rfl) ?_
    refine lv_iconst (v := 2) hx hb dX10_weightOnDeck_18 rfl ?_
    refine kc_rV0 (b := h) (As := [.int x2, .int 2]) (rest := [.int x1]) h1 ⟨hx, hb, hml, hown, hts⟩ (cX10_ofCarM l D cy h a rs H.size u x2 2) (cwV 2 hts gX10_weightOnDeck_X10_ofCar rfl rfl rfl hdX10_ofCar ⟨Nat.le_of_ble_eq_true rfl, Nat.le_of_ble_eq_true rfl⟩) hK hP hD hS hA (q0 := 0) rfl rfl rfl hl.1 rfl (Nat.le_of_ble_eq_true rfl) dX10_weightOnDeck_19 ⟨Nat.zero_le _, Nat.zero_le _⟩ (fun r19 H locs h1 hP hS => ?_)
    refine lv_iconst (v := 2) hx hb dX10_weightOnDeck_22 rfl ?_
    refine lv_icmp_ne (tgt := 35) hx hb dX10_weightOnDeck_23 (by decide) (fun c23 => ?_) (fun c23 => ?_)
    · replace h1 := Ok.neg c23 h1
      refine lv_iconst (v := 0) hx hb dX10_weightOnDeck_35 rfl ?_
      exact tX10_weightOnDeck_b36 K E u k4 hk4 x2 x1 0 H locs ls (lv_sub hl [0, 2] rfl) hP hD hS h1
    · replace h1 := Ok.pos c23 h1
      refine lv_aload_n hx hb dX10_weightOnDeck_26 rfl (lv_at hl 0 rfl) ?_
      refine lv_iload_n hx hb dX10_weightOnDeck_27 rfl (lv_at hl 2 rfl) ?_
      refine lv_iconst (v := 1) hx hb dX10_weightOnDeck_28 rfl ?_
      refine kc_rV0 (b := h) (As := [.int x2, .int 1]) (rest := [.int x1]) h1 ⟨hx, hb, hml, hown, hts⟩ (cX10_ofCarM l D cy h a rs H.size u x2 1) (cwV 2 hts gX10_weightOnDeck_X10_ofCar rfl rfl rfl hdX10_ofCar ⟨Nat.le_of_ble_eq_true rfl, Nat.le_of_ble_eq_true rfl⟩) hK hP hD hS hA (q0 := 0) rfl rfl rfl hl.1 rfl (Nat.le_of_ble_eq_true rfl) dX10_weightOnDeck_29 ⟨Nat.zero_le _, Nat.zero_le _⟩ (fun r29 H locs h1 hP hS => ?_)
      refine lv_goto (tgt := 36) hx hb dX10_weightOnDeck_32 (by decide) ?_
      exact tX10_weightOnDeck_b36 K E u k4 hk4 x2 x1 r29 H locs ls (lv_sub hl [0, 2] rfl) hP hD hS h1
theorem tX10_weightOnDeck_l4 {p : Program} {l : Launch} {e : Env} {s : State} {m : MethodId} {args : Array Value} {below : List Frame} {meth : Method} {c : Code} {D : va_G} {cy : Nat → ClassId} {A : Nat → Prop} {h : Nat} {a : Nat} {rs : List Value} (K : Int32 → Prop) (E : mE D cy RX10 cX10_weightOnDeck 3 (some .int) wsX10_weightOnDeck A p s m args meth c) (u : Nat → Int32) : ∀ (n9 : Nat) (x1 : Int32) (x2 : Int32) (H : Heap) (locs : List Loc) (ls : Array Slot), lv_has ls 3 [(0, .ref h), (1, .int x1), (2, .int x2)] → va_P D vwCl (wM0 cy h a rs u) H → va_D A (wM0 cy h a rs u) → va_S A s.heap H locs → Ok (lop (fun y z => fX10_weightOnDeck_b4 y z.1 z.2 u) n9 (x1, x2)) K → kW p l e rmX10_weightOnDeck s m args below meth c H locs (va_Qi (fun r (_ : Unit) => K r) (fun _ => kPost D A (wM0 cy h a rs u)) A) A 4 ls [] := by
  intro n9
  induction n9 with
  | zero =>
    intro x1 x2 H locs ls hl hP hD hS h1
    exact h1.no
  | succ n9 ih =>
    intro x1 x2 H locs ls hl hP hD hS h1
    exact tX10_weightOnDeck_b4 K E u (lop (fun y z => fX10_weightOnDeck_b4 y z.1 z.2 u) n9) (fun x1 x2 H locs ls hl hP hD hS h1 => ih x1 x2 H locs ls hl hP hD hS h1) x1 x2 H locs ls hl hP hD hS h1
def fX10_weightOnDeck_b0 (u : Nat → Int32) : Option (Int32) :=
  lop (fun y z => fX10_weightOnDeck_b4 y z.1 z.2 u) LF (0, 0)
set_option maxHeartbeats 4000000 in
set_option maxRecDepth 100000 in
theorem tX10_weightOnDeck_b0 {p : Program} {l : Launch} {e : Env} {s : State} {m : MethodId} {args : Array Value} {below : List Frame} {meth : Method} {c : Code} {D : va_G} {cy : Nat → ClassId} {A : Nat → Prop} {h : Nat} {a : Nat} {rs : List Value} (K : Int32 → Prop) (E : mE D cy RX10 cX10_weightOnDeck 3 (some .int) wsX10_weightOnDeck A p s m args meth c) (u : Nat → Int32)
     (H : Heap) (locs : List Loc) (ls : Array Slot) (hl : lv_has ls 3 [(0, .ref h)]) (hP : va_P D vwCl (wM0 cy h a rs u) H) (hD : va_D A (wM0 cy h a rs u)) (hS : va_S A s.heap H locs) (h1 : Ok (fX10_weightOnDeck_b0 u) K) :
    kW p l e rmX10_weightOnDeck s m args below meth c H locs (va_Qi (fun r (_ : Unit) => K r) (fun _ => kPost D A (wM0 cy h a rs u)) A) A 0 ls [] := by
  obtain ⟨hx, hb, hr, hml, hown, hts, hlocks, hK, hA⟩ := id E
  unfold fX10_weightOnDeck_b0 at h1
  refine lv_iconst (v := 0) hx hb dX10_weightOnDeck_0 rfl ?_
  refine lv_istore_n (lv' := [(1, .int 0), (0, .ref h)]) hx hb dX10_weightOnDeck_1 rfl hl (by decide) rfl (fun ls hl => ?_)
  refine lv_iconst (v := 0) hx hb dX10_weightOnDeck_2 rfl ?_
  refine lv_istore_n (lv' := [(2, .int 0), (1, .int 0), (0, .ref h)]) hx hb dX10_weightOnDeck_3 rfl hl (by decide) rfl (fun ls hl => ?_)
  exact tX10_weightOnDeck_l4 K E u LF 0 0 H locs ls (lv_sub hl [2, 1, 0] rfl) hP hD hS h1
def fX10_weightOnDeck (u : Nat → Int32) : Option (Int32) := fX10_weightOnDeck_b0 u
set_option maxHeartbeats 4000000 in
set_option maxRecDepth 100000 in
theorem cX10_weightOnDeckM (l : Launch) (D : va_G) (cy : Nat → ClassId) (h : Nat) (a : Nat) (rs : List Value) (sz : Nat) (u : Nat → Int32) : ∀ (K : Int32 → Prop), Ok (fX10_weightOnDeck u) K → Met l yX10_weightOnDeck wsX10_weightOnDeck rmX10_weightOnDeck (va_Pc [.ref h] (kPre D cy sz (wM0 cy h a rs u))) (va_Qi (fun r (_ : Unit) => K r) (fun _ => kPost D (va_A (wM0 cy h a rs u) sz) (wM0 cy h a rs u)) (va_A (wM0 cy h a rs u) sz)) 0 0 (va_A (wM0 cy h a rs u) sz) := by
  intro K h1
  refine Met.ofW (cc := cX10_weightOnDeck) (maxL := 3) (ret := (some .int)) (by decide) rfl ?_
  intro p e s m args below meth c s₁ B hml hv
  obtain ⟨rfl, hsz, hP, hK, hD0⟩ := hv
  subst hsz
  have E : mE D cy RX10 cX10_weightOnDeck 3 (some .int) wsX10_weightOnDeck (va_A (wM0 cy h a rs u) s.heap.size) p s m _ meth c := ⟨B.exec, B.bytes, B.returns, hml, findClass_of_methodNamed B.named, atoms_spec (ws := wsX10_weightOnDeck) B.pre, B.notSynchronized, hK, fun q h => Or.inr h⟩
  have hl := lv_entry ([.ref h]) (n := 3) (Nat.le_of_ble_eq_true rfl)
  rw [lg_entry_eq]
  generalize (lg_sl ([.ref h]) ++ List.replicate (3 - (lg_sl ([.ref h])).length) Slot.unset).toArray = ls at hl ⊢
  exact tX10_weightOnDeck_b0 K E u _ _ _ hl hP hD0.self va_S.rf h1
-- X10_deckAt
theorem hdX10_tideAt : yX10_tideAt.cls = RX10 ∧ yX10_tideAt.cls ≠ "java/lang/invoke/MethodHandle" ∧ yX10_tideAt.cls ≠ "java/lang/invoke/VarHandle" ∧ (parseMethodDescriptor yX10_tideAt.desc).map (fun d => d.parameters.length) = some 1 := by decide +kernel
theorem inX10_deckAt_X10 : ∀ w ∈ u_ws RX10 TX10 23, w ∈ wsX10_deckAt := k_lays 15 rfl
theorem lkX10_deckAt_7 : Cond.fieldLink RX10 7 "FerryRampModel" "state" "[I" ∈ wsX10_deckAt := List.mem_of_getElem? (i := 1) rfl
theorem hdX10_weightOnDeck : yX10_weightOnDeck.cls = RX10 ∧ yX10_weightOnDeck.cls ≠ "java/lang/invoke/MethodHandle" ∧ yX10_weightOnDeck.cls ≠ "java/lang/invoke/VarHandle" ∧ (parseMethodDescriptor yX10_weightOnDeck.desc).map (fun d => d.parameters.length) = some 0 := by decide +kernel
abbrev rmX10_deckAt : Room := { frames := 2, cells := 0, slots := 0, locals := 44 }
def fX10_deckAt_b0 (x1 : Int32) (u : Nat → Int32) : Option (Int32) :=
  bnd (fX10_tideAt x1 u) (fun r2 => bnd (fX10_weightOnDeck u) (fun r14 => grd (nz (u 20)) (some ((r2 + (u 19)) - (r14 / (u 20))))))
set_option maxHeartbeats 4000000 in
set_option maxRecDepth 100000 in
theorem tX10_deckAt_b0 {p : Program} {l : Launch} {e : Env} {s : State} {m : MethodId} {args : Array Value} {below : List Frame} {meth : Method} {c : Code} {D : va_G} {cy : Nat → ClassId} {A : Nat → Prop} {h : Nat} {a : Nat} {rs : List Value} (K : Int32 → Prop) (E : mE D cy RX10 cX10_deckAt 2 (some .int) wsX10_deckAt A p s m args meth c) (u : Nat → Int32)
     (x1 : Int32) (H : Heap) (locs : List Loc) (ls : Array Slot) (hl : lv_has ls 2 [(0, .ref h), (1, .int x1)]) (hP : va_P D vwCl (wM0 cy h a rs u) H) (hD : va_D A (wM0 cy h a rs u)) (hS : va_S A s.heap H locs) (h1 : Ok (fX10_deckAt_b0 x1 u) K) :
    kW p l e rmX10_deckAt s m args below meth c H locs (va_Qi (fun r (_ : Unit) => K r) (fun _ => kPost D A (wM0 cy h a rs u)) A) A 0 ls [] := by
  obtain ⟨hx, hb, hr, hml, hown, hts, hlocks, hK, hA⟩ := id E
  unfold fX10_deckAt_b0 at h1
  refine lv_aload_n hx hb dX10_deckAt_0 rfl (lv_at hl 0 rfl) ?_
  refine lv_iload_n hx hb dX10_deckAt_1 rfl (lv_at hl 1 rfl) ?_
  refine kc_rV0 (b := h) (As := [.int x1]) (rest := []) h1 ⟨hx, hb, hml, hown, hts⟩ (cX10_tideAtM l D cy h a rs H.size u x1) (cwV 1 hts gX10_deckAt_X10_tideAt rfl rfl rfl hdX10_tideAt ⟨Nat.le_of_ble_eq_true rfl, Nat.le_of_ble_eq_true rfl⟩) hK hP hD hS hA (q0 := 0) rfl rfl rfl hl.1 rfl (Nat.le_of_ble_eq_true rfl) dX10_deckAt_2 ⟨Nat.zero_le _, Nat.zero_le _⟩ (fun r2 H locs h1 hP hS => ?_)
  refine lv_aload_n hx hb dX10_deckAt_5 rfl (lv_at hl 0 rfl) ?_
  refine k_get (v := .ref a) (C := RX10) (T := TX10) (N := 23) hx hb hts inX10_deckAt_X10 hown hK hP 0 (wM0_a0 _ _ _ _ _) rfl 0 (by decide) lkX10_deckAt_7 (m0Fs_0 _ _) dX10_deckAt_6 ?_
  refine lv_bipush (v := 19) hx hb dX10_deckAt_9 rfl ?_
  refine k_iald (k := 19) hx hb hK hP 1 (wM0_a1 _ _ _ _ _) rfl rfl dX10_deckAt_11 ?_
  refine lv_iadd hx hb dX10_deckAt_12 ?_
  refine lv_aload_n hx hb dX10_deckAt_13 rfl (lv_at hl 0 rfl) ?_
  refine kc_rV0 (b := h) (As := []) (rest := [.int (r2 + (u 19))]) h1 ⟨hx, hb, hml, hown, hts⟩ (cX10_weightOnDeckM l D cy h a rs H.size u) (cwV 0 hts gX10_deckAt_X10_weightOnDeck rfl rfl rfl hdX10_weightOnDeck ⟨Nat.le_of_ble_eq_true rfl, Nat.le_of_ble_eq_true rfl⟩) hK hP hD hS hA (q0 := 0) rfl rfl rfl hl.1 rfl (Nat.le_of_ble_eq_true rfl) dX10_deckAt_14 ⟨Nat.zero_le _, Nat.zero_le _⟩ (fun r14 H locs h1 hP hS => ?_)
  refine lv_aload_n hx hb dX10_deckAt_17 rfl (lv_at hl 0 rfl) ?_
  refine k_get (v := .ref a) (C := RX10) (T := TX10) (N := 23) hx hb hts inX10_deckAt_X10 hown hK hP 0 (wM0_a0 _ _ _ _ _) rfl 0 (by decide) lkX10_deckAt_7 (m0Fs_0 _ _) dX10_deckAt_18 ?_
  refine lv_bipush (v := 20) hx hb dX10_deckAt_21 rfl ?_
  refine k_iald (k := 20) hx hb hK hP 1 (wM0_a1 _ _ _ _ _) rfl rfl dX10_deckAt_23 ?_
  have g24 := h1.grd1
  replace h1 := h1.grd2
  refine lv_idiv hx hb dX10_deckAt_24 (nz_ne g24) ?_
  refine lv_isub hx hb dX10_deckAt_25 ?_
  exact kret_r hx hb hr hlocks hP hD hS h1 dX10_deckAt_26
def fX10_deckAt (p1 : Int32) (u : Nat → Int32) : Option (Int32) := fX10_deckAt_b0 p1 u
set_option maxHeartbeats 4000000 in
set_option maxRecDepth 100000 in
theorem cX10_deckAtM (l : Launch) (D : va_G) (cy : Nat → ClassId) (h : Nat) (a : Nat) (rs : List Value) (sz : Nat) (u : Nat → Int32) (p1 : Int32) : ∀ (K : Int32 → Prop), Ok (fX10_deckAt p1 u) K → Met l yX10_deckAt wsX10_deckAt rmX10_deckAt (va_Pc [.ref h, .int p1] (kPre D cy sz (wM0 cy h a rs u))) (va_Qi (fun r (_ : Unit) => K r) (fun _ => kPost D (va_A (wM0 cy h a rs u) sz) (wM0 cy h a rs u)) (va_A (wM0 cy h a rs u) sz)) 0 0 (va_A (wM0 cy h a rs u) sz) := by
  intro K h1
  refine Met.ofW (cc := cX10_deckAt) (maxL := 2) (ret := (some .int)) (by decide) rfl ?_
  intro p e s m args below meth c s₁ B hml hv
  obtain ⟨rfl, hsz, hP, hK, hD0⟩ := hv
  subst hsz
  have E : mE D cy RX10 cX10_deckAt 2 (some .int) wsX10_deckAt (va_A (wM0 cy h a rs u) s.heap.size) p s m _ meth c := ⟨B.exec, B.bytes, B.returns, hml, findClass_of_methodNamed B.named, atoms_spec (ws := wsX10_deckAt) B.pre, B.notSynchronized, hK, fun q h => Or.inr h⟩
  have hl := lv_entry ([.ref h, .int p1]) (n := 2) (Nat.le_of_ble_eq_true rfl)
  rw [lg_entry_eq]
  generalize (lg_sl ([.ref h, .int p1]) ++ List.replicate (2 - (lg_sl ([.ref h, .int p1])).length) Slot.unset).toArray = ls at hl ⊢
  exact tX10_deckAt_b0 K E u p1 _ _ _ hl hP hD0.self va_S.rf h1
-- X10_lipNow
theorem inX10_lipNow_X10 : ∀ w ∈ u_ws RX10 TX10 23, w ∈ wsX10_lipNow := k_lays 23 rfl
theorem lkX10_lipNow_7 : Cond.fieldLink RX10 7 "FerryRampModel" "state" "[I" ∈ wsX10_lipNow := List.mem_of_getElem? (i := 1) rfl
theorem hdX10_deckAt : yX10_deckAt.cls = RX10 ∧ yX10_deckAt.cls ≠ "java/lang/invoke/MethodHandle" ∧ yX10_deckAt.cls ≠ "java/lang/invoke/VarHandle" ∧ (parseMethodDescriptor yX10_deckAt.desc).map (fun d => d.parameters.length) = some 1 := by decide +kernel
abbrev rmX10_lipNow : Room := { frames := 3, cells := 0, slots := 0, locals := 65 }
def fX10_lipNow_b0 (u : Nat → Int32) : Option (Int32) :=
  bnd (fX10_deckAt (u 0) u) (fun r13 => some (if 0 ≤ ((u 1) - r13) then ((u 1) - r13) else 0 - ((u 1) - r13)))
set_option maxHeartbeats 4000000 in
set_option maxRecDepth 100000 in
theorem tX10_lipNow_b0 {p : Program} {l : Launch} {e : Env} {s : State} {m : MethodId} {args : Array Value} {below : List Frame} {meth : Method} {c : Code} {D : va_G} {cy : Nat → ClassId} {A : Nat → Prop} {h : Nat} {a : Nat} {rs : List Value} (K : Int32 → Prop) (E : mE D cy RX10 cX10_lipNow 1 (some .int) wsX10_lipNow A p s m args meth c) (u : Nat → Int32)
     (H : Heap) (locs : List Loc) (ls : Array Slot) (hl : lv_has ls 1 [(0, .ref h)]) (hP : va_P D vwCl (wM0 cy h a rs u) H) (hD : va_D A (wM0 cy h a rs u)) (hS : va_S A s.heap H locs) (h1 : Ok (fX10_lipNow_b0 u) K) :
    kW p l e rmX10_lipNow s m args below meth c H locs (va_Qi (fun r (_ : Unit) => K r) (fun _ => kPost D A (wM0 cy h a rs u)) A) A 0 ls [] := by
  obtain ⟨hx, hb, hr, hml, hown, hts, hlocks, hK, hA⟩ := id E
  unfold fX10_lipNow_b0 at h1
  refine lv_aload_n hx hb dX10_lipNow_0 rfl (lv_at hl 0 rfl) ?_
  refine k_get (v := .ref a) (C := RX10) (T := TX10) (N := 23) hx hb hts inX10_lipNow_X10 hown hK hP 0 (wM0_a0 _ _ _ _ _) rfl 0 (by decide) lkX10_lipNow_7 (m0Fs_0 _ _) dX10_lipNow_1 ?_
  refine lv_iconst (v := 1) hx hb dX10_lipNow_4 rfl ?_
  refine k_iald (k := 1) hx hb hK hP 1 (wM0_a1 _ _ _ _ _) rfl rfl dX10_lipNow_5 ?_
  refine lv_aload_n hx hb dX10_lipNow_6 rfl (lv_at hl 0 rfl) ?_
  refine lv_aload_n hx hb dX10_lipNow_7 rfl (lv_at hl 0 rfl) ?_
  refine k_get (v := .ref a) (C := RX10) (T := TX10) (N := 23) hx hb hts inX10_lipNow_X10 hown hK hP 0 (wM0_a0 _ _ _ _ _) rfl 0 (by decide) lkX10_lipNow_7 (m0Fs_0 _ _) dX10_lipNow_8 ?_
  refine lv_iconst (v := 0) hx hb dX10_lipNow_11 rfl ?_
  refine k_iald (k := 0) hx hb hK hP 1 (wM0_a1 _ _ _ _ _) rfl rfl dX10_lipNow_12 ?_
  refine kc_rV0 (b := h) (As := [.int (u 0)]) (rest := [.int (u 1)]) h1 ⟨hx, hb, hml, hown, hts⟩ (cX10_deckAtM l D cy h a rs H.size u (u 0)) (cwV 1 hts gX10_lipNow_X10_deckAt rfl rfl rfl hdX10_deckAt ⟨Nat.le_of_ble_eq_true rfl, Nat.le_of_ble_eq_true rfl⟩) hK hP hD hS hA (q0 := 0) rfl rfl rfl hl.1 rfl (Nat.le_of_ble_eq_true rfl) dX10_lipNow_13 ⟨Nat.zero_le _, Nat.zero_le _⟩ (fun r13 H locs h1 hP hS => ?_)
  refine lv_isub hx hb dX10_lipNow_16 ?_
  refine va_mabs hx hb (hml.trans hl.1.symm) hown (hts _ (List.mem_of_getElem? (i := 2) rfl)) (hts _ (List.mem_of_getElem? (i := 3) rfl)) (hts _ (List.mem_of_getElem? (i := 4) rfl)) (hts _ (List.mem_of_getElem? (i := 5) rfl)) (Nat.le_of_ble_eq_true rfl) (Nat.le_of_ble_eq_true rfl) (Nat.zero_le _) (Nat.zero_le _) dX10_lipNow_17 ?_
  exact kret_r hx hb hr hlocks hP hD hS h1 dX10_lipNow_20
def fX10_lipNow (u : Nat → Int32) : Option (Int32) := fX10_lipNow_b0 u
set_option maxHeartbeats 4000000 in
set_option maxRecDepth 100000 in
theorem cX10_lipNowM (l : Launch) (D : va_G) (cy : Nat → ClassId) (h : Nat) (a : Nat) (rs : List Value) (sz : Nat) (u : Nat → Int32) : ∀ (K : Int32 → Prop), Ok (fX10_lipNow u) K → Met l yX10_lipNow wsX10_lipNow rmX10_lipNow (va_Pc [.ref h] (kPre D cy sz (wM0 cy h a rs u))) (va_Qi (fun r (_ : Unit) => K r) (fun _ => kPost D (va_A (wM0 cy h a rs u) sz) (wM0 cy h a rs u)) (va_A (wM0 cy h a rs u) sz)) 0 0 (va_A (wM0 cy h a rs u) sz) := by
  intro K h1
  refine Met.ofW (cc := cX10_lipNow) (maxL := 1) (ret := (some .int)) (by decide) rfl ?_
  intro p e s m args below meth c s₁ B hml hv
  obtain ⟨rfl, hsz, hP, hK, hD0⟩ := hv
  subst hsz
  have E : mE D cy RX10 cX10_lipNow 1 (some .int) wsX10_lipNow (va_A (wM0 cy h a rs u) s.heap.size) p s m _ meth c := ⟨B.exec, B.bytes, B.returns, hml, findClass_of_methodNamed B.named, atoms_spec (ws := wsX10_lipNow) B.pre, B.notSynchronized, hK, fun q h => Or.inr h⟩
  have hl := lv_entry ([.ref h]) (n := 1) (Nat.le_of_ble_eq_true rfl)
  rw [lg_entry_eq]
  generalize (lg_sl ([.ref h]) ++ List.replicate (1 - (lg_sl ([.ref h])).length) Slot.unset).toArray = ls at hl ⊢
  exact tX10_lipNow_b0 K E u _ _ _ hl hP hD0.self va_S.rf h1
-- X10_slopeNow
theorem inX10_slopeNow_X10 : ∀ w ∈ u_ws RX10 TX10 23, w ∈ wsX10_slopeNow := k_lays 6 rfl
theorem lkX10_slopeNow_7 : Cond.fieldLink RX10 7 "FerryRampModel" "state" "[I" ∈ wsX10_slopeNow := List.mem_of_getElem? (i := 1) rfl
abbrev rmX10_slopeNow : Room := { frames := 1, cells := 0, slots := 0, locals := 40 }
def fX10_slopeNow_b0 (u : Nat → Int32) : Option (Int32) :=
  some (if 0 ≤ ((u 1) - (u 18)) then ((u 1) - (u 18)) else 0 - ((u 1) - (u 18)))
set_option maxHeartbeats 4000000 in
set_option maxRecDepth 100000 in
theorem tX10_slopeNow_b0 {p : Program} {l : Launch} {e : Env} {s : State} {m : MethodId} {args : Array Value} {below : List Frame} {meth : Method} {c : Code} {D : va_G} {cy : Nat → ClassId} {A : Nat → Prop} {h : Nat} {a : Nat} {rs : List Value} (K : Int32 → Prop) (E : mE D cy RX10 cX10_slopeNow 1 (some .int) wsX10_slopeNow A p s m args meth c) (u : Nat → Int32)
     (H : Heap) (locs : List Loc) (ls : Array Slot) (hl : lv_has ls 1 [(0, .ref h)]) (hP : va_P D vwCl (wM0 cy h a rs u) H) (hD : va_D A (wM0 cy h a rs u)) (hS : va_S A s.heap H locs) (h1 : Ok (fX10_slopeNow_b0 u) K) :
    kW p l e rmX10_slopeNow s m args below meth c H locs (va_Qi (fun r (_ : Unit) => K r) (fun _ => kPost D A (wM0 cy h a rs u)) A) A 0 ls [] := by
  obtain ⟨hx, hb, hr, hml, hown, hts, hlocks, hK, hA⟩ := id E
  unfold fX10_slopeNow_b0 at h1
  refine lv_aload_n hx hb dX10_slopeNow_0 rfl (lv_at hl 0 rfl) ?_
  refine k_get (v := .ref a) (C := RX10) (T := TX10) (N := 23) hx hb hts inX10_slopeNow_X10 hown hK hP 0 (wM0_a0 _ _ _ _ _) rfl 0 (by decide) lkX10_slopeNow_7 (m0Fs_0 _ _) dX10_slopeNow_1 ?_
  refine lv_iconst (v := 1) hx hb dX10_slopeNow_4 rfl ?_
  refine k_iald (k := 1) hx hb hK hP 1 (wM0_a1 _ _ _ _ _) rfl rfl dX10_slopeNow_5 ?_
  refine lv_aload_n hx hb dX10_slopeNow_6 rfl (lv_at hl 0 rfl) ?_
  refine k_get (v := .ref a) (C := RX10) (T := TX10) (N := 23) hx hb hts inX10_slopeNow_X10 hown hK hP 0 (wM0_a0 _ _ _ _ _) rfl 0 (by decide) lkX10_slopeNow_7 (m0Fs_0 _ _) dX10_slopeNow_7 ?_
  refine lv_bipush (v := 18) hx hb dX10_slopeNow_10 rfl ?_
  refine k_iald (k := 18) hx hb hK hP 1 (wM0_a1 _ _ _ _ _) rfl rfl dX10_slopeNow_12 ?_
  refine lv_isub hx hb dX10_slopeNow_13 ?_
  refine va_mabs hx hb (hml.trans hl.1.symm) hown (hts _ (List.mem_of_getElem? (i := 2) rfl)) (hts _ (List.mem_of_getElem? (i := 3) rfl)) (hts _ (List.mem_of_getElem? (i := 4) rfl)) (hts _ (List.mem_of_getElem? (i := 5) rfl)) (Nat.le_of_ble_eq_true rfl) (Nat.le_of_ble_eq_true rfl) (Nat.zero_le _) (Nat.zero_le _) dX10_slopeNow_14 ?_
  exact kret_r hx hb hr hlocks hP hD hS h1 dX10_slopeNow_17
def fX10_slopeNow (u : Nat → Int32) : Option (Int32) := fX10_slopeNow_b0 u
set_option maxHeartbeats 4000000 in
set_option maxRecDepth 100000 in
theorem cX10_slopeNowM (l : Launch) (D : va_G) (cy : Nat → ClassId) (h : Nat) (a : Nat) (rs : List Value) (sz : Nat) (u : Nat → Int32) : ∀ (K : Int32 → Prop), Ok (fX10_slopeNow u) K → Met l yX10_slopeNow wsX10_slopeNow rmX10_slopeNow (va_Pc [.ref h] (kPre D cy sz (wM0 cy h a rs u))) (va_Qi (fun r (_ : Unit) => K r) (fun _ => kPost D (va_A (wM0 cy h a rs u) sz) (wM0 cy h a rs u)) (va_A (wM0 cy h a rs u) sz)) 0 0 (va_A (wM0 cy h a rs u) sz) := by
  intro K h1
  refine Met.ofW (cc := cX10_slopeNow) (maxL := 1) (ret := (some .int)) (by decide) rfl ?_
  intro p e s m args below meth c s₁ B hml hv
  obtain ⟨rfl, hsz, hP, hK, hD0⟩ := hv
  subst hsz
  have E : mE D cy RX10 cX10_slopeNow 1 (some .int) wsX10_slopeNow (va_A (wM0 cy h a rs u) s.heap.size) p s m _ meth c := ⟨B.exec, B.bytes, B.returns, hml, findClass_of_methodNamed B.named, atoms_spec (ws := wsX10_slopeNow) B.pre, B.notSynchronized, hK, fun q h => Or.inr h⟩
  have hl := lv_entry ([.ref h]) (n := 1) (Nat.le_of_ble_eq_true rfl)
  rw [lg_entry_eq]
  generalize (lg_sl ([.ref h]) ++ List.replicate (1 - (lg_sl ([.ref h])).length) Slot.unset).toArray = ls at hl ⊢
  exact tX10_slopeNow_b0 K E u _ _ _ hl hP hD0.self va_S.rf h1
-- X10_isFor
abbrev rmX10_isFor : Room := { frames := 1, cells := 0, slots := 0, locals := 22 }
def fX10_isFor_b17 (x1 : Int32) (x2 : Int32) (u : Nat → Int32) : Option (Int32) :=
  bnd (fX10_ofCar x1 3 u) (fun r20 => (if r20 = x2 then some 1 else some 0))
set_option maxHeartbeats 4000000 in
set_option maxRecDepth 100000 in
theorem tX10_isFor_b17 {p : Program} {l : Launch} {e : Env} {s : State} {m : MethodId} {args : Array Value} {below : List Frame} {meth : Method} {c : Code} {D : va_G} {cy : Nat → ClassId} {A : Nat → Prop} {h : Nat} {a : Nat} {rs : List Value} (K : Int32 → Prop) (E : mE D cy RX10 cX10_isFor 4 (some .boolean) wsX10_isFor A p s m args meth c) (u : Nat → Int32)
     (x1 : Int32) (x2 : Int32) (H : Heap) (locs : List Loc) (ls : Array Slot) (hl : lv_has ls 4 [(0, .ref h), (1, .int x1), (2, .int x2)]) (hP : va_P D vwCl (wM0 cy h a rs u) H) (hD : va_D A (wM0 cy h a rs u)) (hS : va_S A s.heap H locs) (h1 : Ok (fX10_isFor_b17 x1 x2 u) K) :
    kW p l e rmX10_isFor s m args below meth c H locs (va_Qi (fun r (_ : Unit) => K r) (fun _ => kPost D A (wM0 cy h a rs u)) A) A 17 ls [] := by
  obtain ⟨hx, hb, hr, hml, hown, hts, hlocks, hK, hA⟩ := id E
  unfold fX10_isFor_b17 at h1
  refine lv_aload_n hx hb dX10_isFor_17 rfl (lv_at hl 0 rfl) ?_
  refine lv_iload_n hx hb dX10_isFor_18 rfl (lv_at hl 1 rfl) ?_
  refine lv_iconst (v := 3) hx hb dX10_isFor_19 rfl ?_
  refine kc_rV0 (b := h) (As := [.int x1, .int 3]) (rest := []) h1 ⟨hx, hb, hml, hown, hts⟩ (cX10_ofCarM l D cy h a rs H.size u x1 3) (cwV 2 hts gX10_isFor_X10_ofCar rfl rfl rfl hdX10_ofCar ⟨Nat.le_of_ble_eq_true rfl, Nat.le_of_ble_eq_true rfl⟩) hK hP hD hS hA (q0 := 0) rfl rfl rfl hl.1 rfl (Nat.le_of_ble_eq_true rfl) dX10_isFor_20 ⟨Nat.zero_le _, Nat.zero_le _⟩ (fun r20 H locs h1 hP hS => ?_)
  refine lv_iload_n hx hb dX10_isFor_23 rfl (lv_at hl 2 rfl) ?_
  refine lv_icmp_ne (tgt := 31) hx hb dX10_isFor_24 (by decide) (fun c24 => ?_) (fun c24 => ?_)
  · replace h1 := Ok.neg c24 h1
    refine lv_iconst (v := 0) hx hb dX10_isFor_31 rfl ?_
    exact kret_rz hx hb hr rfl hlocks hP hD hS h1 dX10_isFor_32
  · replace h1 := Ok.pos c24 h1
    refine lv_iconst (v := 1) hx hb dX10_isFor_27 rfl ?_
    refine lv_goto (tgt := 32) hx hb dX10_isFor_28 (by decide) ?_
    exact kret_rz hx hb hr rfl hlocks hP hD hS h1 dX10_isFor_32
def fX10_isFor_b0 (x1 : Int32) (x2 : Int32) (u : Nat → Int32) : Option (Int32) :=
  bnd (fX10_ofCar x1 2 u) (fun r3 => (if r3 = 2 then fX10_isFor_b17 x1 x2 u else (if r3 = 1 then fX10_isFor_b17 x1 x2 u else some 0)))
set_option maxHeartbeats 4000000 in
set_option maxRecDepth 100000 in
theorem tX10_isFor_b0 {p : Program} {l : Launch} {e : Env} {s : State} {m : MethodId} {args : Array Value} {below : List Frame} {meth : Method} {c : Code} {D : va_G} {cy : Nat → ClassId} {A : Nat → Prop} {h : Nat} {a : Nat} {rs : List Value} (K : Int32 → Prop) (E : mE D cy RX10 cX10_isFor 4 (some .boolean) wsX10_isFor A p s m args meth c) (u : Nat → Int32)
     (x1 : Int32) (x2 : Int32) (H : Heap) (locs : List Loc) (ls : Array Slot) (hl : lv_has ls 4 [(0, .ref h), (1, .int x1), (2, .int x2)]) (hP : va_P D vwCl (wM0 cy h a rs u) H) (hD : va_D A (wM0 cy h a rs u)) (hS : va_S A s.heap H locs) (h1 : Ok (fX10_isFor_b0 x1 x2 u) K) :
    kW p l e rmX10_isFor s m args below meth c H locs (va_Qi (fun r (_ : Unit) => K r) (fun _ => kPost D A (wM0 cy h a rs u)) A) A 0 ls [] := by
  obtain ⟨hx, hb, hr, hml, hown, hts, hlocks, hK, hA⟩ := id E
  unfold fX10_isFor_b0 at h1
  refine lv_aload_n hx hb dX10_isFor_0 rfl (lv_at hl 0 rfl) ?_
  refine lv_iload_n hx hb dX10_isFor_1 rfl (lv_at hl 1 rfl) ?_
  refine lv_iconst (v := 2) hx hb dX10_isFor_2 rfl ?_
  refine kc_rV0 (b := h) (As := [.int x1, .int 2]) (rest := []) h1 ⟨hx, hb, hml, hown, hts⟩ (cX10_ofCarM l D cy h a rs H.size u x1 2) (cwV 2 hts gX10_isFor_X10_ofCar rfl rfl rfl hdX10_ofCar ⟨Nat.le_of_ble_eq_true rfl, Nat.le_of_ble_eq_true rfl⟩) hK hP hD hS hA (q0 := 0) rfl rfl rfl hl.1 rfl (Nat.le_of_ble_eq_true rfl) dX10_isFor_3 ⟨Nat.zero_le _, Nat.zero_le _⟩ (fun r3 H locs h1 hP hS => ?_)
  refine lv_istore_n (lv' := [(3, .int r3), (0, .ref h), (1, .int x1), (2, .int x2)]) hx hb dX10_isFor_6 rfl hl (by decide) rfl (fun ls hl => ?_)
  refine lv_iload_n hx hb dX10_isFor_7 rfl (lv_at hl 0 rfl) ?_
  refine lv_iconst (v := 2) hx hb dX10_isFor_8 rfl ?_
  refine lv_icmp_eq (tgt := 17) hx hb dX10_isFor_9 (by decide) (fun c9 => ?_) (fun c9 => ?_)
  · replace h1 := Ok.pos c9 h1
    exact tX10_isFor_b17 K E u x1 x2 H locs ls (lv_sub hl [1, 2, 3] rfl) hP hD hS h1
  · replace h1 := Ok.neg c9 h1
    refine lv_iload_n hx hb dX10_isFor_12 rfl (lv_at hl 0 rfl) ?_
    refine lv_iconst (v := 1) hx hb dX10_isFor_13 rfl ?_
    refine lv_icmp_ne (tgt := 31) hx hb dX10_isFor_14 (by decide) (fun c14 => ?_) (fun c14 => ?_)
    · replace h1 := Ok.neg c14 h1
      refine lv_iconst (v := 0) hx hb dX10_isFor_31 rfl ?_
      exact kret_rz hx hb hr rfl hlocks hP hD hS h1 dX10_isFor_32
    · replace h1 := Ok.pos c14 h1
      exact tX10_isFor_b17 K E u x1 x2 H locs ls (lv_sub hl [1, 2, 3] rfl) hP hD hS h1
def fX10_isFor (p1 : Int32) (p2 : Int32) (u : Nat → Int32) : Option (Int32) := fX10_isFor_b0 p1 p2 u
set_option maxHeartbeats 4000000 in
set_option maxRecDepth 100000 in
theorem cX10_isForM (l : Launch) (D : va_G) (cy : Nat → ClassId) (h : Nat) (a : Nat) (rs : List Value) (sz : Nat) (u : Nat → Int32) (p1 : Int32) (p2 : Int32) : ∀ (K : Int32 → Prop), Ok (fX10_isFor p1 p2 u) K → Met l yX10_isFor wsX10_isFor rmX10_isFor (va_Pc [.ref h, .int p1, .int p2] (kPre D cy sz (wM0 cy h a rs u))) (va_Qi (fun r (_ : Unit) => K r) (fun _ => kPost D (va_A (wM0 cy h a rs u) sz) (wM0 cy h a rs u)) (va_A (wM0 cy h a rs u) sz)) 0 0 (va_A (wM0 cy h a rs u) sz) := by
  intro K h1
  refine Met.ofW (cc := cX10_isFor) (maxL := 4) (ret := (some .boolean)) (by decide) rfl ?_
  intro p e s m args below meth c s₁ B hml hv
  obtain ⟨rfl, hsz, hP, hK, hD0⟩ := hv
  subst hsz
  have E : mE D cy RX10 cX10_isFor 4 (some .boolean) wsX10_isFor (va_A (wM0 cy h a rs u) s.heap.size) p s m _ meth c := ⟨B.exec, B.bytes, B.returns, hml, findClass_of_methodNamed B.named, atoms_spec (ws := wsX10_isFor) B.pre, B.notSynchronized, hK, fun q h => Or.inr h⟩
  have hl := lv_entry ([.ref h, .int p1, .int p2]) (n := 4) (Nat.le_of_ble_eq_true rfl)
  rw [lg_entry_eq]
  generalize (lg_sl ([.ref h, .int p1, .int p2]) ++ List.replicate (4 - (lg_sl ([.ref h, .int p1, .int p2])).length) Slot.unset).toArray = ls at hl ⊢
  exact tX10_isFor_b0 K E u p1 p2 _ _ _ hl hP hD0.self va_S.rf h1
-- X10_weightOf
theorem inX10_weightOf_X10 : ∀ w ∈ u_ws RX10 TX10 23, w ∈ wsX10_weightOf := k_lays 11 rfl
theorem lkX10_weightOf_7 : Cond.fieldLink RX10 7 "FerryRampModel" "state" "[I" ∈ wsX10_weightOf := List.mem_of_getElem? (i := 1) rfl
theorem hdX10_isFor : yX10_isFor.cls = RX10 ∧ yX10_isFor.cls ≠ "java/lang/invoke/MethodHandle" ∧ yX10_isFor.cls ≠ "java/lang/invoke/VarHandle" ∧ (parseMethodDescriptor yX10_isFor.desc).map (fun d => d.parameters.length) = some 2 := by decide +kernel
abbrev rmX10_weightOf : Room := { frames := 2, cells := 0, slots := 0, locals := 45 }
def fX10_weightOf_b35 (k4 : Int32 × Int32 × Int32 → Option (Int32)) (x1 : Int32) (x3 : Int32) (s0 : Int32) (s1 : Int32) (u : Nat → Int32) : Option (Int32) :=
  k4 (x1, s0 + s1, x3 + 1)
set_option maxHeartbeats 4000000 in
set_option maxRecDepth 100000 in
theorem tX10_weightOf_b35 {p : Program} {l : Launch} {e : Env} {s : State} {m : MethodId} {args : Array Value} {below : List Frame} {meth : Method} {c : Code} {D : va_G} {cy : Nat → ClassId} {A : Nat → Prop} {h : Nat} {a : Nat} {rs : List Value} (K : Int32 → Prop) (E : mE D cy RX10 cX10_weightOf 4 (some .int) wsX10_weightOf A p s m args meth c) (u : Nat → Int32)
    (k4 : Int32 × Int32 × Int32 → Option (Int32)) (hk4 : ∀ (x1 : Int32) (x2 : Int32) (x3 : Int32) (H : Heap) (locs : List Loc) (ls : Array Slot), lv_has ls 4 [(0, .ref h), (1, .int x1), (2, .int x2), (3, .int x3)] → va_P D vwCl (wM0 cy h a rs u) H → va_D A (wM0 cy h a rs u) → va_S A s.heap H locs → Ok (k4 (x1, x2, x3)) K → kW p l e rmX10_weightOf s m args below meth c H locs (va_Qi (fun r (_ : Unit) => K r) (fun _ => kPost D A (wM0 cy h a rs u)) A) A 4 ls [])
     (x1 : Int32) (x3 : Int32) (s0 : Int32) (s1 : Int32) (H : Heap) (locs : List Loc) (ls : Array Slot) (hl : lv_has ls 4 [(0, .ref h), (1, .int x1), (3, .int x3)]) (hP : va_P D vwCl (wM0 cy h a rs u) H) (hD : va_D A (wM0 cy h a rs u)) (hS : va_S A s.heap H locs) (h1 : Ok (fX10_weightOf_b35 k4 x1 x3 s0 s1 u) K) :
    kW p l e rmX10_weightOf s m args below meth c H locs (va_Qi (fun r (_ : Unit) => K r) (fun _ => kPost D A (wM0 cy h a rs u)) A) A 35 ls [.int s1, .int s0] := by
  obtain ⟨hx, hb, hr, hml, hown, hts, hlocks, hK, hA⟩ := id E
  unfold fX10_weightOf_b35 at h1
  refine lv_iadd hx hb dX10_weightOf_35 ?_
  refine lv_istore_n (lv' := [(2, .int (s0 + s1)), (0, .ref h), (1, .int x1), (3, .int x3)]) hx hb dX10_weightOf_36 rfl hl (by decide) rfl (fun ls hl => ?_)
  refine lv_iinc (v := x3 + 1) (lv' := [(3, .int (x3 + 1)), (2, .int (s0 + s1)), (0, .ref h), (1, .int x1)]) hx hb dX10_weightOf_37 hl (k := 3) rfl rfl (by decide) rfl (fun ls hl => ?_)
  refine lv_goto (tgt := 4) hx hb dX10_weightOf_40 (by decide) ?_
  exact hk4 x1 (s0 + s1) (x3 + 1) H locs ls (lv_sub hl [2, 3, 1, 0] rfl) hP hD hS h1
def fX10_weightOf_b4 (k4 : Int32 × Int32 × Int32 → Option (Int32)) (x1 : Int32) (x2 : Int32) (x3 : Int32) (u : Nat → Int32) : Option (Int32) :=
  (if (u 13) ≤ x3 then some x2 else bnd (fX10_isFor x3 x1 u) (fun r19 => (if r19 = 0 then fX10_weightOf_b35 k4 x1 x3 x2 0 u else bnd (fX10_ofCar x3 1 u) (fun r28 => fX10_weightOf_b35 k4 x1 x3 x2 r28 u))))
set_option maxHeartbeats 4000000 in
set_option maxRecDepth 100000 in
theorem tX10_weightOf_b4 {p : Program} {l : Launch} {e : Env} {s : State} {m : MethodId} {args : Array Value} {below : List Frame} {meth : Method} {c : Code} {D : va_G} {cy : Nat → ClassId} {A : Nat → Prop} {h : Nat} {a : Nat} {rs : List Value} (K : Int32 → Prop) (E : mE D cy RX10 cX10_weightOf 4 (some .int) wsX10_weightOf A p s m args meth c) (u : Nat → Int32)
    (k4 : Int32 × Int32 × Int32 → Option (Int32)) (hk4 : ∀ (x1 : Int32) (x2 : Int32) (x3 : Int32) (H : Heap) (locs : List Loc) (ls : Array Slot), lv_has ls 4 [(0, .ref h), (1, .int x1), (2, .int x2), (3, .int x3)] → va_P D vwCl (wM0 cy h a rs u) H → va_D A (wM0 cy h a rs u) → va_S A s.heap H locs → Ok (k4 (x1, x2, x3)) K → kW p l e rmX10_weightOf s m args below meth c H locs (va_Qi (fun r (_ : Unit) => K r) (fun _ => kPost D A (wM0 cy h a rs u)) A) A 4 ls [])
     (x1 : Int32) (x2 : Int32) (x3 : Int32) (H : Heap) (locs : List Loc) (ls : Array Slot) (hl : lv_has ls 4 [(0, .ref h), (1, .int x1), (2, .int x2), (3, .int x3)]) (hP : va_P D vwCl (wM0 cy h a rs u) H) (hD : va_D A (wM0 cy h a rs u)) (hS : va_S A s.heap H locs) (h1 : Ok (fX10_weightOf_b4 k4 x1 x2 x3 u) K) :
    kW p l e rmX10_weightOf s m args below meth c H locs (va_Qi (fun r (_ : Unit) => K r) (fun _ => kPost D A (wM0 cy h a rs u)) A) A 4 ls [] := by
  obtain ⟨hx, hb, hr, hml, hown, hts, hlocks, hK, hA⟩ := id E
  unfold fX10_weightOf_b4 at h1
  refine lv_iload_n hx hb dX10_weightOf_4 rfl (lv_at hl 3 rfl) ?_
  refine lv_aload_n hx hb dX10_weightOf_5 rfl (lv_at hl 0 rfl) ?_
  refine k_get (v := .ref a) (C := RX10) (T := TX10) (N := 23) hx hb hts inX10_weightOf_X10 hown hK hP 0 (wM0_a0 _ _ _ _ _) rfl 0 (by decide) lkX10_weightOf_7 (m0Fs_0 _ _) dX10_weightOf_6 ?_
  refine lv_bipush (v := 13) hx hb dX10_weightOf_9 rfl ?_
  refine k_iald (k := 13) hx hb hK hP 1 (wM0_a1 _ _ _ _ _) rfl rfl dX10_weightOf_11 ?_
  refine lv_icmp_ge (tgt := 43) hx hb dX10_weightOf_12 (by decide) (fun c12 => ?_) (fun c12 => ?_)
  · replace h1 := Ok.pos c12 h1
    refine lv_iload_n hx hb dX10_weightOf_43 rfl (lv_at hl 2 rfl) ?_
    exact kret_r hx hb hr hlocks hP hD hS h1 dX10_weightOf_44
  · replace h1 := Ok.neg c12 h1
    refine lv_iload_n hx hb dX10_weightOf_15 rfl (lv_at hl 2 rfl) ?_
    refine lv_aload_n hx hb dX10_weightOf_16 rfl (lv_at hl 0 rfl) ?_
    refine lv_iload_n hx hb dX10_weightOf_17 rfl (lv_at hl 3 rfl) ?_
    refine lv_iload_n hx hb dX10_weightOf_18 rfl (lv_at hl 1 rfl) ?_
    refine kc_rV0 (b := h) (As := [.int x3, .int x1]) (rest := [.int x2]) h1 ⟨hx, hb, hml, hown, hts⟩ (cX10_isForM l D cy h a rs H.size u x3 x1) (cwV 2 hts gX10_weightOf_X10_isFor rfl rfl rfl hdX10_isFor ⟨Nat.le_of_ble_eq_true rfl, Nat.le_of_ble_eq_true rfl⟩) hK hP hD hS hA (q0 := 0) rfl rfl rfl hl.1 rfl (Nat.le_of_ble_eq_true rfl) dX10_weightOf_19 ⟨Nat.zero_le _, Nat.zero_le _⟩ (fun r19 H locs h1 hP hS => ?_)
    refine lv_if_eq (tgt := 34) hx hb dX10_weightOf_22 (by decide) (fun c22 => ?_) (fun c22 => ?_)
    · replace h1 := Ok.pos c22 h1
      refine lv_iconst (v := 0) hx hb dX10_weightOf_34 rfl ?_
      exact tX10_weightOf_b35 K E u k4 hk4 x1 x3 x2 0 H locs ls (lv_sub hl [0, 1, 3] rfl) hP hD hS h1
    · replace h1 := Ok.neg c22 h1
      refine lv_aload_n hx hb dX10_weightOf_25 rfl (lv_at hl 0 rfl) ?_
      refine lv_iload_n hx hb dX10_weightOf_26 rfl (lv_at hl 3 rfl) ?_
      refine lv_iconst (v := 1) hx hb dX10_weightOf_27 rfl ?_
      refine kc_rV0 (b := h) (As := [.int x3, .int 1]) (rest := [.int x2]) h1 ⟨hx, hb, hml, hown, hts⟩ (cX10_ofCarM l D cy h a rs H.size u x3 1) (cwV 2 hts gX10_weightOf_X10_ofCar rfl rfl rfl hdX10_ofCar ⟨Nat.le_of_ble_eq_true rfl, Nat.le_of_ble_eq_true rfl⟩) hK hP hD hS hA (q0 := 0) rfl rfl rfl hl.1 rfl (Nat.le_of_ble_eq_true rfl) dX10_weightOf_28 ⟨Nat.zero_le _, Nat.zero_le _⟩ (fun r28 H locs h1 hP hS => ?_)
      refine lv_goto (tgt := 35) hx hb dX10_weightOf_31 (by decide) ?_
      exact tX10_weightOf_b35 K E u k4 hk4 x1 x3 x2 r28 H locs ls (lv_sub hl [0, 1, 3] rfl) hP hD hS h1
theorem tX10_weightOf_l4 {p : Program} {l : Launch} {e : Env} {s : State} {m : MethodId} {args : Array Value} {below : List Frame} {meth : Method} {c : Code} {D : va_G} {cy : Nat → ClassId} {A : Nat → Prop} {h : Nat} {a : Nat} {rs : List Value} (K : Int32 → Prop) (E : mE D cy RX10 cX10_weightOf 4 (some .int) wsX10_weightOf A p s m args meth c) (u : Nat → Int32) : ∀ (n9 : Nat) (x1 : Int32) (x2 : Int32) (x3 : Int32) (H : Heap) (locs : List Loc) (ls : Array Slot), lv_has ls 4 [(0, .ref h), (1, .int x1), (2, .int x2), (3, .int x3)] → va_P D vwCl (wM0 cy h a rs u) H → va_D A (wM0 cy h a rs u) → va_S A s.heap H locs → Ok (lop (fun y z => fX10_weightOf_b4 y z.1 z.2.1 z.2.2 u) n9 (x1, x2, x3)) K → kW p l e rmX10_weightOf s m args below meth c H locs (va_Qi (fun r (_ : Unit) => K r) (fun _ => kPost D A (wM0 cy h a rs u)) A) A 4 ls [] := by
  intro n9
  induction n9 with
  | zero =>
    intro x1 x2 x3 H locs ls hl hP hD hS h1
    exact h1.no
  | succ n9 ih =>
    intro x1 x2 x3 H locs ls hl hP hD hS h1
    exact tX10_weightOf_b4 K E u (lop (fun y z => fX10_weightOf_b4 y z.1 z.2.1 z.2.2 u) n9) (fun x1 x2 x3 H locs ls hl hP hD hS h1 => ih x1 x2 x3 H locs ls hl hP hD hS h1) x1 x2 x3 H locs ls hl hP hD hS h1
def fX10_weightOf_b0 (x1 : Int32) (u : Nat → Int32) : Option (Int32) :=
  lop (fun y z => fX10_weightOf_b4 y z.1 z.2.1 z.2.2 u) LF (x1, 0, 0)
set_option maxHeartbeats 4000000 in
set_option maxRecDepth 100000 in
theorem tX10_weightOf_b0 {p : Program} {l : Launch} {e : Env} {s : State} {m : MethodId} {args : Array Value} {below : List Frame} {meth : Method} {c : Code} {D : va_G} {cy : Nat → ClassId} {A : Nat → Prop} {h : Nat} {a : Nat} {rs : List Value} (K : Int32 → Prop) (E : mE D cy RX10 cX10_weightOf 4 (some .int) wsX10_weightOf A p s m args meth c) (u : Nat → Int32)
     (x1 : Int32) (H : Heap) (locs : List Loc) (ls : Array Slot) (hl : lv_has ls 4 [(0, .ref h), (1, .int x1)]) (hP : va_P D vwCl (wM0 cy h a rs u) H) (hD : va_D A (wM0 cy h a rs u)) (hS : va_S A s.heap H locs) (h1 : Ok (fX10_weightOf_b0 x1 u) K) :
    kW p l e rmX10_weightOf s m args below meth c H locs (va_Qi (fun r (_ : Unit) => K r) (fun _ => kPost D A (wM0 cy h a rs u)) A) A 0 ls [] := by
  obtain ⟨hx, hb, hr, hml, hown, hts, hlocks, hK, hA⟩ := id E
  unfold fX10_weightOf_b0 at h1
  refine lv_iconst (v := 0) hx hb dX10_weightOf_0 rfl ?_
  refine lv_istore_n (lv' := [(2, .int 0), (0, .ref h), (1, .int x1)]) hx hb dX10_weightOf_1 rfl hl (by decide) rfl (fun ls hl => ?_)
  refine lv_iconst (v := 0) hx hb dX10_weightOf_2 rfl ?_
  refine lv_istore_n (lv' := [(3, .int 0), (2, .int 0), (0, .ref h), (1, .int x1)]) hx hb dX10_weightOf_3 rfl hl (by decide) rfl (fun ls hl => ?_)
  exact tX10_weightOf_l4 K E u LF x1 0 0 H locs ls (lv_sub hl [2, 3, 1, 0] rfl) hP hD hS h1
def fX10_weightOf (p1 : Int32) (u : Nat → Int32) : Option (Int32) := fX10_weightOf_b0 p1 u
set_option maxHeartbeats 4000000 in
set_option maxRecDepth 100000 in
theorem cX10_weightOfM (l : Launch) (D : va_G) (cy : Nat → ClassId) (h : Nat) (a : Nat) (rs : List Value) (sz : Nat) (u : Nat → Int32) (p1 : Int32) : ∀ (K : Int32 → Prop), Ok (fX10_weightOf p1 u) K → Met l yX10_weightOf wsX10_weightOf rmX10_weightOf (va_Pc [.ref h, .int p1] (kPre D cy sz (wM0 cy h a rs u))) (va_Qi (fun r (_ : Unit) => K r) (fun _ => kPost D (va_A (wM0 cy h a rs u) sz) (wM0 cy h a rs u)) (va_A (wM0 cy h a rs u) sz)) 0 0 (va_A (wM0 cy h a rs u) sz) := by
  intro K h1
  refine Met.ofW (cc := cX10_weightOf) (maxL := 4) (ret := (some .int)) (by decide) rfl ?_
  intro p e s m args below meth c s₁ B hml hv
  obtain ⟨rfl, hsz, hP, hK, hD0⟩ := hv
  subst hsz
  have E : mE D cy RX10 cX10_weightOf 4 (some .int) wsX10_weightOf (va_A (wM0 cy h a rs u) s.heap.size) p s m _ meth c := ⟨B.exec, B.bytes, B.returns, hml, findClass_of_methodNamed B.named, atoms_spec (ws := wsX10_weightOf) B.pre, B.notSynchronized, hK, fun q h => Or.inr h⟩
  have hl := lv_entry ([.ref h, .int p1]) (n := 4) (Nat.le_of_ble_eq_true rfl)
  rw [lg_entry_eq]
  generalize (lg_sl ([.ref h, .int p1]) ++ List.replicate (4 - (lg_sl ([.ref h, .int p1])).length) Slot.unset).toArray = ls at hl ⊢
  exact tX10_weightOf_b0 K E u p1 _ _ _ hl hP hD0.self va_S.rf h1
-- X10_freeOf
theorem inX10_freeOf_X10 : ∀ w ∈ u_ws RX10 TX10 23, w ∈ wsX10_freeOf := k_lays 19 rfl
theorem lkX10_freeOf_7 : Cond.fieldLink RX10 7 "FerryRampModel" "state" "[I" ∈ wsX10_freeOf := List.mem_of_getElem? (i := 1) rfl
theorem hdX10_kindOf : yX10_kindOf.cls = RX10 ∧ yX10_kindOf.cls ≠ "java/lang/invoke/MethodHandle" ∧ yX10_kindOf.cls ≠ "java/lang/invoke/VarHandle" ∧ (parseMethodDescriptor yX10_kindOf.desc).map (fun d => d.parameters.length) = some 2 := by decide +kernel
abbrev rmX10_freeOf : Room := { frames := 2, cells := 0, slots := 0, locals := 45 }
def fX10_freeOf_b41 (k10 : Int32 × Int32 × Int32 → Option (Int32)) (x1 : Int32) (x3 : Int32) (s0 : Int32) (s1 : Int32) (u : Nat → Int32) : Option (Int32) :=
  k10 (x1, s0 - s1, x3 + 1)
set_option maxHeartbeats 4000000 in
set_option maxRecDepth 100000 in
theorem tX10_freeOf_b41 {p : Program} {l : Launch} {e : Env} {s : State} {m : MethodId} {args : Array Value} {below : List Frame} {meth : Method} {c : Code} {D : va_G} {cy : Nat → ClassId} {A : Nat → Prop} {h : Nat} {a : Nat} {rs : List Value} (K : Int32 → Prop) (E : mE D cy RX10 cX10_freeOf 4 (some .int) wsX10_freeOf A p s m args meth c) (u : Nat → Int32)
    (k10 : Int32 × Int32 × Int32 → Option (Int32)) (hk10 : ∀ (x1 : Int32) (x2 : Int32) (x3 : Int32) (H : Heap) (locs : List Loc) (ls : Array Slot), lv_has ls 4 [(0, .ref h), (1, .int x1), (2, .int x2), (3, .int x3)] → va_P D vwCl (wM0 cy h a rs u) H → va_D A (wM0 cy h a rs u) → va_S A s.heap H locs → Ok (k10 (x1, x2, x3)) K → kW p l e rmX10_freeOf s m args below meth c H locs (va_Qi (fun r (_ : Unit) => K r) (fun _ => kPost D A (wM0 cy h a rs u)) A) A 10 ls [])
     (x1 : Int32) (x3 : Int32) (s0 : Int32) (s1 : Int32) (H : Heap) (locs : List Loc) (ls : Array Slot) (hl : lv_has ls 4 [(0, .ref h), (1, .int x1), (3, .int x3)]) (hP : va_P D vwCl (wM0 cy h a rs u) H) (hD : va_D A (wM0 cy h a rs u)) (hS : va_S A s.heap H locs) (h1 : Ok (fX10_freeOf_b41 k10 x1 x3 s0 s1 u) K) :
    kW p l e rmX10_freeOf s m args below meth c H locs (va_Qi (fun r (_ : Unit) => K r) (fun _ => kPost D A (wM0 cy h a rs u)) A) A 41 ls [.int s1, .int s0] := by
  obtain ⟨hx, hb, hr, hml, hown, hts, hlocks, hK, hA⟩ := id E
  unfold fX10_freeOf_b41 at h1
  refine lv_isub hx hb dX10_freeOf_41 ?_
  refine lv_istore_n (lv' := [(2, .int (s0 - s1)), (0, .ref h), (1, .int x1), (3, .int x3)]) hx hb dX10_freeOf_42 rfl hl (by decide) rfl (fun ls hl => ?_)
  refine lv_iinc (v := x3 + 1) (lv' := [(3, .int (x3 + 1)), (2, .int (s0 - s1)), (0, .ref h), (1, .int x1)]) hx hb dX10_freeOf_43 hl (k := 3) rfl rfl (by decide) rfl (fun ls hl => ?_)
  refine lv_goto (tgt := 10) hx hb dX10_freeOf_46 (by decide) ?_
  exact hk10 x1 (s0 - s1) (x3 + 1) H locs ls (lv_sub hl [2, 3, 1, 0] rfl) hP hD hS h1
def fX10_freeOf_b10 (k10 : Int32 × Int32 × Int32 → Option (Int32)) (x1 : Int32) (x2 : Int32) (x3 : Int32) (u : Nat → Int32) : Option (Int32) :=
  (if (u 13) ≤ x3 then some x2 else bnd (fX10_isFor x3 x1 u) (fun r25 => (if r25 = 0 then fX10_freeOf_b41 k10 x1 x3 x2 0 u else bnd (fX10_kindOf x3 2 u) (fun r34 => fX10_freeOf_b41 k10 x1 x3 x2 r34 u))))
set_option maxHeartbeats 4000000 in
set_option maxRecDepth 100000 in
theorem tX10_freeOf_b10 {p : Program} {l : Launch} {e : Env} {s : State} {m : MethodId} {args : Array Value} {below : List Frame} {meth : Method} {c : Code} {D : va_G} {cy : Nat → ClassId} {A : Nat → Prop} {h : Nat} {a : Nat} {rs : List Value} (K : Int32 → Prop) (E : mE D cy RX10 cX10_freeOf 4 (some .int) wsX10_freeOf A p s m args meth c) (u : Nat → Int32)
    (k10 : Int32 × Int32 × Int32 → Option (Int32)) (hk10 : ∀ (x1 : Int32) (x2 : Int32) (x3 : Int32) (H : Heap) (locs : List Loc) (ls : Array Slot), lv_has ls 4 [(0, .ref h), (1, .int x1), (2, .int x2), (3, .int x3)] → va_P D vwCl (wM0 cy h a rs u) H → va_D A (wM0 cy h a rs u) → va_S A s.heap H locs → Ok (k10 (x1, x2, x3)) K → kW p l e rmX10_freeOf s m args below meth c H locs (va_Qi (fun r (_ : Unit) => K r) (fun _ => kPost D A (wM0 cy h a rs u)) A) A 10 ls [])
     (x1 : Int32) (x2 : Int32) (x3 : Int32) (H : Heap) (locs : List Loc) (ls : Array Slot) (hl : lv_has ls 4 [(0, .ref h), (1, .int x1), (2, .int x2), (3, .int x3)]) (hP : va_P D vwCl (wM0 cy h a rs u) H) (hD : va_D A (wM0 cy h a rs u)) (hS : va_S A s.heap H locs) (h1 : Ok (fX10_freeOf_b10 k10 x1 x2 x3 u) K) :
    kW p l e rmX10_freeOf s m args below meth c H locs (va_Qi (fun r (_ : Unit) => K r) (fun _ => kPost D A (wM0 cy h a rs u)) A) A 10 ls [] := by
  obtain ⟨hx, hb, hr, hml, hown, hts, hlocks, hK, hA⟩ := id E
  unfold fX10_freeOf_b10 at h1
  refine lv_iload_n hx hb dX10_freeOf_10 rfl (lv_at hl 3 rfl) ?_
  refine lv_aload_n hx hb dX10_freeOf_11 rfl (lv_at hl 0 rfl) ?_
  refine k_get (v := .ref a) (C := RX10) (T := TX10) (N := 23) hx hb hts inX10_freeOf_X10 hown hK hP 0 (wM0_a0 _ _ _ _ _) rfl 0 (by decide) lkX10_freeOf_7 (m0Fs_0 _ _) dX10_freeOf_12 ?_
  refine lv_bipush (v := 13) hx hb dX10_freeOf_15 rfl ?_
  refine k_iald (k := 13) hx hb hK hP 1 (wM0_a1 _ _ _ _ _) rfl rfl dX10_freeOf_17 ?_
  refine lv_icmp_ge (tgt := 49) hx hb dX10_freeOf_18 (by decide) (fun c18 => ?_) (fun c18 => ?_)
  · replace h1 := Ok.pos c18 h1
    refine lv_iload_n hx hb dX10_freeOf_49 rfl (lv_at hl 2 rfl) ?_
    exact kret_r hx hb hr hlocks hP hD hS h1 dX10_freeOf_50
  · replace h1 := Ok.neg c18 h1
    refine lv_iload_n hx hb dX10_freeOf_21 rfl (lv_at hl 2 rfl) ?_
    refine lv_aload_n hx hb dX10_freeOf_22 rfl (lv_at hl 0 rfl) ?_
    refine lv_iload_n hx hb dX10_freeOf_23 rfl (lv_at hl 3 rfl) ?_
    refine lv_iload_n hx hb dX10_freeOf_24 rfl (lv_at hl 1 rfl) ?_
    refine kc_rV0 (b := h) (As := [.int x3, .int x1]) (rest := [.int x2]) h1 ⟨hx, hb, hml, hown, hts⟩ (cX10_isForM l D cy h a rs H.size u x3 x1) (cwV 2 hts gX10_freeOf_X10_isFor rfl rfl rfl hdX10_isFor ⟨Nat.le_of_ble_eq_true rfl, Nat.le_of_ble_eq_true rfl⟩) hK hP hD hS hA (q0 := 0) rfl rfl rfl hl.1 rfl (Nat.le_of_ble_eq_true rfl) dX10_freeOf_25 ⟨Nat.zero_le _, Nat.zero_le _⟩ (fun r25 H locs h1 hP hS => ?_)
    refine lv_if_eq (tgt := 40) hx hb dX10_freeOf_28 (by decide) (fun c28 => ?_) (fun c28 => ?_)
    · replace h1 := Ok.pos c28 h1
      refine lv_iconst (v := 0) hx hb dX10_freeOf_40 rfl ?_
      exact tX10_freeOf_b41 K E u k10 hk10 x1 x3 x2 0 H locs ls (lv_sub hl [0, 1, 3] rfl) hP hD hS h1
    · replace h1 := Ok.neg c28 h1
      refine lv_aload_n hx hb dX10_freeOf_31 rfl (lv_at hl 0 rfl) ?_
      refine lv_iload_n hx hb dX10_freeOf_32 rfl (lv_at hl 3 rfl) ?_
      refine lv_iconst (v := 2) hx hb dX10_freeOf_33 rfl ?_
      refine kc_rV0 (b := h) (As := [.int x3, .int 2]) (rest := [.int x2]) h1 ⟨hx, hb, hml, hown, hts⟩ (cX10_kindOfM l D cy h a rs H.size u x3 2) (cwV 2 hts gX10_freeOf_X10_kindOf rfl rfl rfl hdX10_kindOf ⟨Nat.le_of_ble_eq_true rfl, Nat.le_of_ble_eq_true rfl⟩) hK hP hD hS hA (q0 := 0) rfl rfl rfl hl.1 rfl (Nat.le_of_ble_eq_true rfl) dX10_freeOf_34 ⟨Nat.zero_le _, Nat.zero_le _⟩ (fun r34 H locs h1 hP hS => ?_)
      refine lv_goto (tgt := 41) hx hb dX10_freeOf_37 (by decide) ?_
      exact tX10_freeOf_b41 K E u k10 hk10 x1 x3 x2 r34 H locs ls (lv_sub hl [0, 1, 3] rfl) hP hD hS h1
theorem tX10_freeOf_l10 {p : Program} {l : Launch} {e : Env} {s : State} {m : MethodId} {args : Array Value} {below : List Frame} {meth : Method} {c : Code} {D : va_G} {cy : Nat → ClassId} {A : Nat → Prop} {h : Nat} {a : Nat} {rs : List Value} (K : Int32 → Prop) (E : mE D cy RX10 cX10_freeOf 4 (some .int) wsX10_freeOf A p s m args meth c) (u : Nat → Int32) : ∀ (n9 : Nat) (x1 : Int32) (x2 : Int32) (x3 : Int32) (H : Heap) (locs : List Loc) (ls : Array Slot), lv_has ls 4 [(0, .ref h), (1, .int x1), (2, .int x2), (3, .int x3)] → va_P D vwCl (wM0 cy h a rs u) H → va_D A (wM0 cy h a rs u) → va_S A s.heap H locs → Ok (lop (fun y z => fX10_freeOf_b10 y z.1 z.2.1 z.2.2 u) n9 (x1, x2, x3)) K → kW p l e rmX10_freeOf s m args below meth c H locs (va_Qi (fun r (_ : Unit) => K r) (fun _ => kPost D A (wM0 cy h a rs u)) A) A 10 ls [] := by
  intro n9
  induction n9 with
  | zero =>
    intro x1 x2 x3 H locs ls hl hP hD hS h1
    exact h1.no
  | succ n9 ih =>
    intro x1 x2 x3 H locs ls hl hP hD hS h1
    exact tX10_freeOf_b10 K E u (lop (fun y z => fX10_freeOf_b10 y z.1 z.2.1 z.2.2 u) n9) (fun x1 x2 x3 H locs ls hl hP hD hS h1 => ih x1 x2 x3 H locs ls hl hP hD hS h1) x1 x2 x3 H locs ls hl hP hD hS h1
def fX10_freeOf_b0 (x1 : Int32) (u : Nat → Int32) : Option (Int32) :=
  lop (fun y z => fX10_freeOf_b10 y z.1 z.2.1 z.2.2 u) LF (x1, u 21, 0)
set_option maxHeartbeats 4000000 in
set_option maxRecDepth 100000 in
theorem tX10_freeOf_b0 {p : Program} {l : Launch} {e : Env} {s : State} {m : MethodId} {args : Array Value} {below : List Frame} {meth : Method} {c : Code} {D : va_G} {cy : Nat → ClassId} {A : Nat → Prop} {h : Nat} {a : Nat} {rs : List Value} (K : Int32 → Prop) (E : mE D cy RX10 cX10_freeOf 4 (some .int) wsX10_freeOf A p s m args meth c) (u : Nat → Int32)
     (x1 : Int32) (H : Heap) (locs : List Loc) (ls : Array Slot) (hl : lv_has ls 4 [(0, .ref h), (1, .int x1)]) (hP : va_P D vwCl (wM0 cy h a rs u) H) (hD : va_D A (wM0 cy h a rs u)) (hS : va_S A s.heap H locs) (h1 : Ok (fX10_freeOf_b0 x1 u) K) :
    kW p l e rmX10_freeOf s m args below meth c H locs (va_Qi (fun r (_ : Unit) => K r) (fun _ => kPost D A (wM0 cy h a rs u)) A) A 0 ls [] := by
  obtain ⟨hx, hb, hr, hml, hown, hts, hlocks, hK, hA⟩ := id E
  unfold fX10_freeOf_b0 at h1
  refine lv_aload_n hx hb dX10_freeOf_0 rfl (lv_at hl 0 rfl) ?_
  refine k_get (v := .ref a) (C := RX10) (T := TX10) (N := 23) hx hb hts inX10_freeOf_X10 hown hK hP 0 (wM0_a0 _ _ _ _ _) rfl 0 (by decide) lkX10_freeOf_7 (m0Fs_0 _ _) dX10_freeOf_1 ?_
  refine lv_bipush (v := 21) hx hb dX10_freeOf_4 rfl ?_
  refine k_iald (k := 21) hx hb hK hP 1 (wM0_a1 _ _ _ _ _) rfl rfl dX10_freeOf_6 ?_
  refine lv_istore_n (lv' := [(2, .int (u 21)), (0, .ref h), (1, .int x1)]) hx hb dX10_freeOf_7 rfl hl (by decide) rfl (fun ls hl => ?_)
  refine lv_iconst (v := 0) hx hb dX10_freeOf_8 rfl ?_
  refine lv_istore_n (lv' := [(3, .int 0), (2, .int (u 21)), (0, .ref h), (1, .int x1)]) hx hb dX10_freeOf_9 rfl hl (by decide) rfl (fun ls hl => ?_)
  exact tX10_freeOf_l10 K E u LF x1 (u 21) 0 H locs ls (lv_sub hl [2, 3, 1, 0] rfl) hP hD hS h1
def fX10_freeOf (p1 : Int32) (u : Nat → Int32) : Option (Int32) := fX10_freeOf_b0 p1 u
set_option maxHeartbeats 4000000 in
set_option maxRecDepth 100000 in
theorem cX10_freeOfM (l : Launch) (D : va_G) (cy : Nat → ClassId) (h : Nat) (a : Nat) (rs : List Value) (sz : Nat) (u : Nat → Int32) (p1 : Int32) : ∀ (K : Int32 → Prop), Ok (fX10_freeOf p1 u) K → Met l yX10_freeOf wsX10_freeOf rmX10_freeOf (va_Pc [.ref h, .int p1] (kPre D cy sz (wM0 cy h a rs u))) (va_Qi (fun r (_ : Unit) => K r) (fun _ => kPost D (va_A (wM0 cy h a rs u) sz) (wM0 cy h a rs u)) (va_A (wM0 cy h a rs u) sz)) 0 0 (va_A (wM0 cy h a rs u) sz) := by
  intro K h1
  refine Met.ofW (cc := cX10_freeOf) (maxL := 4) (ret := (some .int)) (by decide) rfl ?_
  intro p e s m args below meth c s₁ B hml hv
  obtain ⟨rfl, hsz, hP, hK, hD0⟩ := hv
  subst hsz
  have E : mE D cy RX10 cX10_freeOf 4 (some .int) wsX10_freeOf (va_A (wM0 cy h a rs u) s.heap.size) p s m _ meth c := ⟨B.exec, B.bytes, B.returns, hml, findClass_of_methodNamed B.named, atoms_spec (ws := wsX10_freeOf) B.pre, B.notSynchronized, hK, fun q h => Or.inr h⟩
  have hl := lv_entry ([.ref h, .int p1]) (n := 4) (Nat.le_of_ble_eq_true rfl)
  rw [lg_entry_eq]
  generalize (lg_sl ([.ref h, .int p1]) ++ List.replicate (4 - (lg_sl ([.ref h, .int p1])).length) Slot.unset).toArray = ls at hl ⊢
  exact tX10_freeOf_b0 K E u p1 _ _ _ hl hP hD0.self va_S.rf h1
-- X10_listNow
theorem hdX10_weightOf : yX10_weightOf.cls = RX10 ∧ yX10_weightOf.cls ≠ "java/lang/invoke/MethodHandle" ∧ yX10_weightOf.cls ≠ "java/lang/invoke/VarHandle" ∧ (parseMethodDescriptor yX10_weightOf.desc).map (fun d => d.parameters.length) = some 1 := by decide +kernel
abbrev rmX10_listNow : Room := { frames := 3, cells := 0, slots := 0, locals := 68 }
def fX10_listNow_b0 (u : Nat → Int32) : Option (Int32) :=
  bnd (fX10_weightOf 0 u) (fun r2 => bnd (fX10_weightOf 2 u) (fun r7 => some (r2 - r7)))
set_option maxHeartbeats 4000000 in
set_option maxRecDepth 100000 in
theorem tX10_listNow_b0 {p : Program} {l : Launch} {e : Env} {s : State} {m : MethodId} {args : Array Value} {below : List Frame} {meth : Method} {c : Code} {D : va_G} {cy : Nat → ClassId} {A : Nat → Prop} {h : Nat} {a : Nat} {rs : List Value} (K : Int32 → Prop) (E : mE D cy RX10 cX10_listNow 1 (some .int) wsX10_listNow A p s m args meth c) (u : Nat → Int32)
     (H : Heap) (locs : List Loc) (ls : Array Slot) (hl : lv_has ls 1 [(0, .ref h)]) (hP : va_P D vwCl (wM0 cy h a rs u) H) (hD : va_D A (wM0 cy h a rs u)) (hS : va_S A s.heap H locs) (h1 : Ok (fX10_listNow_b0 u) K) :
    kW p l e rmX10_listNow s m args below meth c H locs (va_Qi (fun r (_ : Unit) => K r) (fun _ => kPost D A (wM0 cy h a rs u)) A) A 0 ls [] := by
  obtain ⟨hx, hb, hr, hml, hown, hts, hlocks, hK, hA⟩ := id E
  unfold fX10_listNow_b0 at h1
  refine lv_aload_n hx hb dX10_listNow_0 rfl (lv_at hl 0 rfl) ?_
  refine lv_iconst (v := 0) hx hb dX10_listNow_1 rfl ?_
  refine kc_rV0 (b := h) (As := [.int 0]) (rest := []) h1 ⟨hx, hb, hml, hown, hts⟩ (cX10_weightOfM l D cy h a rs H.size u 0) (cwV 1 hts gX10_listNow_X10_weightOf rfl rfl rfl hdX10_weightOf ⟨Nat.le_of_ble_eq_true rfl, Nat.le_of_ble_eq_true rfl⟩) hK hP hD hS hA (q0 := 0) rfl rfl rfl hl.1 rfl (Nat.le_of_ble_eq_true rfl) dX10_listNow_2 ⟨Nat.zero_le _, Nat.zero_le _⟩ (fun r2 H locs h1 hP hS => ?_)
  refine lv_aload_n hx hb dX10_listNow_5 rfl (lv_at hl 0 rfl) ?_
  refine lv_iconst (v := 2) hx hb dX10_listNow_6 rfl ?_
  refine kc_rV0 (b := h) (As := [.int 2]) (rest := [.int r2]) h1 ⟨hx, hb, hml, hown, hts⟩ (cX10_weightOfM l D cy h a rs H.size u 2) (cwV 1 hts gX10_listNow_X10_weightOf rfl rfl rfl hdX10_weightOf ⟨Nat.le_of_ble_eq_true rfl, Nat.le_of_ble_eq_true rfl⟩) hK hP hD hS hA (q0 := 0) rfl rfl rfl hl.1 rfl (Nat.le_of_ble_eq_true rfl) dX10_listNow_7 ⟨Nat.zero_le _, Nat.zero_le _⟩ (fun r7 H locs h1 hP hS => ?_)
  refine lv_isub hx hb dX10_listNow_10 ?_
  exact kret_r hx hb hr hlocks hP hD hS h1 dX10_listNow_11
def fX10_listNow (u : Nat → Int32) : Option (Int32) := fX10_listNow_b0 u
set_option maxHeartbeats 4000000 in
set_option maxRecDepth 100000 in
theorem cX10_listNowM (l : Launch) (D : va_G) (cy : Nat → ClassId) (h : Nat) (a : Nat) (rs : List Value) (sz : Nat) (u : Nat → Int32) : ∀ (K : Int32 → Prop), Ok (fX10_listNow u) K → Met l yX10_listNow wsX10_listNow rmX10_listNow (va_Pc [.ref h] (kPre D cy sz (wM0 cy h a rs u))) (va_Qi (fun r (_ : Unit) => K r) (fun _ => kPost D (va_A (wM0 cy h a rs u) sz) (wM0 cy h a rs u)) (va_A (wM0 cy h a rs u) sz)) 0 0 (va_A (wM0 cy h a rs u) sz) := by
  intro K h1
  refine Met.ofW (cc := cX10_listNow) (maxL := 1) (ret := (some .int)) (by decide) rfl ?_
  intro p e s m args below meth c s₁ B hml hv
  obtain ⟨rfl, hsz, hP, hK, hD0⟩ := hv
  subst hsz
  have E : mE D cy RX10 cX10_listNow 1 (some .int) wsX10_listNow (va_A (wM0 cy h a rs u) s.heap.size) p s m _ meth c := ⟨B.exec, B.bytes, B.returns, hml, findClass_of_methodNamed B.named, atoms_spec (ws := wsX10_listNow) B.pre, B.notSynchronized, hK, fun q h => Or.inr h⟩
  have hl := lv_entry ([.ref h]) (n := 1) (Nat.le_of_ble_eq_true rfl)
  rw [lg_entry_eq]
  generalize (lg_sl ([.ref h]) ++ List.replicate (1 - (lg_sl ([.ref h])).length) Slot.unset).toArray = ls at hl ⊢
  exact tX10_listNow_b0 K E u _ _ _ hl hP hD0.self va_S.rf h1
-- X10_hasFree
theorem hdX10_freeOf : yX10_freeOf.cls = RX10 ∧ yX10_freeOf.cls ≠ "java/lang/invoke/MethodHandle" ∧ yX10_freeOf.cls ≠ "java/lang/invoke/VarHandle" ∧ (parseMethodDescriptor yX10_freeOf.desc).map (fun d => d.parameters.length) = some 1 := by decide +kernel
abbrev rmX10_hasFree : Room := { frames := 3, cells := 0, slots := 0, locals := 68 }
def fX10_hasFree_b0 (x1 : Int32) (x2 : Int32) (u : Nat → Int32) : Option (Int32) :=
  bnd (fX10_freeOf x1 u) (fun r2 => bnd (fX10_kindOf x2 2 u) (fun r8 => (if r2 < r8 then some 0 else some 1)))
set_option maxHeartbeats 4000000 in
set_option maxRecDepth 100000 in
theorem tX10_hasFree_b0 {p : Program} {l : Launch} {e : Env} {s : State} {m : MethodId} {args : Array Value} {below : List Frame} {meth : Method} {c : Code} {D : va_G} {cy : Nat → ClassId} {A : Nat → Prop} {h : Nat} {a : Nat} {rs : List Value} (K : Int32 → Prop) (E : mE D cy RX10 cX10_hasFree 3 (some .boolean) wsX10_hasFree A p s m args meth c) (u : Nat → Int32)
     (x1 : Int32) (x2 : Int32) (H : Heap) (locs : List Loc) (ls : Array Slot) (hl : lv_has ls 3 [(0, .ref h), (1, .int x1), (2, .int x2)]) (hP : va_P D vwCl (wM0 cy h a rs u) H) (hD : va_D A (wM0 cy h a rs u)) (hS : va_S A s.heap H locs) (h1 : Ok (fX10_hasFree_b0 x1 x2 u) K) :
    kW p l e rmX10_hasFree s m args below meth c H locs (va_Qi (fun r (_ : Unit) => K r) (fun _ => kPost D A (wM0 cy h a rs u)) A) A 0 ls [] := by
  obtain ⟨hx, hb, hr, hml, hown, hts, hlocks, hK, hA⟩ := id E
  unfold fX10_hasFree_b0 at h1
  refine lv_aload_n hx hb dX10_hasFree_0 rfl (lv_at hl 0 rfl) ?_
  refine lv_iload_n hx hb dX10_hasFree_1 rfl (lv_at hl 1 rfl) ?_
  refine kc_rV0 (b := h) (As := [.int x1]) (rest := []) h1 ⟨hx, hb, hml, hown, hts⟩ (cX10_freeOfM l D cy h a rs H.size u x1) (cwV 1 hts gX10_hasFree_X10_freeOf rfl rfl rfl hdX10_freeOf ⟨Nat.le_of_ble_eq_true rfl, Nat.le_of_ble_eq_true rfl⟩) hK hP hD hS hA (q0 := 0) rfl rfl rfl hl.1 rfl (Nat.le_of_ble_eq_true rfl) dX10_hasFree_2 ⟨Nat.zero_le _, Nat.zero_le _⟩ (fun r2 H locs h1 hP hS => ?_)
  refine lv_aload_n hx hb dX10_hasFree_5 rfl (lv_at hl 0 rfl) ?_
  refine lv_iload_n hx hb dX10_hasFree_6 rfl (lv_at hl 2 rfl) ?_
  refine lv_iconst (v := 2) hx hb dX10_hasFree_7 rfl ?_
  refine kc_rV0 (b := h) (As := [.int x2, .int 2]) (rest := [.int r2]) h1 ⟨hx, hb, hml, hown, hts⟩ (cX10_kindOfM l D cy h a rs H.size u x2 2) (cwV 2 hts gX10_hasFree_X10_kindOf rfl rfl rfl hdX10_kindOf ⟨Nat.le_of_ble_eq_true rfl, Nat.le_of_ble_eq_true rfl⟩) hK hP hD hS hA (q0 := 0) rfl rfl rfl hl.1 rfl (Nat.le_of_ble_eq_true rfl) dX10_hasFree_8 ⟨Nat.zero_le _, Nat.zero_le _⟩ (fun r8 H locs h1 hP hS => ?_)
  refine lv_icmp_lt (tgt := 18) hx hb dX10_hasFree_11 (by decide) (fun c11 => ?_) (fun c11 => ?_)
  · replace h1 := Ok.pos c11 h1
    refine lv_iconst (v := 0) hx hb dX10_hasFree_18 rfl ?_
    exact kret_rz hx hb hr rfl hlocks hP hD hS h1 dX10_hasFree_19
  · replace h1 := Ok.neg c11 h1
    refine lv_iconst (v := 1) hx hb dX10_hasFree_14 rfl ?_
    refine lv_goto (tgt := 19) hx hb dX10_hasFree_15 (by decide) ?_
    exact kret_rz hx hb hr rfl hlocks hP hD hS h1 dX10_hasFree_19
def fX10_hasFree (p1 : Int32) (p2 : Int32) (u : Nat → Int32) : Option (Int32) := fX10_hasFree_b0 p1 p2 u
set_option maxHeartbeats 4000000 in
set_option maxRecDepth 100000 in
theorem cX10_hasFreeM (l : Launch) (D : va_G) (cy : Nat → ClassId) (h : Nat) (a : Nat) (rs : List Value) (sz : Nat) (u : Nat → Int32) (p1 : Int32) (p2 : Int32) : ∀ (K : Int32 → Prop), Ok (fX10_hasFree p1 p2 u) K → Met l yX10_hasFree wsX10_hasFree rmX10_hasFree (va_Pc [.ref h, .int p1, .int p2] (kPre D cy sz (wM0 cy h a rs u))) (va_Qi (fun r (_ : Unit) => K r) (fun _ => kPost D (va_A (wM0 cy h a rs u) sz) (wM0 cy h a rs u)) (va_A (wM0 cy h a rs u) sz)) 0 0 (va_A (wM0 cy h a rs u) sz) := by
  intro K h1
  refine Met.ofW (cc := cX10_hasFree) (maxL := 3) (ret := (some .boolean)) (by decide) rfl ?_
  intro p e s m args below meth c s₁ B hml hv
  obtain ⟨rfl, hsz, hP, hK, hD0⟩ := hv
  subst hsz
  have E : mE D cy RX10 cX10_hasFree 3 (some .boolean) wsX10_hasFree (va_A (wM0 cy h a rs u) s.heap.size) p s m _ meth c := ⟨B.exec, B.bytes, B.returns, hml, findClass_of_methodNamed B.named, atoms_spec (ws := wsX10_hasFree) B.pre, B.notSynchronized, hK, fun q h => Or.inr h⟩
  have hl := lv_entry ([.ref h, .int p1, .int p2]) (n := 3) (Nat.le_of_ble_eq_true rfl)
  rw [lg_entry_eq]
  generalize (lg_sl ([.ref h, .int p1, .int p2]) ++ List.replicate (3 - (lg_sl ([.ref h, .int p1, .int p2])).length) Slot.unset).toArray = ls at hl ⊢
  exact tX10_hasFree_b0 K E u p1 p2 _ _ _ hl hP hD0.self va_S.rf h1
-- X10_suits
theorem hdX10_listNow : yX10_listNow.cls = RX10 ∧ yX10_listNow.cls ≠ "java/lang/invoke/MethodHandle" ∧ yX10_listNow.cls ≠ "java/lang/invoke/VarHandle" ∧ (parseMethodDescriptor yX10_listNow.desc).map (fun d => d.parameters.length) = some 0 := by decide +kernel
theorem hdX10_hasFree : yX10_hasFree.cls = RX10 ∧ yX10_hasFree.cls ≠ "java/lang/invoke/MethodHandle" ∧ yX10_hasFree.cls ≠ "java/lang/invoke/VarHandle" ∧ (parseMethodDescriptor yX10_hasFree.desc).map (fun d => d.parameters.length) = some 2 := by decide +kernel
theorem inX10_suits_X10 : ∀ w ∈ u_ws RX10 TX10 23, w ∈ wsX10_suits := k_lays 39 rfl
theorem lkX10_suits_7 : Cond.fieldLink RX10 7 "FerryRampModel" "state" "[I" ∈ wsX10_suits := List.mem_of_getElem? (i := 5) rfl
abbrev rmX10_suits : Room := { frames := 4, cells := 0, slots := 0, locals := 90 }
def fX10_suits_b30 (x1 : Int32) (x2 : Int32) (s0 : Int32) (s1 : Int32) (u : Nat → Int32) : Option (Int32) :=
  bnd (fX10_hasFree x1 x2 u) (fun r36 => (if r36 = 0 then some 0 else (if (u 23) < (if 0 ≤ (s0 + s1) then (s0 + s1) else 0 - (s0 + s1)) then some 0 else some 1)))
set_option maxHeartbeats 4000000 in
set_option maxRecDepth 100000 in
theorem tX10_suits_b30 {p : Program} {l : Launch} {e : Env} {s : State} {m : MethodId} {args : Array Value} {below : List Frame} {meth : Method} {c : Code} {D : va_G} {cy : Nat → ClassId} {A : Nat → Prop} {h : Nat} {a : Nat} {rs : List Value} (K : Int32 → Prop) (E : mE D cy RX10 cX10_suits 5 (some .boolean) wsX10_suits A p s m args meth c) (u : Nat → Int32)
     (x1 : Int32) (x2 : Int32) (s0 : Int32) (s1 : Int32) (H : Heap) (locs : List Loc) (ls : Array Slot) (hl : lv_has ls 5 [(0, .ref h), (1, .int x1), (2, .int x2)]) (hP : va_P D vwCl (wM0 cy h a rs u) H) (hD : va_D A (wM0 cy h a rs u)) (hS : va_S A s.heap H locs) (h1 : Ok (fX10_suits_b30 x1 x2 s0 s1 u) K) :
    kW p l e rmX10_suits s m args below meth c H locs (va_Qi (fun r (_ : Unit) => K r) (fun _ => kPost D A (wM0 cy h a rs u)) A) A 30 ls [.int s1, .int s0] := by
  obtain ⟨hx, hb, hr, hml, hown, hts, hlocks, hK, hA⟩ := id E
  unfold fX10_suits_b30 at h1
  refine lv_iadd hx hb dX10_suits_30 ?_
  refine lv_istore (lv' := [(4, .int (s0 + s1)), (0, .ref h), (1, .int x1), (2, .int x2)]) hx hb dX10_suits_31 hl (by decide) rfl (fun ls hl => ?_)
  refine lv_aload_n hx hb dX10_suits_33 rfl (lv_at hl 1 rfl) ?_
  refine lv_iload_n hx hb dX10_suits_34 rfl (lv_at hl 2 rfl) ?_
  refine lv_iload_n hx hb dX10_suits_35 rfl (lv_at hl 3 rfl) ?_
  refine kc_rV0 (b := h) (As := [.int x1, .int x2]) (rest := []) h1 ⟨hx, hb, hml, hown, hts⟩ (cX10_hasFreeM l D cy h a rs H.size u x1 x2) (cwV 2 hts gX10_suits_X10_hasFree rfl rfl rfl hdX10_hasFree ⟨Nat.le_of_ble_eq_true rfl, Nat.le_of_ble_eq_true rfl⟩) hK hP hD hS hA (q0 := 0) rfl rfl rfl hl.1 rfl (Nat.le_of_ble_eq_true rfl) dX10_suits_36 ⟨Nat.zero_le _, Nat.zero_le _⟩ (fun r36 H locs h1 hP hS => ?_)
  refine lv_if_eq (tgt := 61) hx hb dX10_suits_39 (by decide) (fun c39 => ?_) (fun c39 => ?_)
  · replace h1 := Ok.pos c39 h1
    refine lv_iconst (v := 0) hx hb dX10_suits_61 rfl ?_
    exact kret_rz hx hb hr rfl hlocks hP hD hS h1 dX10_suits_62
  · replace h1 := Ok.neg c39 h1
    refine lv_iload hx hb dX10_suits_42 (lv_at hl 0 rfl) ?_
    refine va_mabs hx hb (hml.trans hl.1.symm) hown (hts _ (List.mem_of_getElem? (i := 1) rfl)) (hts _ (List.mem_of_getElem? (i := 2) rfl)) (hts _ (List.mem_of_getElem? (i := 3) rfl)) (hts _ (List.mem_of_getElem? (i := 4) rfl)) (Nat.le_of_ble_eq_true rfl) (Nat.le_of_ble_eq_true rfl) (Nat.zero_le _) (Nat.zero_le _) dX10_suits_44 ?_
    refine lv_aload_n hx hb dX10_suits_47 rfl (lv_at hl 1 rfl) ?_
    refine k_get (v := .ref a) (C := RX10) (T := TX10) (N := 23) hx hb hts inX10_suits_X10 hown hK hP 0 (wM0_a0 _ _ _ _ _) rfl 0 (by decide) lkX10_suits_7 (m0Fs_0 _ _) dX10_suits_48 ?_
    refine lv_bipush (v := 23) hx hb dX10_suits_51 rfl ?_
    refine k_iald (k := 23) hx hb hK hP 1 (wM0_a1 _ _ _ _ _) rfl rfl dX10_suits_53 ?_
    refine lv_icmp_gt (tgt := 61) hx hb dX10_suits_54 (by decide) (fun c54 => ?_) (fun c54 => ?_)
    · replace h1 := Ok.pos c54 h1
      refine lv_iconst (v := 0) hx hb dX10_suits_61 rfl ?_
      exact kret_rz hx hb hr rfl hlocks hP hD hS h1 dX10_suits_62
    · replace h1 := Ok.neg c54 h1
      refine lv_iconst (v := 1) hx hb dX10_suits_57 rfl ?_
      refine lv_goto (tgt := 62) hx hb dX10_suits_58 (by decide) ?_
      exact kret_rz hx hb hr rfl hlocks hP hD hS h1 dX10_suits_62
def fX10_suits_b0 (x1 : Int32) (x2 : Int32) (u : Nat → Int32) : Option (Int32) :=
  bnd (fX10_ofCar x2 1 u) (fun r3 => bnd (fX10_listNow u) (fun r8 => (if x1 = 0 then fX10_suits_b30 x1 x2 r8 r3 u else (if x1 = 2 then fX10_suits_b30 x1 x2 r8 (-r3) u else fX10_suits_b30 x1 x2 r8 0 u))))
set_option maxHeartbeats 4000000 in
set_option maxRecDepth 100000 in
theorem tX10_suits_b0 {p : Program} {l : Launch} {e : Env} {s : State} {m : MethodId} {args : Array Value} {below : List Frame} {meth : Method} {c : Code} {D : va_G} {cy : Nat → ClassId} {A : Nat → Prop} {h : Nat} {a : Nat} {rs : List Value} (K : Int32 → Prop) (E : mE D cy RX10 cX10_suits 5 (some .boolean) wsX10_suits A p s m args meth c) (u : Nat → Int32)
     (x1 : Int32) (x2 : Int32) (H : Heap) (locs : List Loc) (ls : Array Slot) (hl : lv_has ls 5 [(0, .ref h), (1, .int x1), (2, .int x2)]) (hP : va_P D vwCl (wM0 cy h a rs u) H) (hD : va_D A (wM0 cy h a rs u)) (hS : va_S A s.heap H locs) (h1 : Ok (fX10_suits_b0 x1 x2 u) K) :
    kW p l e rmX10_suits s m args below meth c H locs (va_Qi (fun r (_ : Unit) => K r) (fun _ => kPost D A (wM0 cy h a rs u)) A) A 0 ls [] := by
  obtain ⟨hx, hb, hr, hml, hown, hts, hlocks, hK, hA⟩ := id E
  unfold fX10_suits_b0 at h1
  refine lv_aload_n hx hb dX10_suits_0 rfl (lv_at hl 0 rfl) ?_
  refine lv_iload_n hx hb dX10_suits_1 rfl (lv_at hl 2 rfl) ?_
  refine lv_iconst (v := 1) hx hb dX10_suits_2 rfl ?_
  refine kc_rV0 (b := h) (As := [.int x2, .int 1]) (rest := []) h1 ⟨hx, hb, hml, hown, hts⟩ (cX10_ofCarM l D cy h a rs H.size u x2 1) (cwV 2 hts gX10_suits_X10_ofCar rfl rfl rfl hdX10_ofCar ⟨Nat.le_of_ble_eq_true rfl, Nat.le_of_ble_eq_true rfl⟩) hK hP hD hS hA (q0 := 0) rfl rfl rfl hl.1 rfl (Nat.le_of_ble_eq_true rfl) dX10_suits_3 ⟨Nat.zero_le _, Nat.zero_le _⟩ (fun r3 H locs h1 hP hS => ?_)
  refine lv_istore_n (lv' := [(3, .int r3), (0, .ref h), (1, .int x1), (2, .int x2)]) hx hb dX10_suits_6 rfl hl (by decide) rfl (fun ls hl => ?_)
  refine lv_aload_n hx hb dX10_suits_7 rfl (lv_at hl 1 rfl) ?_
  refine kc_rV0 (b := h) (As := []) (rest := []) h1 ⟨hx, hb, hml, hown, hts⟩ (cX10_listNowM l D cy h a rs H.size u) (cwV 0 hts gX10_suits_X10_listNow rfl rfl rfl hdX10_listNow ⟨Nat.le_of_ble_eq_true rfl, Nat.le_of_ble_eq_true rfl⟩) hK hP hD hS hA (q0 := 0) rfl rfl rfl hl.1 rfl (Nat.le_of_ble_eq_true rfl) dX10_suits_8 ⟨Nat.zero_le _, Nat.zero_le _⟩ (fun r8 H locs h1 hP hS => ?_)
  refine lv_iload_n hx hb dX10_suits_11 rfl (lv_at hl 2 rfl) ?_
  refine lv_if_ne (tgt := 19) hx hb dX10_suits_12 (by decide) (fun c12 => ?_) (fun c12 => ?_)
  · replace h1 := Ok.neg c12 h1
    refine lv_iload_n hx hb dX10_suits_19 rfl (lv_at hl 2 rfl) ?_
    refine lv_iconst (v := 2) hx hb dX10_suits_20 rfl ?_
    refine lv_icmp_ne (tgt := 29) hx hb dX10_suits_21 (by decide) (fun c21 => ?_) (fun c21 => ?_)
    · replace h1 := Ok.neg c21 h1
      refine lv_iconst (v := 0) hx hb dX10_suits_29 rfl ?_
      exact tX10_suits_b30 K E u x1 x2 r8 0 H locs ls (lv_sub hl [1, 2, 3] rfl) hP hD hS h1
    · replace h1 := Ok.pos c21 h1
      refine lv_iload_n hx hb dX10_suits_24 rfl (lv_at hl 0 rfl) ?_
      refine lv_ineg hx hb dX10_suits_25 ?_
      refine lv_goto (tgt := 30) hx hb dX10_suits_26 (by decide) ?_
      exact tX10_suits_b30 K E u x1 x2 r8 (-r3) H locs ls (lv_sub hl [1, 2, 3] rfl) hP hD hS h1
  · replace h1 := Ok.pos c12 h1
    refine lv_iload_n hx hb dX10_suits_15 rfl (lv_at hl 0 rfl) ?_
    refine lv_goto (tgt := 30) hx hb dX10_suits_16 (by decide) ?_
    exact tX10_suits_b30 K E u x1 x2 r8 r3 H locs ls (lv_sub hl [1, 2, 3] rfl) hP hD hS h1
def fX10_suits (p1 : Int32) (p2 : Int32) (u : Nat → Int32) : Option (Int32) := fX10_suits_b0 p1 p2 u
set_option maxHeartbeats 4000000 in
set_option maxRecDepth 100000 in
theorem cX10_suitsM (l : Launch) (D : va_G) (cy : Nat → ClassId) (h : Nat) (a : Nat) (rs : List Value) (sz : Nat) (u : Nat → Int32) (p1 : Int32) (p2 : Int32) : ∀ (K : Int32 → Prop), Ok (fX10_suits p1 p2 u) K → Met l yX10_suits wsX10_suits rmX10_suits (va_Pc [.ref h, .int p1, .int p2] (kPre D cy sz (wM0 cy h a rs u))) (va_Qi (fun r (_ : Unit) => K r) (fun _ => kPost D (va_A (wM0 cy h a rs u) sz) (wM0 cy h a rs u)) (va_A (wM0 cy h a rs u) sz)) 0 0 (va_A (wM0 cy h a rs u) sz) := by
  intro K h1
  refine Met.ofW (cc := cX10_suits) (maxL := 5) (ret := (some .boolean)) (by decide) rfl ?_
  intro p e s m args below meth c s₁ B hml hv
  obtain ⟨rfl, hsz, hP, hK, hD0⟩ := hv
  subst hsz
  have E : mE D cy RX10 cX10_suits 5 (some .boolean) wsX10_suits (va_A (wM0 cy h a rs u) s.heap.size) p s m _ meth c := ⟨B.exec, B.bytes, B.returns, hml, findClass_of_methodNamed B.named, atoms_spec (ws := wsX10_suits) B.pre, B.notSynchronized, hK, fun q h => Or.inr h⟩
  have hl := lv_entry ([.ref h, .int p1, .int p2]) (n := 5) (Nat.le_of_ble_eq_true rfl)
  rw [lg_entry_eq]
  generalize (lg_sl ([.ref h, .int p1, .int p2]) ++ List.replicate (5 - (lg_sl ([.ref h, .int p1, .int p2])).length) Slot.unset).toArray = ls at hl ⊢
  exact tX10_suits_b0 K E u p1 p2 _ _ _ hl hP hD0.self va_S.rf h1
-- X10_laneOf
theorem hdX10_suits : yX10_suits.cls = RX10 ∧ yX10_suits.cls ≠ "java/lang/invoke/MethodHandle" ∧ yX10_suits.cls ≠ "java/lang/invoke/VarHandle" ∧ (parseMethodDescriptor yX10_suits.desc).map (fun d => d.parameters.length) = some 2 := by decide +kernel
abbrev rmX10_laneOf : Room := { frames := 5, cells := 0, slots := 0, locals := 114 }
def fX10_laneOf_b42 (k4 : Int32 × Int32 × Int32 → Option (Int32)) (x1 : Int32) (x2 : Int32) (x3 : Int32) (u : Nat → Int32) : Option (Int32) :=
  k4 (x1, x2, x3 + 1)
set_option maxHeartbeats 4000000 in
set_option maxRecDepth 100000 in
theorem tX10_laneOf_b42 {p : Program} {l : Launch} {e : Env} {s : State} {m : MethodId} {args : Array Value} {below : List Frame} {meth : Method} {c : Code} {D : va_G} {cy : Nat → ClassId} {A : Nat → Prop} {h : Nat} {a : Nat} {rs : List Value} (K : Int32 → Prop) (E : mE D cy RX10 cX10_laneOf 4 (some .int) wsX10_laneOf A p s m args meth c) (u : Nat → Int32)
    (k4 : Int32 × Int32 × Int32 → Option (Int32)) (hk4 : ∀ (x1 : Int32) (x2 : Int32) (x3 : Int32) (H : Heap) (locs : List Loc) (ls : Array Slot), lv_has ls 4 [(0, .ref h), (1, .int x1), (2, .int x2), (3, .int x3)] → va_P D vwCl (wM0 cy h a rs u) H → va_D A (wM0 cy h a rs u) → va_S A s.heap H locs → Ok (k4 (x1, x2, x3)) K → kW p l e rmX10_laneOf s m args below meth c H locs (va_Qi (fun r (_ : Unit) => K r) (fun _ => kPost D A (wM0 cy h a rs u)) A) A 4 ls [])
     (x1 : Int32) (x2 : Int32) (x3 : Int32) (H : Heap) (locs : List Loc) (ls : Array Slot) (hl : lv_has ls 4 [(0, .ref h), (1, .int x1), (2, .int x2), (3, .int x3)]) (hP : va_P D vwCl (wM0 cy h a rs u) H) (hD : va_D A (wM0 cy h a rs u)) (hS : va_S A s.heap H locs) (h1 : Ok (fX10_laneOf_b42 k4 x1 x2 x3 u) K) :
    kW p l e rmX10_laneOf s m args below meth c H locs (va_Qi (fun r (_ : Unit) => K r) (fun _ => kPost D A (wM0 cy h a rs u)) A) A 42 ls [] := by
  obtain ⟨hx, hb, hr, hml, hown, hts, hlocks, hK, hA⟩ := id E
  unfold fX10_laneOf_b42 at h1
  refine lv_iinc (v := x3 + 1) (lv' := [(3, .int (x3 + 1)), (0, .ref h), (1, .int x1), (2, .int x2)]) hx hb dX10_laneOf_42 hl (k := 3) rfl rfl (by decide) rfl (fun ls hl => ?_)
  refine lv_goto (tgt := 4) hx hb dX10_laneOf_45 (by decide) ?_
  exact hk4 x1 x2 (x3 + 1) H locs ls (lv_sub hl [1, 2, 3, 0] rfl) hP hD hS h1
def fX10_laneOf_b41 (k4 : Int32 × Int32 × Int32 → Option (Int32)) (x1 : Int32) (x3 : Int32) (s0 : Int32) (u : Nat → Int32) : Option (Int32) :=
  fX10_laneOf_b42 k4 x1 s0 x3 u
set_option maxHeartbeats 4000000 in
set_option maxRecDepth 100000 in
theorem tX10_laneOf_b41 {p : Program} {l : Launch} {e : Env} {s : State} {m : MethodId} {args : Array Value} {below : List Frame} {meth : Method} {c : Code} {D : va_G} {cy : Nat → ClassId} {A : Nat → Prop} {h : Nat} {a : Nat} {rs : List Value} (K : Int32 → Prop) (E : mE D cy RX10 cX10_laneOf 4 (some .int) wsX10_laneOf A p s m args meth c) (u : Nat → Int32)
    (k4 : Int32 × Int32 × Int32 → Option (Int32)) (hk4 : ∀ (x1 : Int32) (x2 : Int32) (x3 : Int32) (H : Heap) (locs : List Loc) (ls : Array Slot), lv_has ls 4 [(0, .ref h), (1, .int x1), (2, .int x2), (3, .int x3)] → va_P D vwCl (wM0 cy h a rs u) H → va_D A (wM0 cy h a rs u) → va_S A s.heap H locs → Ok (k4 (x1, x2, x3)) K → kW p l e rmX10_laneOf s m args below meth c H locs (va_Qi (fun r (_ : Unit) => K r) (fun _ => kPost D A (wM0 cy h a rs u)) A) A 4 ls [])
     (x1 : Int32) (x3 : Int32) (s0 : Int32) (H : Heap) (locs : List Loc) (ls : Array Slot) (hl : lv_has ls 4 [(0, .ref h), (1, .int x1), (3, .int x3)]) (hP : va_P D vwCl (wM0 cy h a rs u) H) (hD : va_D A (wM0 cy h a rs u)) (hS : va_S A s.heap H locs) (h1 : Ok (fX10_laneOf_b41 k4 x1 x3 s0 u) K) :
    kW p l e rmX10_laneOf s m args below meth c H locs (va_Qi (fun r (_ : Unit) => K r) (fun _ => kPost D A (wM0 cy h a rs u)) A) A 41 ls [.int s0] := by
  obtain ⟨hx, hb, hr, hml, hown, hts, hlocks, hK, hA⟩ := id E
  unfold fX10_laneOf_b41 at h1
  refine lv_istore_n (lv' := [(2, .int s0), (0, .ref h), (1, .int x1), (3, .int x3)]) hx hb dX10_laneOf_41 rfl hl (by decide) rfl (fun ls hl => ?_)
  exact tX10_laneOf_b42 K E u k4 hk4 x1 s0 x3 H locs ls (lv_sub hl [1, 2, 0, 3] rfl) hP hD hS h1
def fX10_laneOf_b36 (k4 : Int32 × Int32 × Int32 → Option (Int32)) (x1 : Int32) (x3 : Int32) (u : Nat → Int32) : Option (Int32) :=
  fX10_laneOf_b41 k4 x1 x3 x3 u
set_option maxHeartbeats 4000000 in
set_option maxRecDepth 100000 in
theorem tX10_laneOf_b36 {p : Program} {l : Launch} {e : Env} {s : State} {m : MethodId} {args : Array Value} {below : List Frame} {meth : Method} {c : Code} {D : va_G} {cy : Nat → ClassId} {A : Nat → Prop} {h : Nat} {a : Nat} {rs : List Value} (K : Int32 → Prop) (E : mE D cy RX10 cX10_laneOf 4 (some .int) wsX10_laneOf A p s m args meth c) (u : Nat → Int32)
    (k4 : Int32 × Int32 × Int32 → Option (Int32)) (hk4 : ∀ (x1 : Int32) (x2 : Int32) (x3 : Int32) (H : Heap) (locs : List Loc) (ls : Array Slot), lv_has ls 4 [(0, .ref h), (1, .int x1), (2, .int x2), (3, .int x3)] → va_P D vwCl (wM0 cy h a rs u) H → va_D A (wM0 cy h a rs u) → va_S A s.heap H locs → Ok (k4 (x1, x2, x3)) K → kW p l e rmX10_laneOf s m args below meth c H locs (va_Qi (fun r (_ : Unit) => K r) (fun _ => kPost D A (wM0 cy h a rs u)) A) A 4 ls [])
     (x1 : Int32) (x3 : Int32) (H : Heap) (locs : List Loc) (ls : Array Slot) (hl : lv_has ls 4 [(0, .ref h), (1, .int x1), (3, .int x3)]) (hP : va_P D vwCl (wM0 cy h a rs u) H) (hD : va_D A (wM0 cy h a rs u)) (hS : va_S A s.heap H locs) (h1 : Ok (fX10_laneOf_b36 k4 x1 x3 u) K) :
    kW p l e rmX10_laneOf s m args below meth c H locs (va_Qi (fun r (_ : Unit) => K r) (fun _ => kPost D A (wM0 cy h a rs u)) A) A 36 ls [] := by
  obtain ⟨hx, hb, hr, hml, hown, hts, hlocks, hK, hA⟩ := id E
  unfold fX10_laneOf_b36 at h1
  refine lv_iload_n hx hb dX10_laneOf_36 rfl (lv_at hl 2 rfl) ?_
  refine lv_goto (tgt := 41) hx hb dX10_laneOf_37 (by decide) ?_
  exact tX10_laneOf_b41 K E u k4 hk4 x1 x3 x3 H locs ls (lv_sub hl [0, 1, 2] rfl) hP hD hS h1
def fX10_laneOf_b4 (k4 : Int32 × Int32 × Int32 → Option (Int32)) (x1 : Int32) (x2 : Int32) (x3 : Int32) (u : Nat → Int32) : Option (Int32) :=
  (if 3 ≤ x3 then some x2 else bnd (fX10_suits x3 x1 u) (fun r12 => (if r12 = 0 then fX10_laneOf_b42 k4 x1 x2 x3 u else (if x2 = (-1) then fX10_laneOf_b36 k4 x1 x3 u else bnd (fX10_weightOf x3 u) (fun r25 => bnd (fX10_weightOf x2 u) (fun r30 => (if r30 ≤ r25 then fX10_laneOf_b41 k4 x1 x3 x2 u else fX10_laneOf_b36 k4 x1 x3 u)))))))
set_option maxHeartbeats 4000000 in
set_option maxRecDepth 100000 in
theorem tX10_laneOf_b4 {p : Program} {l : Launch} {e : Env} {s : State} {m : MethodId} {args : Array Value} {below : List Frame} {meth : Method} {c : Code} {D : va_G} {cy : Nat → ClassId} {A : Nat → Prop} {h : Nat} {a : Nat} {rs : List Value} (K : Int32 → Prop) (E : mE D cy RX10 cX10_laneOf 4 (some .int) wsX10_laneOf A p s m args meth c) (u : Nat → Int32)
    (k4 : Int32 × Int32 × Int32 → Option (Int32)) (hk4 : ∀ (x1 : Int32) (x2 : Int32) (x3 : Int32) (H : Heap) (locs : List Loc) (ls : Array Slot), lv_has ls 4 [(0, .ref h), (1, .int x1), (2, .int x2), (3, .int x3)] → va_P D vwCl (wM0 cy h a rs u) H → va_D A (wM0 cy h a rs u) → va_S A s.heap H locs → Ok (k4 (x1, x2, x3)) K → kW p l e rmX10_laneOf s m args below meth c H locs (va_Qi (fun r (_ : Unit) => K r) (fun _ => kPost D A (wM0 cy h a rs u)) A) A 4 ls [])
     (x1 : Int32) (x2 : Int32) (x3 : Int32) (H : Heap) (locs : List Loc) (ls : Array Slot) (hl : lv_has ls 4 [(0, .ref h), (1, .int x1), (2, .int x2), (3, .int x3)]) (hP : va_P D vwCl (wM0 cy h a rs u) H) (hD : va_D A (wM0 cy h a rs u)) (hS : va_S A s.heap H locs) (h1 : Ok (fX10_laneOf_b4 k4 x1 x2 x3 u) K) :
    kW p l e rmX10_laneOf s m args below meth c H locs (va_Qi (fun r (_ : Unit) => K r) (fun _ => kPost D A (wM0 cy h a rs u)) A) A 4 ls [] := by
  obtain ⟨hx, hb, hr, hml, hown, hts, hlocks, hK, hA⟩ := id E
  unfold fX10_laneOf_b4 at h1
  refine lv_iload_n hx hb dX10_laneOf_4 rfl (lv_at hl 3 rfl) ?_
  refine lv_iconst (v := 3) hx hb dX10_laneOf_5 rfl ?_
  refine lv_icmp_ge (tgt := 48) hx hb dX10_laneOf_6 (by decide) (fun c6 => ?_) (fun c6 => ?_)
  · replace h1 := Ok.pos c6 h1
    refine lv_iload_n hx hb dX10_laneOf_48 rfl (lv_at hl 2 rfl) ?_
    exact kret_r hx hb hr hlocks hP hD hS h1 dX10_laneOf_49
  · replace h1 := Ok.neg c6 h1
    refine lv_aload_n hx hb dX10_laneOf_9 rfl (lv_at hl 0 rfl) ?_
    refine lv_iload_n hx hb dX10_laneOf_10 rfl (lv_at hl 3 rfl) ?_
    refine lv_iload_n hx hb dX10_laneOf_11 rfl (lv_at hl 1 rfl) ?_
    refine kc_rV0 (b := h) (As := [.int x3, .int x1]) (rest := []) h1 ⟨hx, hb, hml, hown, hts⟩ (cX10_suitsM l D cy h a rs H.size u x3 x1) (cwV 2 hts gX10_laneOf_X10_suits rfl rfl rfl hdX10_suits ⟨Nat.le_of_ble_eq_true rfl, Nat.le_of_ble_eq_true rfl⟩) hK hP hD hS hA (q0 := 0) rfl rfl rfl hl.1 rfl (Nat.le_of_ble_eq_true rfl) dX10_laneOf_12 ⟨Nat.zero_le _, Nat.zero_le _⟩ (fun r12 H locs h1 hP hS => ?_)
    refine lv_if_eq (tgt := 42) hx hb dX10_laneOf_15 (by decide) (fun c15 => ?_) (fun c15 => ?_)
    · replace h1 := Ok.pos c15 h1
      exact tX10_laneOf_b42 K E u k4 hk4 x1 x2 x3 H locs ls (lv_sub hl [0, 1, 2, 3] rfl) hP hD hS h1
    · replace h1 := Ok.neg c15 h1
      refine lv_iload_n hx hb dX10_laneOf_18 rfl (lv_at hl 2 rfl) ?_
      refine lv_iconst (v := (-1)) hx hb dX10_laneOf_19 rfl ?_
      refine lv_icmp_eq (tgt := 36) hx hb dX10_laneOf_20 (by decide) (fun c20 => ?_) (fun c20 => ?_)
      · replace h1 := Ok.pos c20 h1
        exact tX10_laneOf_b36 K E u k4 hk4 x1 x3 H locs ls (lv_sub hl [0, 1, 3] rfl) hP hD hS h1
      · replace h1 := Ok.neg c20 h1
        refine lv_aload_n hx hb dX10_laneOf_23 rfl (lv_at hl 0 rfl) ?_
        refine lv_iload_n hx hb dX10_laneOf_24 rfl (lv_at hl 3 rfl) ?_
        refine kc_rV0 (b := h) (As := [.int x3]) (rest := []) h1 ⟨hx, hb, hml, hown, hts⟩ (cX10_weightOfM l D cy h a rs H.size u x3) (cwV 1 hts gX10_laneOf_X10_weightOf rfl rfl rfl hdX10_weightOf ⟨Nat.le_of_ble_eq_true rfl, Nat.le_of_ble_eq_true rfl⟩) hK hP hD hS hA (q0 := 0) rfl rfl rfl hl.1 rfl (Nat.le_of_ble_eq_true rfl) dX10_laneOf_25 ⟨Nat.zero_le _, Nat.zero_le _⟩ (fun r25 H locs h1 hP hS => ?_)
        refine lv_aload_n hx hb dX10_laneOf_28 rfl (lv_at hl 0 rfl) ?_
        refine lv_iload_n hx hb dX10_laneOf_29 rfl (lv_at hl 2 rfl) ?_
        refine kc_rV0 (b := h) (As := [.int x2]) (rest := [.int r25]) h1 ⟨hx, hb, hml, hown, hts⟩ (cX10_weightOfM l D cy h a rs H.size u x2) (cwV 1 hts gX10_laneOf_X10_weightOf rfl rfl rfl hdX10_weightOf ⟨Nat.le_of_ble_eq_true rfl, Nat.le_of_ble_eq_true rfl⟩) hK hP hD hS hA (q0 := 0) rfl rfl rfl hl.1 rfl (Nat.le_of_ble_eq_true rfl) dX10_laneOf_30 ⟨Nat.zero_le _, Nat.zero_le _⟩ (fun r30 H locs h1 hP hS => ?_)
        refine lv_icmp_ge (tgt := 40) hx hb dX10_laneOf_33 (by decide) (fun c33 => ?_) (fun c33 => ?_)
        · replace h1 := Ok.pos c33 h1
          refine lv_iload_n hx hb dX10_laneOf_40 rfl (lv_at hl 2 rfl) ?_
          exact tX10_laneOf_b41 K E u k4 hk4 x1 x3 x2 H locs ls (lv_sub hl [0, 1, 3] rfl) hP hD hS h1
        · replace h1 := Ok.neg c33 h1
          exact tX10_laneOf_b36 K E u k4 hk4 x1 x3 H locs ls (lv_sub hl [0, 1, 3] rfl) hP hD hS h1
theorem tX10_laneOf_l4 {p : Program} {l : Launch} {e : Env} {s : State} {m : MethodId} {args : Array Value} {below : List Frame} {meth : Method} {c : Code} {D : va_G} {cy : Nat → ClassId} {A : Nat → Prop} {h : Nat} {a : Nat} {rs : List Value} (K : Int32 → Prop) (E : mE D cy RX10 cX10_laneOf 4 (some .int) wsX10_laneOf A p s m args meth c) (u : Nat → Int32) : ∀ (n9 : Nat) (x1 : Int32) (x2 : Int32) (x3 : Int32) (H : Heap) (locs : List Loc) (ls : Array Slot), lv_has ls 4 [(0, .ref h), (1, .int x1), (2, .int x2), (3, .int x3)] → va_P D vwCl (wM0 cy h a rs u) H → va_D A (wM0 cy h a rs u) → va_S A s.heap H locs → Ok (lop (fun y z => fX10_laneOf_b4 y z.1 z.2.1 z.2.2 u) n9 (x1, x2, x3)) K → kW p l e rmX10_laneOf s m args below meth c H locs (va_Qi (fun r (_ : Unit) => K r) (fun _ => kPost D A (wM0 cy h a rs u)) A) A 4 ls [] := by
  intro n9
  induction n9 with
  | zero =>
    intro x1 x2 x3 H locs ls hl hP hD hS h1
    exact h1.no
  | succ n9 ih =>
    intro x1 x2 x3 H locs ls hl hP hD hS h1
    exact tX10_laneOf_b4 K E u (lop (fun y z => fX10_laneOf_b4 y z.1 z.2.1 z.2.2 u) n9) (fun x1 x2 x3 H locs ls hl hP hD hS h1 => ih x1 x2 x3 H locs ls hl hP hD hS h1) x1 x2 x3 H locs ls hl hP hD hS h1
def fX10_laneOf_b0 (x1 : Int32) (u : Nat → Int32) : Option (Int32) :=
  lop (fun y z => fX10_laneOf_b4 y z.1 z.2.1 z.2.2 u) LF (x1, (-1), 0)
set_option maxHeartbeats 4000000 in
set_option maxRecDepth 100000 in
theorem tX10_laneOf_b0 {p : Program} {l : Launch} {e : Env} {s : State} {m : MethodId} {args : Array Value} {below : List Frame} {meth : Method} {c : Code} {D : va_G} {cy : Nat → ClassId} {A : Nat → Prop} {h : Nat} {a : Nat} {rs : List Value} (K : Int32 → Prop) (E : mE D cy RX10 cX10_laneOf 4 (some .int) wsX10_laneOf A p s m args meth c) (u : Nat → Int32)
     (x1 : Int32) (H : Heap) (locs : List Loc) (ls : Array Slot) (hl : lv_has ls 4 [(0, .ref h), (1, .int x1)]) (hP : va_P D vwCl (wM0 cy h a rs u) H) (hD : va_D A (wM0 cy h a rs u)) (hS : va_S A s.heap H locs) (h1 : Ok (fX10_laneOf_b0 x1 u) K) :
    kW p l e rmX10_laneOf s m args below meth c H locs (va_Qi (fun r (_ : Unit) => K r) (fun _ => kPost D A (wM0 cy h a rs u)) A) A 0 ls [] := by
  obtain ⟨hx, hb, hr, hml, hown, hts, hlocks, hK, hA⟩ := id E
  unfold fX10_laneOf_b0 at h1
  refine lv_iconst (v := (-1)) hx hb dX10_laneOf_0 rfl ?_
  refine lv_istore_n (lv' := [(2, .int (-1)), (0, .ref h), (1, .int x1)]) hx hb dX10_laneOf_1 rfl hl (by decide) rfl (fun ls hl => ?_)
  refine lv_iconst (v := 0) hx hb dX10_laneOf_2 rfl ?_
  refine lv_istore_n (lv' := [(3, .int 0), (2, .int (-1)), (0, .ref h), (1, .int x1)]) hx hb dX10_laneOf_3 rfl hl (by decide) rfl (fun ls hl => ?_)
  exact tX10_laneOf_l4 K E u LF x1 (-1) 0 H locs ls (lv_sub hl [2, 3, 1, 0] rfl) hP hD hS h1
def fX10_laneOf (p1 : Int32) (u : Nat → Int32) : Option (Int32) := fX10_laneOf_b0 p1 u
set_option maxHeartbeats 4000000 in
set_option maxRecDepth 100000 in
theorem cX10_laneOfM (l : Launch) (D : va_G) (cy : Nat → ClassId) (h : Nat) (a : Nat) (rs : List Value) (sz : Nat) (u : Nat → Int32) (p1 : Int32) : ∀ (K : Int32 → Prop), Ok (fX10_laneOf p1 u) K → Met l yX10_laneOf wsX10_laneOf rmX10_laneOf (va_Pc [.ref h, .int p1] (kPre D cy sz (wM0 cy h a rs u))) (va_Qi (fun r (_ : Unit) => K r) (fun _ => kPost D (va_A (wM0 cy h a rs u) sz) (wM0 cy h a rs u)) (va_A (wM0 cy h a rs u) sz)) 0 0 (va_A (wM0 cy h a rs u) sz) := by
  intro K h1
  refine Met.ofW (cc := cX10_laneOf) (maxL := 4) (ret := (some .int)) (by decide) rfl ?_
  intro p e s m args below meth c s₁ B hml hv
  obtain ⟨rfl, hsz, hP, hK, hD0⟩ := hv
  subst hsz
  have E : mE D cy RX10 cX10_laneOf 4 (some .int) wsX10_laneOf (va_A (wM0 cy h a rs u) s.heap.size) p s m _ meth c := ⟨B.exec, B.bytes, B.returns, hml, findClass_of_methodNamed B.named, atoms_spec (ws := wsX10_laneOf) B.pre, B.notSynchronized, hK, fun q h => Or.inr h⟩
  have hl := lv_entry ([.ref h, .int p1]) (n := 4) (Nat.le_of_ble_eq_true rfl)
  rw [lg_entry_eq]
  generalize (lg_sl ([.ref h, .int p1]) ++ List.replicate (4 - (lg_sl ([.ref h, .int p1])).length) Slot.unset).toArray = ls at hl ⊢
  exact tX10_laneOf_b0 K E u p1 _ _ _ hl hP hD0.self va_S.rf h1
-- X10_whyNotNow
theorem inX10_whyNotNow_X10 : ∀ w ∈ u_ws RX10 TX10 23, w ∈ wsX10_whyNotNow := k_lays 67 rfl
theorem lkX10_whyNotNow_7 : Cond.fieldLink RX10 7 "FerryRampModel" "state" "[I" ∈ wsX10_whyNotNow := List.mem_of_getElem? (i := 1) rfl
theorem hdX10_laneOf : yX10_laneOf.cls = RX10 ∧ yX10_laneOf.cls ≠ "java/lang/invoke/MethodHandle" ∧ yX10_laneOf.cls ≠ "java/lang/invoke/VarHandle" ∧ (parseMethodDescriptor yX10_laneOf.desc).map (fun d => d.parameters.length) = some 1 := by decide +kernel
theorem hdX10_slopeNow : yX10_slopeNow.cls = RX10 ∧ yX10_slopeNow.cls ≠ "java/lang/invoke/MethodHandle" ∧ yX10_slopeNow.cls ≠ "java/lang/invoke/VarHandle" ∧ (parseMethodDescriptor yX10_slopeNow.desc).map (fun d => d.parameters.length) = some 0 := by decide +kernel
theorem hdX10_lipNow : yX10_lipNow.cls = RX10 ∧ yX10_lipNow.cls ≠ "java/lang/invoke/MethodHandle" ∧ yX10_lipNow.cls ≠ "java/lang/invoke/VarHandle" ∧ (parseMethodDescriptor yX10_lipNow.desc).map (fun d => d.parameters.length) = some 0 := by decide +kernel
abbrev rmX10_whyNotNow : Room := { frames := 6, cells := 0, slots := 0, locals := 137 }
def fX10_whyNotNow_b53 (x1 : Int32) (u : Nat → Int32) : Option (Int32) :=
  bnd (fX10_weightOnDeck u) (fun r54 => bnd (fX10_ofCar x1 1 u) (fun r60 => (if (r54 + r60) ≤ (u 22) then bnd (fX10_laneOf x1 u) (fun r78 => (if r78 = (-1) then some 5 else bnd (fX10_slopeNow u) (fun r88 => bnd (fX10_kindOf x1 0 u) (fun r94 => (if r88 ≤ r94 then bnd (fX10_lipNow u) (fun r104 => bnd (fX10_kindOf x1 1 u) (fun r110 => (if r104 ≤ r110 then some 0 else some 7))) else some 6))))) else some 4)))
set_option maxHeartbeats 4000000 in
set_option maxRecDepth 100000 in
theorem tX10_whyNotNow_b53 {p : Program} {l : Launch} {e : Env} {s : State} {m : MethodId} {args : Array Value} {below : List Frame} {meth : Method} {c : Code} {D : va_G} {cy : Nat → ClassId} {A : Nat → Prop} {h : Nat} {a : Nat} {rs : List Value} (K : Int32 → Prop) (E : mE D cy RX10 cX10_whyNotNow 2 (some .int) wsX10_whyNotNow A p s m args meth c) (u : Nat → Int32)
     (x1 : Int32) (H : Heap) (locs : List Loc) (ls : Array Slot) (hl : lv_has ls 2 [(0, .ref h), (1, .int x1)]) (hP : va_P D vwCl (wM0 cy h a rs u) H) (hD : va_D A (wM0 cy h a rs u)) (hS : va_S A s.heap H locs) (h1 : Ok (fX10_whyNotNow_b53 x1 u) K) :
    kW p l e rmX10_whyNotNow s m args below meth c H locs (va_Qi (fun r (_ : Unit) => K r) (fun _ => kPost D A (wM0 cy h a rs u)) A) A 53 ls [] := by
  obtain ⟨hx, hb, hr, hml, hown, hts, hlocks, hK, hA⟩ := id E
  unfold fX10_whyNotNow_b53 at h1
  refine lv_aload_n hx hb dX10_whyNotNow_53 rfl (lv_at hl 0 rfl) ?_
  refine kc_rV0 (b := h) (As := []) (rest := []) h1 ⟨hx, hb, hml, hown, hts⟩ (cX10_weightOnDeckM l D cy h a rs H.size u) (cwV 0 hts gX10_whyNotNow_X10_weightOnDeck rfl rfl rfl hdX10_weightOnDeck ⟨Nat.le_of_ble_eq_true rfl, Nat.le_of_ble_eq_true rfl⟩) hK hP hD hS hA (q0 := 0) rfl rfl rfl hl.1 rfl (Nat.le_of_ble_eq_true rfl) dX10_whyNotNow_54 ⟨Nat.zero_le _, Nat.zero_le _⟩ (fun r54 H locs h1 hP hS => ?_)
  refine lv_aload_n hx hb dX10_whyNotNow_57 rfl (lv_at hl 0 rfl) ?_
  refine lv_iload_n hx hb dX10_whyNotNow_58 rfl (lv_at hl 1 rfl) ?_
  refine lv_iconst (v := 1) hx hb dX10_whyNotNow_59 rfl ?_
  refine kc_rV0 (b := h) (As := [.int x1, .int 1]) (rest := [.int r54]) h1 ⟨hx, hb, hml, hown, hts⟩ (cX10_ofCarM l D cy h a rs H.size u x1 1) (cwV 2 hts gX10_whyNotNow_X10_ofCar rfl rfl rfl hdX10_ofCar ⟨Nat.le_of_ble_eq_true rfl, Nat.le_of_ble_eq_true rfl⟩) hK hP hD hS hA (q0 := 0) rfl rfl rfl hl.1 rfl (Nat.le_of_ble_eq_true rfl) dX10_whyNotNow_60 ⟨Nat.zero_le _, Nat.zero_le _⟩ (fun r60 H locs h1 hP hS => ?_)
  refine lv_iadd hx hb dX10_whyNotNow_63 ?_
  refine lv_aload_n hx hb dX10_whyNotNow_64 rfl (lv_at hl 0 rfl) ?_
  refine k_get (v := .ref a) (C := RX10) (T := TX10) (N := 23) hx hb hts inX10_whyNotNow_X10 hown hK hP 0 (wM0_a0 _ _ _ _ _) rfl 0 (by decide) lkX10_whyNotNow_7 (m0Fs_0 _ _) dX10_whyNotNow_65 ?_
  refine lv_bipush (v := 22) hx hb dX10_whyNotNow_68 rfl ?_
  refine k_iald (k := 22) hx hb hK hP 1 (wM0_a1 _ _ _ _ _) rfl rfl dX10_whyNotNow_70 ?_
  refine lv_icmp_le (tgt := 76) hx hb dX10_whyNotNow_71 (by decide) (fun c71 => ?_) (fun c71 => ?_)
  · replace h1 := Ok.pos c71 h1
    refine lv_aload_n hx hb dX10_whyNotNow_76 rfl (lv_at hl 0 rfl) ?_
    refine lv_iload_n hx hb dX10_whyNotNow_77 rfl (lv_at hl 1 rfl) ?_
    refine kc_rV0 (b := h) (As := [.int x1]) (rest := []) h1 ⟨hx, hb, hml, hown, hts⟩ (cX10_laneOfM l D cy h a rs H.size u x1) (cwV 1 hts gX10_whyNotNow_X10_laneOf rfl rfl rfl hdX10_laneOf ⟨Nat.le_of_ble_eq_true rfl, Nat.le_of_ble_eq_true rfl⟩) hK hP hD hS hA (q0 := 0) rfl rfl rfl hl.1 rfl (Nat.le_of_ble_eq_true rfl) dX10_whyNotNow_78 ⟨Nat.zero_le _, Nat.zero_le _⟩ (fun r78 H locs h1 hP hS => ?_)
    refine lv_iconst (v := (-1)) hx hb dX10_whyNotNow_81 rfl ?_
    refine lv_icmp_ne (tgt := 87) hx hb dX10_whyNotNow_82 (by decide) (fun c82 => ?_) (fun c82 => ?_)
    · replace h1 := Ok.neg c82 h1
      refine lv_aload_n hx hb dX10_whyNotNow_87 rfl (lv_at hl 0 rfl) ?_
      refine kc_rV0 (b := h) (As := []) (rest := []) h1 ⟨hx, hb, hml, hown, hts⟩ (cX10_slopeNowM l D cy h a rs H.size u) (cwV 0 hts gX10_whyNotNow_X10_slopeNow rfl rfl rfl hdX10_slopeNow ⟨Nat.le_of_ble_eq_true rfl, Nat.le_of_ble_eq_true rfl⟩) hK hP hD hS hA (q0 := 0) rfl rfl rfl hl.1 rfl (Nat.le_of_ble_eq_true rfl) dX10_whyNotNow_88 ⟨Nat.zero_le _, Nat.zero_le _⟩ (fun r88 H locs h1 hP hS => ?_)
      refine lv_aload_n hx hb dX10_whyNotNow_91 rfl (lv_at hl 0 rfl) ?_
      refine lv_iload_n hx hb dX10_whyNotNow_92 rfl (lv_at hl 1 rfl) ?_
      refine lv_iconst (v := 0) hx hb dX10_whyNotNow_93 rfl ?_
      refine kc_rV0 (b := h) (As := [.int x1, .int 0]) (rest := [.int r88]) h1 ⟨hx, hb, hml, hown, hts⟩ (cX10_kindOfM l D cy h a rs H.size u x1 0) (cwV 2 hts gX10_whyNotNow_X10_kindOf rfl rfl rfl hdX10_kindOf ⟨Nat.le_of_ble_eq_true rfl, Nat.le_of_ble_eq_true rfl⟩) hK hP hD hS hA (q0 := 0) rfl rfl rfl hl.1 rfl (Nat.le_of_ble_eq_true rfl) dX10_whyNotNow_94 ⟨Nat.zero_le _, Nat.zero_le _⟩ (fun r94 H locs h1 hP hS => ?_)
      refine lv_icmp_le (tgt := 103) hx hb dX10_whyNotNow_97 (by decide) (fun c97 => ?_) (fun c97 => ?_)
      · replace h1 := Ok.pos c97 h1
        refine lv_aload_n hx hb dX10_whyNotNow_103 rfl (lv_at hl 0 rfl) ?_
        refine kc_rV0 (b := h) (As := []) (rest := []) h1 ⟨hx, hb, hml, hown, hts⟩ (cX10_lipNowM l D cy h a rs H.size u) (cwV 0 hts gX10_whyNotNow_X10_lipNow rfl rfl rfl hdX10_lipNow ⟨Nat.le_of_ble_eq_true rfl, Nat.le_of_ble_eq_true rfl⟩) hK hP hD hS hA (q0 := 0) rfl rfl rfl hl.1 rfl (Nat.le_of_ble_eq_true rfl) dX10_whyNotNow_104 ⟨Nat.zero_le _, Nat.zero_le _⟩ (fun r104 H locs h1 hP hS => ?_)
        refine lv_aload_n hx hb dX10_whyNotNow_107 rfl (lv_at hl 0 rfl) ?_
        refine lv_iload_n hx hb dX10_whyNotNow_108 rfl (lv_at hl 1 rfl) ?_
        refine lv_iconst (v := 1) hx hb dX10_whyNotNow_109 rfl ?_
        refine kc_rV0 (b := h) (As := [.int x1, .int 1]) (rest := [.int r104]) h1 ⟨hx, hb, hml, hown, hts⟩ (cX10_kindOfM l D cy h a rs H.size u x1 1) (cwV 2 hts gX10_whyNotNow_X10_kindOf rfl rfl rfl hdX10_kindOf ⟨Nat.le_of_ble_eq_true rfl, Nat.le_of_ble_eq_true rfl⟩) hK hP hD hS hA (q0 := 0) rfl rfl rfl hl.1 rfl (Nat.le_of_ble_eq_true rfl) dX10_whyNotNow_110 ⟨Nat.zero_le _, Nat.zero_le _⟩ (fun r110 H locs h1 hP hS => ?_)
        refine lv_icmp_le (tgt := 121) hx hb dX10_whyNotNow_113 (by decide) (fun c113 => ?_) (fun c113 => ?_)
        · replace h1 := Ok.pos c113 h1
          refine lv_iconst (v := 0) hx hb dX10_whyNotNow_121 rfl ?_
          exact kret_r hx hb hr hlocks hP hD hS h1 dX10_whyNotNow_122
        · replace h1 := Ok.neg c113 h1
          refine lv_bipush (v := 7) hx hb dX10_whyNotNow_116 rfl ?_
          refine lv_goto (tgt := 122) hx hb dX10_whyNotNow_118 (by decide) ?_
          exact kret_r hx hb hr hlocks hP hD hS h1 dX10_whyNotNow_122
      · replace h1 := Ok.neg c97 h1
        refine lv_bipush (v := 6) hx hb dX10_whyNotNow_100 rfl ?_
        exact kret_r hx hb hr hlocks hP hD hS h1 dX10_whyNotNow_102
    · replace h1 := Ok.pos c82 h1
      refine lv_iconst (v := 5) hx hb dX10_whyNotNow_85 rfl ?_
      exact kret_r hx hb hr hlocks hP hD hS h1 dX10_whyNotNow_86
  · replace h1 := Ok.neg c71 h1
    refine lv_iconst (v := 4) hx hb dX10_whyNotNow_74 rfl ?_
    exact kret_r hx hb hr hlocks hP hD hS h1 dX10_whyNotNow_75
def fX10_whyNotNow_b0 (x1 : Int32) (u : Nat → Int32) : Option (Int32) :=
  (if (u 12) = 0 then some 1 else (if (u 4) = (-1) then bnd (fX10_hasFree 0 x1 u) (fun r27 => (if r27 = 0 then bnd (fX10_hasFree 1 x1 u) (fun r36 => (if r36 = 0 then bnd (fX10_hasFree 2 x1 u) (fun r45 => (if r45 = 0 then some 3 else fX10_whyNotNow_b53 x1 u)) else fX10_whyNotNow_b53 x1 u)) else fX10_whyNotNow_b53 x1 u)) else some 2))
set_option maxHeartbeats 4000000 in
set_option maxRecDepth 100000 in
theorem tX10_whyNotNow_b0 {p : Program} {l : Launch} {e : Env} {s : State} {m : MethodId} {args : Array Value} {below : List Frame} {meth : Method} {c : Code} {D : va_G} {cy : Nat → ClassId} {A : Nat → Prop} {h : Nat} {a : Nat} {rs : List Value} (K : Int32 → Prop) (E : mE D cy RX10 cX10_whyNotNow 2 (some .int) wsX10_whyNotNow A p s m args meth c) (u : Nat → Int32)
     (x1 : Int32) (H : Heap) (locs : List Loc) (ls : Array Slot) (hl : lv_has ls 2 [(0, .ref h), (1, .int x1)]) (hP : va_P D vwCl (wM0 cy h a rs u) H) (hD : va_D A (wM0 cy h a rs u)) (hS : va_S A s.heap H locs) (h1 : Ok (fX10_whyNotNow_b0 x1 u) K) :
    kW p l e rmX10_whyNotNow s m args below meth c H locs (va_Qi (fun r (_ : Unit) => K r) (fun _ => kPost D A (wM0 cy h a rs u)) A) A 0 ls [] := by
  obtain ⟨hx, hb, hr, hml, hown, hts, hlocks, hK, hA⟩ := id E
  unfold fX10_whyNotNow_b0 at h1
  refine lv_aload_n hx hb dX10_whyNotNow_0 rfl (lv_at hl 0 rfl) ?_
  refine k_get (v := .ref a) (C := RX10) (T := TX10) (N := 23) hx hb hts inX10_whyNotNow_X10 hown hK hP 0 (wM0_a0 _ _ _ _ _) rfl 0 (by decide) lkX10_whyNotNow_7 (m0Fs_0 _ _) dX10_whyNotNow_1 ?_
  refine lv_bipush (v := 12) hx hb dX10_whyNotNow_4 rfl ?_
  refine k_iald (k := 12) hx hb hK hP 1 (wM0_a1 _ _ _ _ _) rfl rfl dX10_whyNotNow_6 ?_
  refine lv_if_ne (tgt := 12) hx hb dX10_whyNotNow_7 (by decide) (fun c7 => ?_) (fun c7 => ?_)
  · replace h1 := Ok.neg c7 h1
    refine lv_aload_n hx hb dX10_whyNotNow_12 rfl (lv_at hl 0 rfl) ?_
    refine k_get (v := .ref a) (C := RX10) (T := TX10) (N := 23) hx hb hts inX10_whyNotNow_X10 hown hK hP 0 (wM0_a0 _ _ _ _ _) rfl 0 (by decide) lkX10_whyNotNow_7 (m0Fs_0 _ _) dX10_whyNotNow_13 ?_
    refine lv_iconst (v := 4) hx hb dX10_whyNotNow_16 rfl ?_
    refine k_iald (k := 4) hx hb hK hP 1 (wM0_a1 _ _ _ _ _) rfl rfl dX10_whyNotNow_17 ?_
    refine lv_iconst (v := (-1)) hx hb dX10_whyNotNow_18 rfl ?_
    refine lv_icmp_eq (tgt := 24) hx hb dX10_whyNotNow_19 (by decide) (fun c19 => ?_) (fun c19 => ?_)
    · replace h1 := Ok.pos c19 h1
      refine lv_aload_n hx hb dX10_whyNotNow_24 rfl (lv_at hl 0 rfl) ?_
      refine lv_iconst (v := 0) hx hb dX10_whyNotNow_25 rfl ?_
      refine lv_iload_n hx hb dX10_whyNotNow_26 rfl (lv_at hl 1 rfl) ?_
      refine kc_rV0 (b := h) (As := [.int 0, .int x1]) (rest := []) h1 ⟨hx, hb, hml, hown, hts⟩ (cX10_hasFreeM l D cy h a rs H.size u 0 x1) (cwV 2 hts gX10_whyNotNow_X10_hasFree rfl rfl rfl hdX10_hasFree ⟨Nat.le_of_ble_eq_true rfl, Nat.le_of_ble_eq_true rfl⟩) hK hP hD hS hA (q0 := 0) rfl rfl rfl hl.1 rfl (Nat.le_of_ble_eq_true rfl) dX10_whyNotNow_27 ⟨Nat.zero_le _, Nat.zero_le _⟩ (fun r27 H locs h1 hP hS => ?_)
      refine lv_if_ne (tgt := 53) hx hb dX10_whyNotNow_30 (by decide) (fun c30 => ?_) (fun c30 => ?_)
      · replace h1 := Ok.neg c30 h1
        exact tX10_whyNotNow_b53 K E u x1 H locs ls (lv_sub hl [0, 1] rfl) hP hD hS h1
      · replace h1 := Ok.pos c30 h1
        refine lv_aload_n hx hb dX10_whyNotNow_33 rfl (lv_at hl 0 rfl) ?_
        refine lv_iconst (v := 1) hx hb dX10_whyNotNow_34 rfl ?_
        refine lv_iload_n hx hb dX10_whyNotNow_35 rfl (lv_at hl 1 rfl) ?_
        refine kc_rV0 (b := h) (As := [.int 1, .int x1]) (rest := []) h1 ⟨hx, hb, hml, hown, hts⟩ (cX10_hasFreeM l D cy h a rs H.size u 1 x1) (cwV 2 hts gX10_whyNotNow_X10_hasFree rfl rfl rfl hdX10_hasFree ⟨Nat.le_of_ble_eq_true rfl, Nat.le_of_ble_eq_true rfl⟩) hK hP hD hS hA (q0 := 0) rfl rfl rfl hl.1 rfl (Nat.le_of_ble_eq_true rfl) dX10_whyNotNow_36 ⟨Nat.zero_le _, Nat.zero_le _⟩ (fun r36 H locs h1 hP hS => ?_)
        refine lv_if_ne (tgt := 53) hx hb dX10_whyNotNow_39 (by decide) (fun c39 => ?_) (fun c39 => ?_)
        · replace h1 := Ok.neg c39 h1
          exact tX10_whyNotNow_b53 K E u x1 H locs ls (lv_sub hl [0, 1] rfl) hP hD hS h1
        · replace h1 := Ok.pos c39 h1
          refine lv_aload_n hx hb dX10_whyNotNow_42 rfl (lv_at hl 0 rfl) ?_
          refine lv_iconst (v := 2) hx hb dX10_whyNotNow_43 rfl ?_
          refine lv_iload_n hx hb dX10_whyNotNow_44 rfl (lv_at hl 1 rfl) ?_
          refine kc_rV0 (b := h) (As := [.int 2, .int x1]) (rest := []) h1 ⟨hx, hb, hml, hown, hts⟩ (cX10_hasFreeM l D cy h a rs H.size u 2 x1) (cwV 2 hts gX10_whyNotNow_X10_hasFree rfl rfl rfl hdX10_hasFree ⟨Nat.le_of_ble_eq_true rfl, Nat.le_of_ble_eq_true rfl⟩) hK hP hD hS hA (q0 := 0) rfl rfl rfl hl.1 rfl (Nat.le_of_ble_eq_true rfl) dX10_whyNotNow_45 ⟨Nat.zero_le _, Nat.zero_le _⟩ (fun r45 H locs h1 hP hS => ?_)
          refine lv_if_ne (tgt := 53) hx hb dX10_whyNotNow_48 (by decide) (fun c48 => ?_) (fun c48 => ?_)
          · replace h1 := Ok.neg c48 h1
            exact tX10_whyNotNow_b53 K E u x1 H locs ls (lv_sub hl [0, 1] rfl) hP hD hS h1
          · replace h1 := Ok.pos c48 h1
            refine lv_iconst (v := 3) hx hb dX10_whyNotNow_51 rfl ?_
            exact kret_r hx hb hr hlocks hP hD hS h1 dX10_whyNotNow_52
    · replace h1 := Ok.neg c19 h1
      refine lv_iconst (v := 2) hx hb dX10_whyNotNow_22 rfl ?_
      exact kret_r hx hb hr hlocks hP hD hS h1 dX10_whyNotNow_23
  · replace h1 := Ok.pos c7 h1
    refine lv_iconst (v := 1) hx hb dX10_whyNotNow_10 rfl ?_
    exact kret_r hx hb hr hlocks hP hD hS h1 dX10_whyNotNow_11
def fX10_whyNotNow (p1 : Int32) (u : Nat → Int32) : Option (Int32) := fX10_whyNotNow_b0 p1 u
set_option maxHeartbeats 4000000 in
set_option maxRecDepth 100000 in
theorem cX10_whyNotNowM (l : Launch) (D : va_G) (cy : Nat → ClassId) (h : Nat) (a : Nat) (rs : List Value) (sz : Nat) (u : Nat → Int32) (p1 : Int32) : ∀ (K : Int32 → Prop), Ok (fX10_whyNotNow p1 u) K → Met l yX10_whyNotNow wsX10_whyNotNow rmX10_whyNotNow (va_Pc [.ref h, .int p1] (kPre D cy sz (wM0 cy h a rs u))) (va_Qi (fun r (_ : Unit) => K r) (fun _ => kPost D (va_A (wM0 cy h a rs u) sz) (wM0 cy h a rs u)) (va_A (wM0 cy h a rs u) sz)) 0 0 (va_A (wM0 cy h a rs u) sz) := by
  intro K h1
  refine Met.ofW (cc := cX10_whyNotNow) (maxL := 2) (ret := (some .int)) (by decide) rfl ?_
  intro p e s m args below meth c s₁ B hml hv
  obtain ⟨rfl, hsz, hP, hK, hD0⟩ := hv
  subst hsz
  have E : mE D cy RX10 cX10_whyNotNow 2 (some .int) wsX10_whyNotNow (va_A (wM0 cy h a rs u) s.heap.size) p s m _ meth c := ⟨B.exec, B.bytes, B.returns, hml, findClass_of_methodNamed B.named, atoms_spec (ws := wsX10_whyNotNow) B.pre, B.notSynchronized, hK, fun q h => Or.inr h⟩
  have hl := lv_entry ([.ref h, .int p1]) (n := 2) (Nat.le_of_ble_eq_true rfl)
  rw [lg_entry_eq]
  generalize (lg_sl ([.ref h, .int p1]) ++ List.replicate (2 - (lg_sl ([.ref h, .int p1])).length) Slot.unset).toArray = ls at hl ⊢
  exact tX10_whyNotNow_b0 K E u p1 _ _ _ hl hP hD0.self va_S.rf h1
-- X10_placeOf
theorem inX10_placeOf_X10 : ∀ w ∈ u_ws RX10 TX10 23, w ∈ wsX10_placeOf := k_lays 2 rfl
theorem lkX10_placeOf_7 : Cond.fieldLink RX10 7 "FerryRampModel" "state" "[I" ∈ wsX10_placeOf := List.mem_of_getElem? (i := 1) rfl
abbrev rmX10_placeOf : Room := { frames := 0, cells := 0, slots := 0, locals := 0 }
def fX10_placeOf_b2 (k2 : Int32 × Int32 → Option (Int32)) (x1 : Int32) (x2 : Int32) (u : Nat → Int32) : Option (Int32) :=
  grd (inb (41 + x2) 561) ((if (u (ix (41 + x2))) = x1 then some x2 else k2 (x1, x2 + 1)))
set_option maxHeartbeats 4000000 in
set_option maxRecDepth 100000 in
theorem tX10_placeOf_b2 {p : Program} {l : Launch} {e : Env} {s : State} {m : MethodId} {args : Array Value} {below : List Frame} {meth : Method} {c : Code} {D : va_G} {cy : Nat → ClassId} {A : Nat → Prop} {h : Nat} {a : Nat} {rs : List Value} (K : Int32 → Prop) (E : mE D cy RX10 cX10_placeOf 3 (some .int) wsX10_placeOf A p s m args meth c) (u : Nat → Int32)
    (k2 : Int32 × Int32 → Option (Int32)) (hk2 : ∀ (x1 : Int32) (x2 : Int32) (H : Heap) (locs : List Loc) (ls : Array Slot), lv_has ls 3 [(0, .ref h), (1, .int x1), (2, .int x2)] → va_P D vwCl (wM0 cy h a rs u) H → va_D A (wM0 cy h a rs u) → va_S A s.heap H locs → Ok (k2 (x1, x2)) K → kW p l e rmX10_placeOf s m args below meth c H locs (va_Qi (fun r (_ : Unit) => K r) (fun _ => kPost D A (wM0 cy h a rs u)) A) A 2 ls [])
     (x1 : Int32) (x2 : Int32) (H : Heap) (locs : List Loc) (ls : Array Slot) (hl : lv_has ls 3 [(0, .ref h), (1, .int x1), (2, .int x2)]) (hP : va_P D vwCl (wM0 cy h a rs u) H) (hD : va_D A (wM0 cy h a rs u)) (hS : va_S A s.heap H locs) (h1 : Ok (fX10_placeOf_b2 k2 x1 x2 u) K) :
    kW p l e rmX10_placeOf s m args below meth c H locs (va_Qi (fun r (_ : Unit) => K r) (fun _ => kPost D A (wM0 cy h a rs u)) A) A 2 ls [] := by
  obtain ⟨hx, hb, hr, hml, hown, hts, hlocks, hK, hA⟩ := id E
  unfold fX10_placeOf_b2 at h1
  refine lv_aload_n hx hb dX10_placeOf_2 rfl (lv_at hl 0 rfl) ?_
  refine k_get (v := .ref a) (C := RX10) (T := TX10) (N := 23) hx hb hts inX10_placeOf_X10 hown hK hP 0 (wM0_a0 _ _ _ _ _) rfl 0 (by decide) lkX10_placeOf_7 (m0Fs_0 _ _) dX10_placeOf_3 ?_
  refine lv_bipush (v := 41) hx hb dX10_placeOf_6 rfl ?_
  refine lv_iload_n hx hb dX10_placeOf_8 rfl (lv_at hl 2 rfl) ?_
  refine lv_iadd hx hb dX10_placeOf_9 ?_
  have g10 := h1.grd1
  replace h1 := h1.grd2
  refine k_iald (k := (ix (41 + x2))) hx hb hK hP 1 (wM0_a1 _ _ _ _ _) g10 rfl dX10_placeOf_10 ?_
  refine lv_iload_n hx hb dX10_placeOf_11 rfl (lv_at hl 1 rfl) ?_
  refine lv_icmp_eq (tgt := 21) hx hb dX10_placeOf_12 (by decide) (fun c12 => ?_) (fun c12 => ?_)
  · replace h1 := Ok.pos c12 h1
    refine lv_iload_n hx hb dX10_placeOf_21 rfl (lv_at hl 2 rfl) ?_
    exact kret_r hx hb hr hlocks hP hD hS h1 dX10_placeOf_22
  · replace h1 := Ok.neg c12 h1
    refine lv_iinc (v := x2 + 1) (lv' := [(2, .int (x2 + 1)), (0, .ref h), (1, .int x1)]) hx hb dX10_placeOf_15 hl (k := 2) rfl rfl (by decide) rfl (fun ls hl => ?_)
    refine lv_goto (tgt := 2) hx hb dX10_placeOf_18 (by decide) ?_
    exact hk2 x1 (x2 + 1) H locs ls (lv_sub hl [1, 2, 0] rfl) hP hD hS h1
theorem tX10_placeOf_l2 {p : Program} {l : Launch} {e : Env} {s : State} {m : MethodId} {args : Array Value} {below : List Frame} {meth : Method} {c : Code} {D : va_G} {cy : Nat → ClassId} {A : Nat → Prop} {h : Nat} {a : Nat} {rs : List Value} (K : Int32 → Prop) (E : mE D cy RX10 cX10_placeOf 3 (some .int) wsX10_placeOf A p s m args meth c) (u : Nat → Int32) : ∀ (n9 : Nat) (x1 : Int32) (x2 : Int32) (H : Heap) (locs : List Loc) (ls : Array Slot), lv_has ls 3 [(0, .ref h), (1, .int x1), (2, .int x2)] → va_P D vwCl (wM0 cy h a rs u) H → va_D A (wM0 cy h a rs u) → va_S A s.heap H locs → Ok (lop (fun y z => fX10_placeOf_b2 y z.1 z.2 u) n9 (x1, x2)) K → kW p l e rmX10_placeOf s m args below meth c H locs (va_Qi (fun r (_ : Unit) => K r) (fun _ => kPost D A (wM0 cy h a rs u)) A) A 2 ls [] := by
  intro n9
  induction n9 with
  | zero =>
    intro x1 x2 H locs ls hl hP hD hS h1
    exact h1.no
  | succ n9 ih =>
    intro x1 x2 H locs ls hl hP hD hS h1
    exact tX10_placeOf_b2 K E u (lop (fun y z => fX10_placeOf_b2 y z.1 z.2 u) n9) (fun x1 x2 H locs ls hl hP hD hS h1 => ih x1 x2 H locs ls hl hP hD hS h1) x1 x2 H locs ls hl hP hD hS h1
def fX10_placeOf_b0 (x1 : Int32) (u : Nat → Int32) : Option (Int32) :=
  lop (fun y z => fX10_placeOf_b2 y z.1 z.2 u) LF (x1, 0)
set_option maxHeartbeats 4000000 in
set_option maxRecDepth 100000 in
theorem tX10_placeOf_b0 {p : Program} {l : Launch} {e : Env} {s : State} {m : MethodId} {args : Array Value} {below : List Frame} {meth : Method} {c : Code} {D : va_G} {cy : Nat → ClassId} {A : Nat → Prop} {h : Nat} {a : Nat} {rs : List Value} (K : Int32 → Prop) (E : mE D cy RX10 cX10_placeOf 3 (some .int) wsX10_placeOf A p s m args meth c) (u : Nat → Int32)
     (x1 : Int32) (H : Heap) (locs : List Loc) (ls : Array Slot) (hl : lv_has ls 3 [(0, .ref h), (1, .int x1)]) (hP : va_P D vwCl (wM0 cy h a rs u) H) (hD : va_D A (wM0 cy h a rs u)) (hS : va_S A s.heap H locs) (h1 : Ok (fX10_placeOf_b0 x1 u) K) :
    kW p l e rmX10_placeOf s m args below meth c H locs (va_Qi (fun r (_ : Unit) => K r) (fun _ => kPost D A (wM0 cy h a rs u)) A) A 0 ls [] := by
  obtain ⟨hx, hb, hr, hml, hown, hts, hlocks, hK, hA⟩ := id E
  unfold fX10_placeOf_b0 at h1
  refine lv_iconst (v := 0) hx hb dX10_placeOf_0 rfl ?_
  refine lv_istore_n (lv' := [(2, .int 0), (0, .ref h), (1, .int x1)]) hx hb dX10_placeOf_1 rfl hl (by decide) rfl (fun ls hl => ?_)
  exact tX10_placeOf_l2 K E u LF x1 0 H locs ls (lv_sub hl [1, 2, 0] rfl) hP hD hS h1
def fX10_placeOf (p1 : Int32) (u : Nat → Int32) : Option (Int32) := fX10_placeOf_b0 p1 u
set_option maxHeartbeats 4000000 in
set_option maxRecDepth 100000 in
theorem cX10_placeOfM (l : Launch) (D : va_G) (cy : Nat → ClassId) (h : Nat) (a : Nat) (rs : List Value) (sz : Nat) (u : Nat → Int32) (p1 : Int32) : ∀ (K : Int32 → Prop), Ok (fX10_placeOf p1 u) K → Met l yX10_placeOf wsX10_placeOf rmX10_placeOf (va_Pc [.ref h, .int p1] (kPre D cy sz (wM0 cy h a rs u))) (va_Qi (fun r (_ : Unit) => K r) (fun _ => kPost D (va_A (wM0 cy h a rs u) sz) (wM0 cy h a rs u)) (va_A (wM0 cy h a rs u) sz)) 0 0 (va_A (wM0 cy h a rs u) sz) := by
  intro K h1
  refine Met.ofW (cc := cX10_placeOf) (maxL := 3) (ret := (some .int)) (by decide) rfl ?_
  intro p e s m args below meth c s₁ B hml hv
  obtain ⟨rfl, hsz, hP, hK, hD0⟩ := hv
  subst hsz
  have E : mE D cy RX10 cX10_placeOf 3 (some .int) wsX10_placeOf (va_A (wM0 cy h a rs u) s.heap.size) p s m _ meth c := ⟨B.exec, B.bytes, B.returns, hml, findClass_of_methodNamed B.named, atoms_spec (ws := wsX10_placeOf) B.pre, B.notSynchronized, hK, fun q h => Or.inr h⟩
  have hl := lv_entry ([.ref h, .int p1]) (n := 3) (Nat.le_of_ble_eq_true rfl)
  rw [lg_entry_eq]
  generalize (lg_sl ([.ref h, .int p1]) ++ List.replicate (3 - (lg_sl ([.ref h, .int p1])).length) Slot.unset).toArray = ls at hl ⊢
  exact tX10_placeOf_b0 K E u p1 _ _ _ hl hP hD0.self va_S.rf h1
-- X10_leaveQueue
theorem inX10_leaveQueue_X10 : ∀ w ∈ u_ws RX10 TX10 23, w ∈ wsX10_leaveQueue := k_lays 7 rfl
theorem lkX10_leaveQueue_7 : Cond.fieldLink RX10 7 "FerryRampModel" "state" "[I" ∈ wsX10_leaveQueue := List.mem_of_getElem? (i := 1) rfl
theorem hdX10_placeOf : yX10_placeOf.cls = RX10 ∧ yX10_placeOf.cls ≠ "java/lang/invoke/MethodHandle" ∧ yX10_placeOf.cls ≠ "java/lang/invoke/VarHandle" ∧ (parseMethodDescriptor yX10_placeOf.desc).map (fun d => d.parameters.length) = some 1 := by decide +kernel
abbrev rmX10_leaveQueue : Room := { frames := 1, cells := 0, slots := 0, locals := 22 }
def fX10_leaveQueue_b17 (k17 : Int32 × (Nat → Int32) → Option ((Nat → Int32))) (x2 : Int32) (u : Nat → Int32) : Option ((Nat → Int32)) :=
  (if (u 14) ≤ x2 then grd (inb (41 + (u 14)) 561) (some (upd u (ix (41 + (u 14))) 0)) else grd (inb ((41 + x2) + 1) 561) (grd (inb (41 + x2) 561) (k17 (x2 + 1, upd u (ix (41 + x2)) (u (ix ((41 + x2) + 1)))))))
set_option maxHeartbeats 4000000 in
set_option maxRecDepth 100000 in
theorem tX10_leaveQueue_b17 {p : Program} {l : Launch} {e : Env} {s : State} {m : MethodId} {args : Array Value} {below : List Frame} {meth : Method} {c : Code} {D : va_G} {cy : Nat → ClassId} {A : Nat → Prop} {h : Nat} {a : Nat} {rs : List Value} (K : (Nat → Int32) → Prop) (E : mE D cy RX10 cX10_leaveQueue 3 none wsX10_leaveQueue A p s m args meth c)
    (k17 : Int32 × (Nat → Int32) → Option ((Nat → Int32))) (hk17 : ∀ (x2 : Int32) (u : Nat → Int32) (H : Heap) (locs : List Loc) (ls : Array Slot), lv_has ls 3 [(0, .ref h), (2, .int x2)] → va_P D vwCl (wM0 cy h a rs u) H → va_D A (wM0 cy h a rs u) → va_S A s.heap H locs → Ok (k17 (x2, u)) K → kW p l e rmX10_leaveQueue s m args below meth c H locs (va_Qv K (fun q => kPost D A (wM0 cy h a rs q)) A) A 17 ls [])
     (x2 : Int32) (u : Nat → Int32) (H : Heap) (locs : List Loc) (ls : Array Slot) (hl : lv_has ls 3 [(0, .ref h), (2, .int x2)]) (hP : va_P D vwCl (wM0 cy h a rs u) H) (hD : va_D A (wM0 cy h a rs u)) (hS : va_S A s.heap H locs) (h1 : Ok (fX10_leaveQueue_b17 k17 x2 u) K) :
    kW p l e rmX10_leaveQueue s m args below meth c H locs (va_Qv K (fun q => kPost D A (wM0 cy h a rs q)) A) A 17 ls [] := by
  obtain ⟨hx, hb, hr, hml, hown, hts, hlocks, hK, hA⟩ := id E
  unfold fX10_leaveQueue_b17 at h1
  refine lv_iload_n hx hb dX10_leaveQueue_17 rfl (lv_at hl 1 rfl) ?_
  refine lv_aload_n hx hb dX10_leaveQueue_18 rfl (lv_at hl 0 rfl) ?_
  refine k_get (v := .ref a) (C := RX10) (T := TX10) (N := 23) hx hb hts inX10_leaveQueue_X10 hown hK hP 0 (wM0_a0 _ _ _ _ _) rfl 0 (by decide) lkX10_leaveQueue_7 (m0Fs_0 _ _) dX10_leaveQueue_19 ?_
  refine lv_bipush (v := 14) hx hb dX10_leaveQueue_22 rfl ?_
  refine k_iald (k := 14) hx hb hK hP 1 (wM0_a1 _ _ _ _ _) rfl rfl dX10_leaveQueue_24 ?_
  refine lv_icmp_ge (tgt := 54) hx hb dX10_leaveQueue_25 (by decide) (fun c25 => ?_) (fun c25 => ?_)
  · replace h1 := Ok.pos c25 h1
    refine lv_aload_n hx hb dX10_leaveQueue_54 rfl (lv_at hl 0 rfl) ?_
    refine k_get (v := .ref a) (C := RX10) (T := TX10) (N := 23) hx hb hts inX10_leaveQueue_X10 hown hK hP 0 (wM0_a0 _ _ _ _ _) rfl 0 (by decide) lkX10_leaveQueue_7 (m0Fs_0 _ _) dX10_leaveQueue_55 ?_
    refine lv_bipush (v := 41) hx hb dX10_leaveQueue_58 rfl ?_
    refine lv_aload_n hx hb dX10_leaveQueue_60 rfl (lv_at hl 0 rfl) ?_
    refine k_get (v := .ref a) (C := RX10) (T := TX10) (N := 23) hx hb hts inX10_leaveQueue_X10 hown hK hP 0 (wM0_a0 _ _ _ _ _) rfl 0 (by decide) lkX10_leaveQueue_7 (m0Fs_0 _ _) dX10_leaveQueue_61 ?_
    refine lv_bipush (v := 14) hx hb dX10_leaveQueue_64 rfl ?_
    refine k_iald (k := 14) hx hb hK hP 1 (wM0_a1 _ _ _ _ _) rfl rfl dX10_leaveQueue_66 ?_
    refine lv_iadd hx hb dX10_leaveQueue_67 ?_
    refine lv_iconst (v := 0) hx hb dX10_leaveQueue_68 rfl ?_
    have g69 := h1.grd1
    replace h1 := h1.grd2
    refine k_iast (k := (ix (41 + (u 14)))) (ws' := wM0 cy h a rs (upd u (ix (41 + (u 14))) 0)) hx hb hK hP hD hS 1 (wM0_a1 _ _ _ _ _) g69 rfl (wM0_upd _ _ _ _ _ _ _) dX10_leaveQueue_69 (fun H locs hP hD hS => ?_)
    exact kret_v hx hb hr hlocks hP hD hS h1 dX10_leaveQueue_70
  · replace h1 := Ok.neg c25 h1
    refine lv_aload_n hx hb dX10_leaveQueue_28 rfl (lv_at hl 0 rfl) ?_
    refine k_get (v := .ref a) (C := RX10) (T := TX10) (N := 23) hx hb hts inX10_leaveQueue_X10 hown hK hP 0 (wM0_a0 _ _ _ _ _) rfl 0 (by decide) lkX10_leaveQueue_7 (m0Fs_0 _ _) dX10_leaveQueue_29 ?_
    refine lv_bipush (v := 41) hx hb dX10_leaveQueue_32 rfl ?_
    refine lv_iload_n hx hb dX10_leaveQueue_34 rfl (lv_at hl 1 rfl) ?_
    refine lv_iadd hx hb dX10_leaveQueue_35 ?_
    refine lv_aload_n hx hb dX10_leaveQueue_36 rfl (lv_at hl 0 rfl) ?_
    refine k_get (v := .ref a) (C := RX10) (T := TX10) (N := 23) hx hb hts inX10_leaveQueue_X10 hown hK hP 0 (wM0_a0 _ _ _ _ _) rfl 0 (by decide) lkX10_leaveQueue_7 (m0Fs_0 _ _) dX10_leaveQueue_37 ?_
    refine lv_bipush (v := 41) hx hb dX10_leaveQueue_40 rfl ?_
    refine lv_iload_n hx hb dX10_leaveQueue_42 rfl (lv_at hl 1 rfl) ?_
    refine lv_iadd hx hb dX10_leaveQueue_43 ?_
    refine lv_iconst (v := 1) hx hb dX10_leaveQueue_44 rfl ?_
    refine lv_iadd hx hb dX10_leaveQueue_45 ?_
    have g46 := h1.grd1
    replace h1 := h1.grd2
    refine k_iald (k := (ix ((41 + x2) + 1))) hx hb hK hP 1 (wM0_a1 _ _ _ _ _) g46 rfl dX10_leaveQueue_46 ?_
    have g47 := h1.grd1
    replace h1 := h1.grd2
    refine k_iast (k := (ix (41 + x2))) (ws' := wM0 cy h a rs (upd u (ix (41 + x2)) (u (ix ((41 + x2) + 1))))) hx hb hK hP hD hS 1 (wM0_a1 _ _ _ _ _) g47 rfl (wM0_upd _ _ _ _ _ _ _) dX10_leaveQueue_47 (fun H locs hP hD hS => ?_)
    refine lv_iinc (v := x2 + 1) (lv' := [(2, .int (x2 + 1)), (0, .ref h)]) hx hb dX10_leaveQueue_48 hl (k := 1) rfl rfl (by decide) rfl (fun ls hl => ?_)
    refine lv_goto (tgt := 17) hx hb dX10_leaveQueue_51 (by decide) ?_
    exact hk17 (x2 + 1) (upd u (ix (41 + x2)) (u (ix ((41 + x2) + 1)))) H locs ls (lv_sub hl [1, 0] rfl) hP hD hS h1
theorem tX10_leaveQueue_l17 {p : Program} {l : Launch} {e : Env} {s : State} {m : MethodId} {args : Array Value} {below : List Frame} {meth : Method} {c : Code} {D : va_G} {cy : Nat → ClassId} {A : Nat → Prop} {h : Nat} {a : Nat} {rs : List Value} (K : (Nat → Int32) → Prop) (E : mE D cy RX10 cX10_leaveQueue 3 none wsX10_leaveQueue A p s m args meth c) : ∀ (n9 : Nat) (x2 : Int32) (u : Nat → Int32) (H : Heap) (locs : List Loc) (ls : Array Slot), lv_has ls 3 [(0, .ref h), (2, .int x2)] → va_P D vwCl (wM0 cy h a rs u) H → va_D A (wM0 cy h a rs u) → va_S A s.heap H locs → Ok (lop (fun y z => fX10_leaveQueue_b17 y z.1 z.2) n9 (x2, u)) K → kW p l e rmX10_leaveQueue s m args below meth c H locs (va_Qv K (fun q => kPost D A (wM0 cy h a rs q)) A) A 17 ls [] := by
  intro n9
  induction n9 with
  | zero =>
    intro x2 u H locs ls hl hP hD hS h1
    exact h1.no
  | succ n9 ih =>
    intro x2 u H locs ls hl hP hD hS h1
    exact tX10_leaveQueue_b17 K E (lop (fun y z => fX10_leaveQueue_b17 y z.1 z.2) n9) (fun x2 u H locs ls hl hP hD hS h1 => ih x2 u H locs ls hl hP hD hS h1) x2 u H locs ls hl hP hD hS h1
def fX10_leaveQueue_b0 (x1 : Int32) (u : Nat → Int32) : Option ((Nat → Int32)) :=
  bnd (fX10_placeOf x1 (upd u 14 ((u 14) - 1))) (fun r13 => lop (fun y z => fX10_leaveQueue_b17 y z.1 z.2) LF (r13, upd u 14 ((u 14) - 1)))
set_option maxHeartbeats 4000000 in
set_option maxRecDepth 100000 in
theorem tX10_leaveQueue_b0 {p : Program} {l : Launch} {e : Env} {s : State} {m : MethodId} {args : Array Value} {below : List Frame} {meth : Method} {c : Code} {D : va_G} {cy : Nat → ClassId} {A : Nat → Prop} {h : Nat} {a : Nat} {rs : List Value} (K : (Nat → Int32) → Prop) (E : mE D cy RX10 cX10_leaveQueue 3 none wsX10_leaveQueue A p s m args meth c)
     (x1 : Int32) (u : Nat → Int32) (H : Heap) (locs : List Loc) (ls : Array Slot) (hl : lv_has ls 3 [(0, .ref h), (1, .int x1)]) (hP : va_P D vwCl (wM0 cy h a rs u) H) (hD : va_D A (wM0 cy h a rs u)) (hS : va_S A s.heap H locs) (h1 : Ok (fX10_leaveQueue_b0 x1 u) K) :
    kW p l e rmX10_leaveQueue s m args below meth c H locs (va_Qv K (fun q => kPost D A (wM0 cy h a rs q)) A) A 0 ls [] := by
  obtain ⟨hx, hb, hr, hml, hown, hts, hlocks, hK, hA⟩ := id E
  unfold fX10_leaveQueue_b0 at h1
  refine lv_aload_n hx hb dX10_leaveQueue_0 rfl (lv_at hl 0 rfl) ?_
  refine k_get (v := .ref a) (C := RX10) (T := TX10) (N := 23) hx hb hts inX10_leaveQueue_X10 hown hK hP 0 (wM0_a0 _ _ _ _ _) rfl 0 (by decide) lkX10_leaveQueue_7 (m0Fs_0 _ _) dX10_leaveQueue_1 ?_
  refine lv_bipush (v := 14) hx hb dX10_leaveQueue_4 rfl ?_
  refine lv_dup2_11 hx hb dX10_leaveQueue_6 rfl rfl ?_
  refine k_iald (k := 14) hx hb hK hP 1 (wM0_a1 _ _ _ _ _) rfl rfl dX10_leaveQueue_7 ?_
  refine lv_iconst (v := 1) hx hb dX10_leaveQueue_8 rfl ?_
  refine lv_isub hx hb dX10_leaveQueue_9 ?_
  refine k_iast (k := 14) (ws' := wM0 cy h a rs (upd u 14 ((u 14) - 1))) hx hb hK hP hD hS 1 (wM0_a1 _ _ _ _ _) rfl rfl (wM0_upd _ _ _ _ _ _ _) dX10_leaveQueue_10 (fun H locs hP hD hS => ?_)
  refine lv_aload_n hx hb dX10_leaveQueue_11 rfl (lv_at hl 0 rfl) ?_
  refine lv_iload_n hx hb dX10_leaveQueue_12 rfl (lv_at hl 1 rfl) ?_
  refine kc_rV0 (b := h) (As := [.int x1]) (rest := []) h1 ⟨hx, hb, hml, hown, hts⟩ (cX10_placeOfM l D cy h a rs H.size (upd u 14 ((u 14) - 1)) x1) (cwV 1 hts gX10_leaveQueue_X10_placeOf rfl rfl rfl hdX10_placeOf ⟨Nat.le_of_ble_eq_true rfl, Nat.le_of_ble_eq_true rfl⟩) hK hP hD hS hA (q0 := 0) rfl rfl rfl hl.1 rfl (Nat.le_of_ble_eq_true rfl) dX10_leaveQueue_13 ⟨Nat.zero_le _, Nat.zero_le _⟩ (fun r13 H locs h1 hP hS => ?_)
  refine lv_istore_n (lv' := [(2, .int r13), (0, .ref h), (1, .int x1)]) hx hb dX10_leaveQueue_16 rfl hl (by decide) rfl (fun ls hl => ?_)
  exact tX10_leaveQueue_l17 K E LF r13 (upd u 14 ((u 14) - 1)) H locs ls (lv_sub hl [1, 0] rfl) hP hD hS h1
def fX10_leaveQueue (p1 : Int32) (u : Nat → Int32) : Option ((Nat → Int32)) := fX10_leaveQueue_b0 p1 u
set_option maxHeartbeats 4000000 in
set_option maxRecDepth 100000 in
theorem cX10_leaveQueueM (l : Launch) (D : va_G) (cy : Nat → ClassId) (h : Nat) (a : Nat) (rs : List Value) (sz : Nat) (u : Nat → Int32) (p1 : Int32) : ∀ (K : (Nat → Int32) → Prop), Ok (fX10_leaveQueue p1 u) K → Met l yX10_leaveQueue wsX10_leaveQueue rmX10_leaveQueue (va_Pc [.ref h, .int p1] (kPre D cy sz (wM0 cy h a rs u))) (va_Qv K (fun q => kPost D (va_A (wM0 cy h a rs u) sz) (wM0 cy h a rs q)) (va_A (wM0 cy h a rs u) sz)) 0 0 (va_A (wM0 cy h a rs u) sz) := by
  intro K h1
  refine Met.ofW (cc := cX10_leaveQueue) (maxL := 3) (ret := none) (by decide) rfl ?_
  intro p e s m args below meth c s₁ B hml hv
  obtain ⟨rfl, hsz, hP, hK, hD0⟩ := hv
  subst hsz
  have E : mE D cy RX10 cX10_leaveQueue 3 none wsX10_leaveQueue (va_A (wM0 cy h a rs u) s.heap.size) p s m _ meth c := ⟨B.exec, B.bytes, B.returns, hml, findClass_of_methodNamed B.named, atoms_spec (ws := wsX10_leaveQueue) B.pre, B.notSynchronized, hK, fun q h => Or.inr h⟩
  have hl := lv_entry ([.ref h, .int p1]) (n := 3) (Nat.le_of_ble_eq_true rfl)
  rw [lg_entry_eq]
  generalize (lg_sl ([.ref h, .int p1]) ++ List.replicate (3 - (lg_sl ([.ref h, .int p1])).length) Slot.unset).toArray = ls at hl ⊢
  exact tX10_leaveQueue_b0 K E p1 u _ _ _ hl hP hD0.self va_S.rf h1
-- X10_beginToDrive
theorem hdX10_leaveQueue : yX10_leaveQueue.cls = RX10 ∧ yX10_leaveQueue.cls ≠ "java/lang/invoke/MethodHandle" ∧ yX10_leaveQueue.cls ≠ "java/lang/invoke/VarHandle" ∧ (parseMethodDescriptor yX10_leaveQueue.desc).map (fun d => d.parameters.length) = some 1 := by decide +kernel
theorem hdX10_layCar : yX10_layCar.cls = RX10 ∧ yX10_layCar.cls ≠ "java/lang/invoke/MethodHandle" ∧ yX10_layCar.cls ≠ "java/lang/invoke/VarHandle" ∧ (parseMethodDescriptor yX10_layCar.desc).map (fun d => d.parameters.length) = some 3 := by decide +kernel
theorem inX10_beginToDrive_X10 : ∀ w ∈ u_ws RX10 TX10 23, w ∈ wsX10_beginToDrive := k_lays 59 rfl
theorem lkX10_beginToDrive_7 : Cond.fieldLink RX10 7 "FerryRampModel" "state" "[I" ∈ wsX10_beginToDrive := List.mem_of_getElem? (i := 1) rfl
abbrev rmX10_beginToDrive : Room := { frames := 6, cells := 0, slots := 0, locals := 137 }
def fX10_beginToDrive_b0 (x1 : Int32) (u : Nat → Int32) : Option ((Nat → Int32)) :=
  bnd (fX10_laneOf x1 u) (fun r2 => bnd (fX10_leaveQueue x1 u) (fun u8 => bnd (fX10_layCar x1 2 1 u8) (fun u15 => bnd (fX10_layCar x1 3 r2 u15) (fun u22 => bnd (fX10_layCar x1 5 (u22 0) u22) (fun u34 => some (upd (upd (upd u34 4 x1) 5 0) 7 0))))))
set_option maxHeartbeats 4000000 in
set_option maxRecDepth 100000 in
theorem tX10_beginToDrive_b0 {p : Program} {l : Launch} {e : Env} {s : State} {m : MethodId} {args : Array Value} {below : List Frame} {meth : Method} {c : Code} {D : va_G} {cy : Nat → ClassId} {A : Nat → Prop} {h : Nat} {a : Nat} {rs : List Value} (K : (Nat → Int32) → Prop) (E : mE D cy RX10 cX10_beginToDrive 3 none wsX10_beginToDrive A p s m args meth c)
     (x1 : Int32) (u : Nat → Int32) (H : Heap) (locs : List Loc) (ls : Array Slot) (hl : lv_has ls 3 [(0, .ref h), (1, .int x1)]) (hP : va_P D vwCl (wM0 cy h a rs u) H) (hD : va_D A (wM0 cy h a rs u)) (hS : va_S A s.heap H locs) (h1 : Ok (fX10_beginToDrive_b0 x1 u) K) :
    kW p l e rmX10_beginToDrive s m args below meth c H locs (va_Qv K (fun q => kPost D A (wM0 cy h a rs q)) A) A 0 ls [] := by
  obtain ⟨hx, hb, hr, hml, hown, hts, hlocks, hK, hA⟩ := id E
  unfold fX10_beginToDrive_b0 at h1
  refine lv_aload_n hx hb dX10_beginToDrive_0 rfl (lv_at hl 0 rfl) ?_
  refine lv_iload_n hx hb dX10_beginToDrive_1 rfl (lv_at hl 1 rfl) ?_
  refine kc_rV0 (b := h) (As := [.int x1]) (rest := []) h1 ⟨hx, hb, hml, hown, hts⟩ (cX10_laneOfM l D cy h a rs H.size u x1) (cwV 1 hts gX10_beginToDrive_X10_laneOf rfl rfl rfl hdX10_laneOf ⟨Nat.le_of_ble_eq_true rfl, Nat.le_of_ble_eq_true rfl⟩) hK hP hD hS hA (q0 := 0) rfl rfl rfl hl.1 rfl (Nat.le_of_ble_eq_true rfl) dX10_beginToDrive_2 ⟨Nat.zero_le _, Nat.zero_le _⟩ (fun r2 H locs h1 hP hS => ?_)
  refine lv_istore_n (lv' := [(2, .int r2), (0, .ref h), (1, .int x1)]) hx hb dX10_beginToDrive_5 rfl hl (by decide) rfl (fun ls hl => ?_)
  refine lv_aload_n hx hb dX10_beginToDrive_6 rfl (lv_at hl 1 rfl) ?_
  refine lv_iload_n hx hb dX10_beginToDrive_7 rfl (lv_at hl 2 rfl) ?_
  refine kc_vV0 (b := h) (As := [.int x1]) (rest := []) h1 ⟨hx, hb, hml, hown, hts⟩ (cX10_leaveQueueM l D cy h a rs H.size u x1) (cwV 1 hts gX10_beginToDrive_X10_leaveQueue rfl rfl rfl hdX10_leaveQueue ⟨Nat.le_of_ble_eq_true rfl, Nat.le_of_ble_eq_true rfl⟩) hK hP hD hS hA (q0 := 0) rfl rfl rfl hl.1 rfl (Nat.le_of_ble_eq_true rfl) dX10_beginToDrive_8 ⟨Nat.zero_le _, Nat.zero_le _⟩ (fun u8 H locs h1 hP hD hS => ?_)
  refine lv_aload_n hx hb dX10_beginToDrive_11 rfl (lv_at hl 1 rfl) ?_
  refine lv_iload_n hx hb dX10_beginToDrive_12 rfl (lv_at hl 2 rfl) ?_
  refine lv_iconst (v := 2) hx hb dX10_beginToDrive_13 rfl ?_
  refine lv_iconst (v := 1) hx hb dX10_beginToDrive_14 rfl ?_
  refine kc_vV0 (b := h) (As := [.int x1, .int 2, .int 1]) (rest := []) h1 ⟨hx, hb, hml, hown, hts⟩ (cX10_layCarM l D cy h a rs H.size u8 x1 2 1) (cwV 3 hts gX10_beginToDrive_X10_layCar rfl rfl rfl hdX10_layCar ⟨Nat.le_of_ble_eq_true rfl, Nat.le_of_ble_eq_true rfl⟩) hK hP hD hS hA (q0 := 0) rfl rfl rfl hl.1 rfl (Nat.le_of_ble_eq_true rfl) dX10_beginToDrive_15 ⟨Nat.zero_le _, Nat.zero_le _⟩ (fun u15 H locs h1 hP hD hS => ?_)
  refine lv_aload_n hx hb dX10_beginToDrive_18 rfl (lv_at hl 1 rfl) ?_
  refine lv_iload_n hx hb dX10_beginToDrive_19 rfl (lv_at hl 2 rfl) ?_
  refine lv_iconst (v := 3) hx hb dX10_beginToDrive_20 rfl ?_
  refine lv_iload_n hx hb dX10_beginToDrive_21 rfl (lv_at hl 0 rfl) ?_
  refine kc_vV0 (b := h) (As := [.int x1, .int 3, .int r2]) (rest := []) h1 ⟨hx, hb, hml, hown, hts⟩ (cX10_layCarM l D cy h a rs H.size u15 x1 3 r2) (cwV 3 hts gX10_beginToDrive_X10_layCar rfl rfl rfl hdX10_layCar ⟨Nat.le_of_ble_eq_true rfl, Nat.le_of_ble_eq_true rfl⟩) hK hP hD hS hA (q0 := 0) rfl rfl rfl hl.1 rfl (Nat.le_of_ble_eq_true rfl) dX10_beginToDrive_22 ⟨Nat.zero_le _, Nat.zero_le _⟩ (fun u22 H locs h1 hP hD hS => ?_)
  refine lv_aload_n hx hb dX10_beginToDrive_25 rfl (lv_at hl 1 rfl) ?_
  refine lv_iload_n hx hb dX10_beginToDrive_26 rfl (lv_at hl 2 rfl) ?_
  refine lv_iconst (v := 5) hx hb dX10_beginToDrive_27 rfl ?_
  refine lv_aload_n hx hb dX10_beginToDrive_28 rfl (lv_at hl 1 rfl) ?_
  refine k_get (v := .ref a) (C := RX10) (T := TX10) (N := 23) hx hb hts inX10_beginToDrive_X10 hown hK hP 0 (wM0_a0 _ _ _ _ _) rfl 0 (by decide) lkX10_beginToDrive_7 (m0Fs_0 _ _) dX10_beginToDrive_29 ?_
  refine lv_iconst (v := 0) hx hb dX10_beginToDrive_32 rfl ?_
  refine k_iald (k := 0) hx hb hK hP 1 (wM0_a1 _ _ _ _ _) rfl rfl dX10_beginToDrive_33 ?_
  refine kc_vV0 (b := h) (As := [.int x1, .int 5, .int (u22 0)]) (rest := []) h1 ⟨hx, hb, hml, hown, hts⟩ (cX10_layCarM l D cy h a rs H.size u22 x1 5 (u22 0)) (cwV 3 hts gX10_beginToDrive_X10_layCar rfl rfl rfl hdX10_layCar ⟨Nat.le_of_ble_eq_true rfl, Nat.le_of_ble_eq_true rfl⟩) hK hP hD hS hA (q0 := 0) rfl rfl rfl hl.1 rfl (Nat.le_of_ble_eq_true rfl) dX10_beginToDrive_34 ⟨Nat.zero_le _, Nat.zero_le _⟩ (fun u34 H locs h1 hP hD hS => ?_)
  refine lv_aload_n hx hb dX10_beginToDrive_37 rfl (lv_at hl 1 rfl) ?_
  refine k_get (v := .ref a) (C := RX10) (T := TX10) (N := 23) hx hb hts inX10_beginToDrive_X10 hown hK hP 0 (wM0_a0 _ _ _ _ _) rfl 0 (by decide) lkX10_beginToDrive_7 (m0Fs_0 _ _) dX10_beginToDrive_38 ?_
  refine lv_iconst (v := 4) hx hb dX10_beginToDrive_41 rfl ?_
  refine lv_iload_n hx hb dX10_beginToDrive_42 rfl (lv_at hl 2 rfl) ?_
  refine k_iast (k := 4) (ws' := wM0 cy h a rs (upd u34 4 x1)) hx hb hK hP hD hS 1 (wM0_a1 _ _ _ _ _) rfl rfl (wM0_upd _ _ _ _ _ _ _) dX10_beginToDrive_43 (fun H locs hP hD hS => ?_)
  refine lv_aload_n hx hb dX10_beginToDrive_44 rfl (lv_at hl 1 rfl) ?_
  refine k_get (v := .ref a) (C := RX10) (T := TX10) (N := 23) hx hb hts inX10_beginToDrive_X10 hown hK hP 0 (wM0_a0 _ _ _ _ _) rfl 0 (by decide) lkX10_beginToDrive_7 (m0Fs_0 _ _) dX10_beginToDrive_45 ?_
  refine lv_iconst (v := 5) hx hb dX10_beginToDrive_48 rfl ?_
  refine lv_iconst (v := 0) hx hb dX10_beginToDrive_49 rfl ?_
  refine k_iast (k := 5) (ws' := wM0 cy h a rs (upd (upd u34 4 x1) 5 0)) hx hb hK hP hD hS 1 (wM0_a1 _ _ _ _ _) rfl rfl (wM0_upd _ _ _ _ _ _ _) dX10_beginToDrive_50 (fun H locs hP hD hS => ?_)
  refine lv_aload_n hx hb dX10_beginToDrive_51 rfl (lv_at hl 1 rfl) ?_
  refine k_get (v := .ref a) (C := RX10) (T := TX10) (N := 23) hx hb hts inX10_beginToDrive_X10 hown hK hP 0 (wM0_a0 _ _ _ _ _) rfl 0 (by decide) lkX10_beginToDrive_7 (m0Fs_0 _ _) dX10_beginToDrive_52 ?_
  refine lv_bipush (v := 7) hx hb dX10_beginToDrive_55 rfl ?_
  refine lv_iconst (v := 0) hx hb dX10_beginToDrive_57 rfl ?_
  refine k_iast (k := 7) (ws' := wM0 cy h a rs (upd (upd (upd u34 4 x1) 5 0) 7 0)) hx hb hK hP hD hS 1 (wM0_a1 _ _ _ _ _) rfl rfl (wM0_upd _ _ _ _ _ _ _) dX10_beginToDrive_58 (fun H locs hP hD hS => ?_)
  exact kret_v hx hb hr hlocks hP hD hS h1 dX10_beginToDrive_59
def fX10_beginToDrive (p1 : Int32) (u : Nat → Int32) : Option ((Nat → Int32)) := fX10_beginToDrive_b0 p1 u
set_option maxHeartbeats 4000000 in
set_option maxRecDepth 100000 in
theorem cX10_beginToDriveM (l : Launch) (D : va_G) (cy : Nat → ClassId) (h : Nat) (a : Nat) (rs : List Value) (sz : Nat) (u : Nat → Int32) (p1 : Int32) : ∀ (K : (Nat → Int32) → Prop), Ok (fX10_beginToDrive p1 u) K → Met l yX10_beginToDrive wsX10_beginToDrive rmX10_beginToDrive (va_Pc [.ref h, .int p1] (kPre D cy sz (wM0 cy h a rs u))) (va_Qv K (fun q => kPost D (va_A (wM0 cy h a rs u) sz) (wM0 cy h a rs q)) (va_A (wM0 cy h a rs u) sz)) 0 0 (va_A (wM0 cy h a rs u) sz) := by
  intro K h1
  refine Met.ofW (cc := cX10_beginToDrive) (maxL := 3) (ret := none) (by decide) rfl ?_
  intro p e s m args below meth c s₁ B hml hv
  obtain ⟨rfl, hsz, hP, hK, hD0⟩ := hv
  subst hsz
  have E : mE D cy RX10 cX10_beginToDrive 3 none wsX10_beginToDrive (va_A (wM0 cy h a rs u) s.heap.size) p s m _ meth c := ⟨B.exec, B.bytes, B.returns, hml, findClass_of_methodNamed B.named, atoms_spec (ws := wsX10_beginToDrive) B.pre, B.notSynchronized, hK, fun q h => Or.inr h⟩
  have hl := lv_entry ([.ref h, .int p1]) (n := 3) (Nat.le_of_ble_eq_true rfl)
  rw [lg_entry_eq]
  generalize (lg_sl ([.ref h, .int p1]) ++ List.replicate (3 - (lg_sl ([.ref h, .int p1])).length) Slot.unset).toArray = ls at hl ⊢
  exact tX10_beginToDrive_b0 K E p1 u _ _ _ hl hP hD0.self va_S.rf h1
-- X10_pull
theorem inX10_pull_X10 : ∀ w ∈ u_ws RX10 TX10 23, w ∈ wsX10_pull := k_lays 30 rfl
theorem lkX10_pull_7 : Cond.fieldLink RX10 7 "FerryRampModel" "state" "[I" ∈ wsX10_pull := List.mem_of_getElem? (i := 1) rfl
abbrev rmX10_pull : Room := { frames := 4, cells := 0, slots := 0, locals := 85 }
def fX10_pull_b51 (x2 : Int32) (x3 : Int32) (s1 : Int32) (s2 : Int32) (s3 : Int32) (u : Nat → Int32) : Option ((Nat → Int32)) :=
  grd (inb s1 561) ((if x2 = x3 then some (upd (upd u (ix s1) (s2 + s3)) 2 0) else some (upd u (ix s1) (s2 + s3))))
set_option maxHeartbeats 4000000 in
set_option maxRecDepth 100000 in
theorem tX10_pull_b51 {p : Program} {l : Launch} {e : Env} {s : State} {m : MethodId} {args : Array Value} {below : List Frame} {meth : Method} {c : Code} {D : va_G} {cy : Nat → ClassId} {A : Nat → Prop} {h : Nat} {a : Nat} {rs : List Value} (K : (Nat → Int32) → Prop) (E : mE D cy RX10 cX10_pull 4 none wsX10_pull A p s m args meth c)
     (x2 : Int32) (x3 : Int32) (s1 : Int32) (s2 : Int32) (s3 : Int32) (u : Nat → Int32) (H : Heap) (locs : List Loc) (ls : Array Slot) (hl : lv_has ls 4 [(0, .ref h), (2, .int x2), (3, .int x3)]) (hP : va_P D vwCl (wM0 cy h a rs u) H) (hD : va_D A (wM0 cy h a rs u)) (hS : va_S A s.heap H locs) (h1 : Ok (fX10_pull_b51 x2 x3 s1 s2 s3 u) K) :
    kW p l e rmX10_pull s m args below meth c H locs (va_Qv K (fun q => kPost D A (wM0 cy h a rs q)) A) A 51 ls [.int s3, .int s2, .int s1, .ref a] := by
  obtain ⟨hx, hb, hr, hml, hown, hts, hlocks, hK, hA⟩ := id E
  unfold fX10_pull_b51 at h1
  refine lv_iadd hx hb dX10_pull_51 ?_
  have g52 := h1.grd1
  replace h1 := h1.grd2
  refine k_iast (k := (ix s1)) (ws' := wM0 cy h a rs (upd u (ix s1) (s2 + s3))) hx hb hK hP hD hS 1 (wM0_a1 _ _ _ _ _) g52 rfl (wM0_upd _ _ _ _ _ _ _) dX10_pull_52 (fun H locs hP hD hS => ?_)
  refine lv_iload_n hx hb dX10_pull_53 rfl (lv_at hl 1 rfl) ?_
  refine lv_iload_n hx hb dX10_pull_54 rfl (lv_at hl 2 rfl) ?_
  refine lv_icmp_ne (tgt := 65) hx hb dX10_pull_55 (by decide) (fun c55 => ?_) (fun c55 => ?_)
  · replace h1 := Ok.neg c55 h1
    exact kret_v hx hb hr hlocks hP hD hS h1 dX10_pull_65
  · replace h1 := Ok.pos c55 h1
    refine lv_aload_n hx hb dX10_pull_58 rfl (lv_at hl 0 rfl) ?_
    refine k_get (v := .ref a) (C := RX10) (T := TX10) (N := 23) hx hb hts inX10_pull_X10 hown hK hP 0 (wM0_a0 _ _ _ _ _) rfl 0 (by decide) lkX10_pull_7 (m0Fs_0 _ _) dX10_pull_59 ?_
    refine lv_iconst (v := 2) hx hb dX10_pull_62 rfl ?_
    refine lv_iconst (v := 0) hx hb dX10_pull_63 rfl ?_
    refine k_iast (k := 2) (ws' := wM0 cy h a rs (upd (upd u (ix s1) (s2 + s3)) 2 0)) hx hb hK hP hD hS 1 (wM0_a1 _ _ _ _ _) rfl rfl (wM0_upd _ _ _ _ _ _ _) dX10_pull_64 (fun H locs hP hD hS => ?_)
    exact kret_v hx hb hr hlocks hP hD hS h1 dX10_pull_65
def fX10_pull_b0 (u : Nat → Int32) : Option ((Nat → Int32)) :=
  bnd (fX10_deckAt (u 0) u) (fun r7 => bnd (fX10_lipNow u) (fun r12 => (if r7 ≤ (u 1) then fX10_pull_b51 r12 (if r12 < (u 24) then r12 else (u 24)) 1 (u 1) (-(if r12 < (u 24) then r12 else (u 24))) u else fX10_pull_b51 r12 (if r12 < (u 24) then r12 else (u 24)) 1 (u 1) (if r12 < (u 24) then r12 else (u 24)) u)))
set_option maxHeartbeats 4000000 in
set_option maxRecDepth 100000 in
theorem tX10_pull_b0 {p : Program} {l : Launch} {e : Env} {s : State} {m : MethodId} {args : Array Value} {below : List Frame} {meth : Method} {c : Code} {D : va_G} {cy : Nat → ClassId} {A : Nat → Prop} {h : Nat} {a : Nat} {rs : List Value} (K : (Nat → Int32) → Prop) (E : mE D cy RX10 cX10_pull 4 none wsX10_pull A p s m args meth c)
     (u : Nat → Int32) (H : Heap) (locs : List Loc) (ls : Array Slot) (hl : lv_has ls 4 [(0, .ref h)]) (hP : va_P D vwCl (wM0 cy h a rs u) H) (hD : va_D A (wM0 cy h a rs u)) (hS : va_S A s.heap H locs) (h1 : Ok (fX10_pull_b0 u) K) :
    kW p l e rmX10_pull s m args below meth c H locs (va_Qv K (fun q => kPost D A (wM0 cy h a rs q)) A) A 0 ls [] := by
  obtain ⟨hx, hb, hr, hml, hown, hts, hlocks, hK, hA⟩ := id E
  unfold fX10_pull_b0 at h1
  refine lv_aload_n hx hb dX10_pull_0 rfl (lv_at hl 0 rfl) ?_
  refine lv_aload_n hx hb dX10_pull_1 rfl (lv_at hl 0 rfl) ?_
  refine k_get (v := .ref a) (C := RX10) (T := TX10) (N := 23) hx hb hts inX10_pull_X10 hown hK hP 0 (wM0_a0 _ _ _ _ _) rfl 0 (by decide) lkX10_pull_7 (m0Fs_0 _ _) dX10_pull_2 ?_
  refine lv_iconst (v := 0) hx hb dX10_pull_5 rfl ?_
  refine k_iald (k := 0) hx hb hK hP 1 (wM0_a1 _ _ _ _ _) rfl rfl dX10_pull_6 ?_
  refine kc_rV0 (b := h) (As := [.int (u 0)]) (rest := []) h1 ⟨hx, hb, hml, hown, hts⟩ (cX10_deckAtM l D cy h a rs H.size u (u 0)) (cwV 1 hts gX10_pull_X10_deckAt rfl rfl rfl hdX10_deckAt ⟨Nat.le_of_ble_eq_true rfl, Nat.le_of_ble_eq_true rfl⟩) hK hP hD hS hA (q0 := 0) rfl rfl rfl hl.1 rfl (Nat.le_of_ble_eq_true rfl) dX10_pull_7 ⟨Nat.zero_le _, Nat.zero_le _⟩ (fun r7 H locs h1 hP hS => ?_)
  refine lv_istore_n (lv' := [(1, .int r7), (0, .ref h)]) hx hb dX10_pull_10 rfl hl (by decide) rfl (fun ls hl => ?_)
  refine lv_aload_n hx hb dX10_pull_11 rfl (lv_at hl 1 rfl) ?_
  refine kc_rV0 (b := h) (As := []) (rest := []) h1 ⟨hx, hb, hml, hown, hts⟩ (cX10_lipNowM l D cy h a rs H.size u) (cwV 0 hts gX10_pull_X10_lipNow rfl rfl rfl hdX10_lipNow ⟨Nat.le_of_ble_eq_true rfl, Nat.le_of_ble_eq_true rfl⟩) hK hP hD hS hA (q0 := 0) rfl rfl rfl hl.1 rfl (Nat.le_of_ble_eq_true rfl) dX10_pull_12 ⟨Nat.zero_le _, Nat.zero_le _⟩ (fun r12 H locs h1 hP hS => ?_)
  refine lv_istore_n (lv' := [(2, .int r12), (1, .int r7), (0, .ref h)]) hx hb dX10_pull_15 rfl hl (by decide) rfl (fun ls hl => ?_)
  refine lv_aload_n hx hb dX10_pull_16 rfl (lv_at hl 2 rfl) ?_
  refine k_get (v := .ref a) (C := RX10) (T := TX10) (N := 23) hx hb hts inX10_pull_X10 hown hK hP 0 (wM0_a0 _ _ _ _ _) rfl 0 (by decide) lkX10_pull_7 (m0Fs_0 _ _) dX10_pull_17 ?_
  refine lv_bipush (v := 24) hx hb dX10_pull_20 rfl ?_
  refine k_iald (k := 24) hx hb hK hP 1 (wM0_a1 _ _ _ _ _) rfl rfl dX10_pull_22 ?_
  refine lv_iload_n hx hb dX10_pull_23 rfl (lv_at hl 0 rfl) ?_
  refine va_mmin hx hb (hml.trans hl.1.symm) hown (hts _ (List.mem_of_getElem? (i := 2) rfl)) (hts _ (List.mem_of_getElem? (i := 3) rfl)) (hts _ (List.mem_of_getElem? (i := 4) rfl)) (hts _ (List.mem_of_getElem? (i := 5) rfl)) (Nat.le_of_ble_eq_true rfl) (Nat.le_of_ble_eq_true rfl) (Nat.zero_le _) (Nat.zero_le _) dX10_pull_24 ?_
  refine lv_istore_n (lv' := [(3, .int (if r12 < (u 24) then r12 else (u 24))), (2, .int r12), (1, .int r7), (0, .ref h)]) hx hb dX10_pull_27 rfl hl (by decide) rfl (fun ls hl => ?_)
  refine lv_aload_n hx hb dX10_pull_28 rfl (lv_at hl 3 rfl) ?_
  refine k_get (v := .ref a) (C := RX10) (T := TX10) (N := 23) hx hb hts inX10_pull_X10 hown hK hP 0 (wM0_a0 _ _ _ _ _) rfl 0 (by decide) lkX10_pull_7 (m0Fs_0 _ _) dX10_pull_29 ?_
  refine lv_iconst (v := 1) hx hb dX10_pull_32 rfl ?_
  refine lv_dup2_11 hx hb dX10_pull_33 rfl rfl ?_
  refine k_iald (k := 1) hx hb hK hP 1 (wM0_a1 _ _ _ _ _) rfl rfl dX10_pull_34 ?_
  refine lv_iload_n hx hb dX10_pull_35 rfl (lv_at hl 2 rfl) ?_
  refine lv_aload_n hx hb dX10_pull_36 rfl (lv_at hl 3 rfl) ?_
  refine k_get (v := .ref a) (C := RX10) (T := TX10) (N := 23) hx hb hts inX10_pull_X10 hown hK hP 0 (wM0_a0 _ _ _ _ _) rfl 0 (by decide) lkX10_pull_7 (m0Fs_0 _ _) dX10_pull_37 ?_
  refine lv_iconst (v := 1) hx hb dX10_pull_40 rfl ?_
  refine k_iald (k := 1) hx hb hK hP 1 (wM0_a1 _ _ _ _ _) rfl rfl dX10_pull_41 ?_
  refine lv_icmp_le (tgt := 49) hx hb dX10_pull_42 (by decide) (fun c42 => ?_) (fun c42 => ?_)
  · replace h1 := Ok.pos c42 h1
    refine lv_iload_n hx hb dX10_pull_49 rfl (lv_at hl 0 rfl) ?_
    refine lv_ineg hx hb dX10_pull_50 ?_
    exact tX10_pull_b51 K E r12 (if r12 < (u 24) then r12 else (u 24)) 1 (u 1) (-(if r12 < (u 24) then r12 else (u 24))) u H locs ls (lv_sub hl [3, 1, 0] rfl) hP hD hS h1
  · replace h1 := Ok.neg c42 h1
    refine lv_iload_n hx hb dX10_pull_45 rfl (lv_at hl 0 rfl) ?_
    refine lv_goto (tgt := 51) hx hb dX10_pull_46 (by decide) ?_
    exact tX10_pull_b51 K E r12 (if r12 < (u 24) then r12 else (u 24)) 1 (u 1) (if r12 < (u 24) then r12 else (u 24)) u H locs ls (lv_sub hl [3, 1, 0] rfl) hP hD hS h1
def fX10_pull (u : Nat → Int32) : Option ((Nat → Int32)) := fX10_pull_b0 u
set_option maxHeartbeats 4000000 in
set_option maxRecDepth 100000 in
theorem cX10_pullM (l : Launch) (D : va_G) (cy : Nat → ClassId) (h : Nat) (a : Nat) (rs : List Value) (sz : Nat) (u : Nat → Int32) : ∀ (K : (Nat → Int32) → Prop), Ok (fX10_pull u) K → Met l yX10_pull wsX10_pull rmX10_pull (va_Pc [.ref h] (kPre D cy sz (wM0 cy h a rs u))) (va_Qv K (fun q => kPost D (va_A (wM0 cy h a rs u) sz) (wM0 cy h a rs q)) (va_A (wM0 cy h a rs u) sz)) 0 0 (va_A (wM0 cy h a rs u) sz) := by
  intro K h1
  refine Met.ofW (cc := cX10_pull) (maxL := 4) (ret := none) (by decide) rfl ?_
  intro p e s m args below meth c s₁ B hml hv
  obtain ⟨rfl, hsz, hP, hK, hD0⟩ := hv
  subst hsz
  have E : mE D cy RX10 cX10_pull 4 none wsX10_pull (va_A (wM0 cy h a rs u) s.heap.size) p s m _ meth c := ⟨B.exec, B.bytes, B.returns, hml, findClass_of_methodNamed B.named, atoms_spec (ws := wsX10_pull) B.pre, B.notSynchronized, hK, fun q h => Or.inr h⟩
  have hl := lv_entry ([.ref h]) (n := 4) (Nat.le_of_ble_eq_true rfl)
  rw [lg_entry_eq]
  generalize (lg_sl ([.ref h]) ++ List.replicate (4 - (lg_sl ([.ref h])).length) Slot.unset).toArray = ls at hl ⊢
  exact tX10_pull_b0 K E u _ _ _ hl hP hD0.self va_S.rf h1
-- X10_winch
theorem inX10_winch_X10 : ∀ w ∈ u_ws RX10 TX10 23, w ∈ wsX10_winch := k_lays 34 rfl
theorem lkX10_winch_7 : Cond.fieldLink RX10 7 "FerryRampModel" "state" "[I" ∈ wsX10_winch := List.mem_of_getElem? (i := 1) rfl
theorem hdX10_pull : yX10_pull.cls = RX10 ∧ yX10_pull.cls ≠ "java/lang/invoke/MethodHandle" ∧ yX10_pull.cls ≠ "java/lang/invoke/VarHandle" ∧ (parseMethodDescriptor yX10_pull.desc).map (fun d => d.parameters.length) = some 0 := by decide +kernel
abbrev rmX10_winch : Room := { frames := 5, cells := 0, slots := 0, locals := 108 }
def fX10_winch_b92 (u : Nat → Int32) : Option ((Nat → Int32)) :=
  (if (u 2) = 2 then bnd (fX10_pull u) (fun u103 => some u103) else some u)
set_option maxHeartbeats 4000000 in
set_option maxRecDepth 100000 in
theorem tX10_winch_b92 {p : Program} {l : Launch} {e : Env} {s : State} {m : MethodId} {args : Array Value} {below : List Frame} {meth : Method} {c : Code} {D : va_G} {cy : Nat → ClassId} {A : Nat → Prop} {h : Nat} {a : Nat} {rs : List Value} (K : (Nat → Int32) → Prop) (E : mE D cy RX10 cX10_winch 1 none wsX10_winch A p s m args meth c)
     (u : Nat → Int32) (H : Heap) (locs : List Loc) (ls : Array Slot) (hl : lv_has ls 1 [(0, .ref h)]) (hP : va_P D vwCl (wM0 cy h a rs u) H) (hD : va_D A (wM0 cy h a rs u)) (hS : va_S A s.heap H locs) (h1 : Ok (fX10_winch_b92 u) K) :
    kW p l e rmX10_winch s m args below meth c H locs (va_Qv K (fun q => kPost D A (wM0 cy h a rs q)) A) A 92 ls [] := by
  obtain ⟨hx, hb, hr, hml, hown, hts, hlocks, hK, hA⟩ := id E
  unfold fX10_winch_b92 at h1
  refine lv_aload_n hx hb dX10_winch_92 rfl (lv_at hl 0 rfl) ?_
  refine k_get (v := .ref a) (C := RX10) (T := TX10) (N := 23) hx hb hts inX10_winch_X10 hown hK hP 0 (wM0_a0 _ _ _ _ _) rfl 0 (by decide) lkX10_winch_7 (m0Fs_0 _ _) dX10_winch_93 ?_
  refine lv_iconst (v := 2) hx hb dX10_winch_96 rfl ?_
  refine k_iald (k := 2) hx hb hK hP 1 (wM0_a1 _ _ _ _ _) rfl rfl dX10_winch_97 ?_
  refine lv_iconst (v := 2) hx hb dX10_winch_98 rfl ?_
  refine lv_icmp_ne (tgt := 106) hx hb dX10_winch_99 (by decide) (fun c99 => ?_) (fun c99 => ?_)
  · replace h1 := Ok.neg c99 h1
    exact kret_v hx hb hr hlocks hP hD hS h1 dX10_winch_106
  · replace h1 := Ok.pos c99 h1
    refine lv_aload_n hx hb dX10_winch_102 rfl (lv_at hl 0 rfl) ?_
    refine kc_vV0 (b := h) (As := []) (rest := []) h1 ⟨hx, hb, hml, hown, hts⟩ (cX10_pullM l D cy h a rs H.size u) (cwV 0 hts gX10_winch_X10_pull rfl rfl rfl hdX10_pull ⟨Nat.le_of_ble_eq_true rfl, Nat.le_of_ble_eq_true rfl⟩) hK hP hD hS hA (q0 := 0) rfl rfl rfl hl.1 rfl (Nat.le_of_ble_eq_true rfl) dX10_winch_103 ⟨Nat.zero_le _, Nat.zero_le _⟩ (fun u103 H locs h1 hP hD hS => ?_)
    exact kret_v hx hb hr hlocks hP hD hS h1 dX10_winch_106
def fX10_winch_b66 (u : Nat → Int32) : Option ((Nat → Int32)) :=
  (if (u 2) = 1 then (if (u 3) = 0 then fX10_winch_b92 (upd u 2 2) else fX10_winch_b92 u) else fX10_winch_b92 u)
set_option maxHeartbeats 4000000 in
set_option maxRecDepth 100000 in
theorem tX10_winch_b66 {p : Program} {l : Launch} {e : Env} {s : State} {m : MethodId} {args : Array Value} {below : List Frame} {meth : Method} {c : Code} {D : va_G} {cy : Nat → ClassId} {A : Nat → Prop} {h : Nat} {a : Nat} {rs : List Value} (K : (Nat → Int32) → Prop) (E : mE D cy RX10 cX10_winch 1 none wsX10_winch A p s m args meth c)
     (u : Nat → Int32) (H : Heap) (locs : List Loc) (ls : Array Slot) (hl : lv_has ls 1 [(0, .ref h)]) (hP : va_P D vwCl (wM0 cy h a rs u) H) (hD : va_D A (wM0 cy h a rs u)) (hS : va_S A s.heap H locs) (h1 : Ok (fX10_winch_b66 u) K) :
    kW p l e rmX10_winch s m args below meth c H locs (va_Qv K (fun q => kPost D A (wM0 cy h a rs q)) A) A 66 ls [] := by
  obtain ⟨hx, hb, hr, hml, hown, hts, hlocks, hK, hA⟩ := id E
  unfold fX10_winch_b66 at h1
  refine lv_aload_n hx hb dX10_winch_66 rfl (lv_at hl 0 rfl) ?_
  refine k_get (v := .ref a) (C := RX10) (T := TX10) (N := 23) hx hb hts inX10_winch_X10 hown hK hP 0 (wM0_a0 _ _ _ _ _) rfl 0 (by decide) lkX10_winch_7 (m0Fs_0 _ _) dX10_winch_67 ?_
  refine lv_iconst (v := 2) hx hb dX10_winch_70 rfl ?_
  refine k_iald (k := 2) hx hb hK hP 1 (wM0_a1 _ _ _ _ _) rfl rfl dX10_winch_71 ?_
  refine lv_iconst (v := 1) hx hb dX10_winch_72 rfl ?_
  refine lv_icmp_ne (tgt := 92) hx hb dX10_winch_73 (by decide) (fun c73 => ?_) (fun c73 => ?_)
  · replace h1 := Ok.neg c73 h1
    exact tX10_winch_b92 K E u H locs ls (lv_sub hl [0] rfl) hP hD hS h1
  · replace h1 := Ok.pos c73 h1
    refine lv_aload_n hx hb dX10_winch_76 rfl (lv_at hl 0 rfl) ?_
    refine k_get (v := .ref a) (C := RX10) (T := TX10) (N := 23) hx hb hts inX10_winch_X10 hown hK hP 0 (wM0_a0 _ _ _ _ _) rfl 0 (by decide) lkX10_winch_7 (m0Fs_0 _ _) dX10_winch_77 ?_
    refine lv_iconst (v := 3) hx hb dX10_winch_80 rfl ?_
    refine k_iald (k := 3) hx hb hK hP 1 (wM0_a1 _ _ _ _ _) rfl rfl dX10_winch_81 ?_
    refine lv_if_ne (tgt := 92) hx hb dX10_winch_82 (by decide) (fun c82 => ?_) (fun c82 => ?_)
    · replace h1 := Ok.neg c82 h1
      exact tX10_winch_b92 K E u H locs ls (lv_sub hl [0] rfl) hP hD hS h1
    · replace h1 := Ok.pos c82 h1
      refine lv_aload_n hx hb dX10_winch_85 rfl (lv_at hl 0 rfl) ?_
      refine k_get (v := .ref a) (C := RX10) (T := TX10) (N := 23) hx hb hts inX10_winch_X10 hown hK hP 0 (wM0_a0 _ _ _ _ _) rfl 0 (by decide) lkX10_winch_7 (m0Fs_0 _ _) dX10_winch_86 ?_
      refine lv_iconst (v := 2) hx hb dX10_winch_89 rfl ?_
      refine lv_iconst (v := 2) hx hb dX10_winch_90 rfl ?_
      refine k_iast (k := 2) (ws' := wM0 cy h a rs (upd u 2 2)) hx hb hK hP hD hS 1 (wM0_a1 _ _ _ _ _) rfl rfl (wM0_upd _ _ _ _ _ _ _) dX10_winch_91 (fun H locs hP hD hS => ?_)
      exact tX10_winch_b92 K E (upd u 2 2) H locs ls (lv_sub hl [0] rfl) hP hD hS h1
def fX10_winch_b0 (u : Nat → Int32) : Option ((Nat → Int32)) :=
  (if (u 2) = 0 then bnd (fX10_lipNow u) (fun r10 => (if r10 ≤ (u 25) then fX10_winch_b66 u else fX10_winch_b66 (upd (upd u 2 1) 3 ((upd u 2 1) 26)))) else (if (u 2) = 1 then fX10_winch_b66 (upd u 3 ((u 3) - 1)) else fX10_winch_b66 u))
set_option maxHeartbeats 4000000 in
set_option maxRecDepth 100000 in
theorem tX10_winch_b0 {p : Program} {l : Launch} {e : Env} {s : State} {m : MethodId} {args : Array Value} {below : List Frame} {meth : Method} {c : Code} {D : va_G} {cy : Nat → ClassId} {A : Nat → Prop} {h : Nat} {a : Nat} {rs : List Value} (K : (Nat → Int32) → Prop) (E : mE D cy RX10 cX10_winch 1 none wsX10_winch A p s m args meth c)
     (u : Nat → Int32) (H : Heap) (locs : List Loc) (ls : Array Slot) (hl : lv_has ls 1 [(0, .ref h)]) (hP : va_P D vwCl (wM0 cy h a rs u) H) (hD : va_D A (wM0 cy h a rs u)) (hS : va_S A s.heap H locs) (h1 : Ok (fX10_winch_b0 u) K) :
    kW p l e rmX10_winch s m args below meth c H locs (va_Qv K (fun q => kPost D A (wM0 cy h a rs q)) A) A 0 ls [] := by
  obtain ⟨hx, hb, hr, hml, hown, hts, hlocks, hK, hA⟩ := id E
  unfold fX10_winch_b0 at h1
  refine lv_aload_n hx hb dX10_winch_0 rfl (lv_at hl 0 rfl) ?_
  refine k_get (v := .ref a) (C := RX10) (T := TX10) (N := 23) hx hb hts inX10_winch_X10 hown hK hP 0 (wM0_a0 _ _ _ _ _) rfl 0 (by decide) lkX10_winch_7 (m0Fs_0 _ _) dX10_winch_1 ?_
  refine lv_iconst (v := 2) hx hb dX10_winch_4 rfl ?_
  refine k_iald (k := 2) hx hb hK hP 1 (wM0_a1 _ _ _ _ _) rfl rfl dX10_winch_5 ?_
  refine lv_if_ne (tgt := 46) hx hb dX10_winch_6 (by decide) (fun c6 => ?_) (fun c6 => ?_)
  · replace h1 := Ok.neg c6 h1
    refine lv_aload_n hx hb dX10_winch_46 rfl (lv_at hl 0 rfl) ?_
    refine k_get (v := .ref a) (C := RX10) (T := TX10) (N := 23) hx hb hts inX10_winch_X10 hown hK hP 0 (wM0_a0 _ _ _ _ _) rfl 0 (by decide) lkX10_winch_7 (m0Fs_0 _ _) dX10_winch_47 ?_
    refine lv_iconst (v := 2) hx hb dX10_winch_50 rfl ?_
    refine k_iald (k := 2) hx hb hK hP 1 (wM0_a1 _ _ _ _ _) rfl rfl dX10_winch_51 ?_
    refine lv_iconst (v := 1) hx hb dX10_winch_52 rfl ?_
    refine lv_icmp_ne (tgt := 66) hx hb dX10_winch_53 (by decide) (fun c53 => ?_) (fun c53 => ?_)
    · replace h1 := Ok.neg c53 h1
      exact tX10_winch_b66 K E u H locs ls (lv_sub hl [0] rfl) hP hD hS h1
    · replace h1 := Ok.pos c53 h1
      refine lv_aload_n hx hb dX10_winch_56 rfl (lv_at hl 0 rfl) ?_
      refine k_get (v := .ref a) (C := RX10) (T := TX10) (N := 23) hx hb hts inX10_winch_X10 hown hK hP 0 (wM0_a0 _ _ _ _ _) rfl 0 (by decide) lkX10_winch_7 (m0Fs_0 _ _) dX10_winch_57 ?_
      refine lv_iconst (v := 3) hx hb dX10_winch_60 rfl ?_
      refine lv_dup2_11 hx hb dX10_winch_61 rfl rfl ?_
      refine k_iald (k := 3) hx hb hK hP 1 (wM0_a1 _ _ _ _ _) rfl rfl dX10_winch_62 ?_
      refine lv_iconst (v := 1) hx hb dX10_winch_63 rfl ?_
      refine lv_isub hx hb dX10_winch_64 ?_
      refine k_iast (k := 3) (ws' := wM0 cy h a rs (upd u 3 ((u 3) - 1))) hx hb hK hP hD hS 1 (wM0_a1 _ _ _ _ _) rfl rfl (wM0_upd _ _ _ _ _ _ _) dX10_winch_65 (fun H locs hP hD hS => ?_)
      exact tX10_winch_b66 K E (upd u 3 ((u 3) - 1)) H locs ls (lv_sub hl [0] rfl) hP hD hS h1
  · replace h1 := Ok.pos c6 h1
    refine lv_aload_n hx hb dX10_winch_9 rfl (lv_at hl 0 rfl) ?_
    refine kc_rV0 (b := h) (As := []) (rest := []) h1 ⟨hx, hb, hml, hown, hts⟩ (cX10_lipNowM l D cy h a rs H.size u) (cwV 0 hts gX10_winch_X10_lipNow rfl rfl rfl hdX10_lipNow ⟨Nat.le_of_ble_eq_true rfl, Nat.le_of_ble_eq_true rfl⟩) hK hP hD hS hA (q0 := 0) rfl rfl rfl hl.1 rfl (Nat.le_of_ble_eq_true rfl) dX10_winch_10 ⟨Nat.zero_le _, Nat.zero_le _⟩ (fun r10 H locs h1 hP hS => ?_)
    refine lv_aload_n hx hb dX10_winch_13 rfl (lv_at hl 0 rfl) ?_
    refine k_get (v := .ref a) (C := RX10) (T := TX10) (N := 23) hx hb hts inX10_winch_X10 hown hK hP 0 (wM0_a0 _ _ _ _ _) rfl 0 (by decide) lkX10_winch_7 (m0Fs_0 _ _) dX10_winch_14 ?_
    refine lv_bipush (v := 25) hx hb dX10_winch_17 rfl ?_
    refine k_iald (k := 25) hx hb hK hP 1 (wM0_a1 _ _ _ _ _) rfl rfl dX10_winch_19 ?_
    refine lv_icmp_le (tgt := 66) hx hb dX10_winch_20 (by decide) (fun c20 => ?_) (fun c20 => ?_)
    · replace h1 := Ok.pos c20 h1
      exact tX10_winch_b66 K E u H locs ls (lv_sub hl [0] rfl) hP hD hS h1
    · replace h1 := Ok.neg c20 h1
      refine lv_aload_n hx hb dX10_winch_23 rfl (lv_at hl 0 rfl) ?_
      refine k_get (v := .ref a) (C := RX10) (T := TX10) (N := 23) hx hb hts inX10_winch_X10 hown hK hP 0 (wM0_a0 _ _ _ _ _) rfl 0 (by decide) lkX10_winch_7 (m0Fs_0 _ _) dX10_winch_24 ?_
      refine lv_iconst (v := 2) hx hb dX10_winch_27 rfl ?_
      refine lv_iconst (v := 1) hx hb dX10_winch_28 rfl ?_
      refine k_iast (k := 2) (ws' := wM0 cy h a rs (upd u 2 1)) hx hb hK hP hD hS 1 (wM0_a1 _ _ _ _ _) rfl rfl (wM0_upd _ _ _ _ _ _ _) dX10_winch_29 (fun H locs hP hD hS => ?_)
      refine lv_aload_n hx hb dX10_winch_30 rfl (lv_at hl 0 rfl) ?_
      refine k_get (v := .ref a) (C := RX10) (T := TX10) (N := 23) hx hb hts inX10_winch_X10 hown hK hP 0 (wM0_a0 _ _ _ _ _) rfl 0 (by decide) lkX10_winch_7 (m0Fs_0 _ _) dX10_winch_31 ?_
      refine lv_iconst (v := 3) hx hb dX10_winch_34 rfl ?_
      refine lv_aload_n hx hb dX10_winch_35 rfl (lv_at hl 0 rfl) ?_
      refine k_get (v := .ref a) (C := RX10) (T := TX10) (N := 23) hx hb hts inX10_winch_X10 hown hK hP 0 (wM0_a0 _ _ _ _ _) rfl 0 (by decide) lkX10_winch_7 (m0Fs_0 _ _) dX10_winch_36 ?_
      refine lv_bipush (v := 26) hx hb dX10_winch_39 rfl ?_
      refine k_iald (k := 26) hx hb hK hP 1 (wM0_a1 _ _ _ _ _) rfl rfl dX10_winch_41 ?_
      refine k_iast (k := 3) (ws' := wM0 cy h a rs (upd (upd u 2 1) 3 ((upd u 2 1) 26))) hx hb hK hP hD hS 1 (wM0_a1 _ _ _ _ _) rfl rfl (wM0_upd _ _ _ _ _ _ _) dX10_winch_42 (fun H locs hP hD hS => ?_)
      refine lv_goto (tgt := 66) hx hb dX10_winch_43 (by decide) ?_
      exact tX10_winch_b66 K E (upd (upd u 2 1) 3 ((upd u 2 1) 26)) H locs ls (lv_sub hl [0] rfl) hP hD hS h1
def fX10_winch (u : Nat → Int32) : Option ((Nat → Int32)) := fX10_winch_b0 u
set_option maxHeartbeats 4000000 in
set_option maxRecDepth 100000 in
theorem cX10_winchM (l : Launch) (D : va_G) (cy : Nat → ClassId) (h : Nat) (a : Nat) (rs : List Value) (sz : Nat) (u : Nat → Int32) : ∀ (K : (Nat → Int32) → Prop), Ok (fX10_winch u) K → Met l yX10_winch wsX10_winch rmX10_winch (va_Pc [.ref h] (kPre D cy sz (wM0 cy h a rs u))) (va_Qv K (fun q => kPost D (va_A (wM0 cy h a rs u) sz) (wM0 cy h a rs q)) (va_A (wM0 cy h a rs u) sz)) 0 0 (va_A (wM0 cy h a rs u) sz) := by
  intro K h1
  refine Met.ofW (cc := cX10_winch) (maxL := 1) (ret := none) (by decide) rfl ?_
  intro p e s m args below meth c s₁ B hml hv
  obtain ⟨rfl, hsz, hP, hK, hD0⟩ := hv
  subst hsz
  have E : mE D cy RX10 cX10_winch 1 none wsX10_winch (va_A (wM0 cy h a rs u) s.heap.size) p s m _ meth c := ⟨B.exec, B.bytes, B.returns, hml, findClass_of_methodNamed B.named, atoms_spec (ws := wsX10_winch) B.pre, B.notSynchronized, hK, fun q h => Or.inr h⟩
  have hl := lv_entry ([.ref h]) (n := 1) (Nat.le_of_ble_eq_true rfl)
  rw [lg_entry_eq]
  generalize (lg_sl ([.ref h]) ++ List.replicate (1 - (lg_sl ([.ref h])).length) Slot.unset).toArray = ls at hl ⊢
  exact tX10_winch_b0 K E u _ _ _ hl hP hD0.self va_S.rf h1
-- X10_drive
theorem inX10_drive_X10 : ∀ w ∈ u_ws RX10 TX10 23, w ∈ wsX10_drive := k_lays 46 rfl
theorem lkX10_drive_7 : Cond.fieldLink RX10 7 "FerryRampModel" "state" "[I" ∈ wsX10_drive := List.mem_of_getElem? (i := 1) rfl
abbrev rmX10_drive : Room := { frames := 4, cells := 0, slots := 0, locals := 85 }
def fX10_drive_b33 (u : Nat → Int32) : Option ((Nat → Int32)) :=
  some (upd u 6 ((u 6) + 1))
set_option maxHeartbeats 4000000 in
set_option maxRecDepth 100000 in
theorem tX10_drive_b33 {p : Program} {l : Launch} {e : Env} {s : State} {m : MethodId} {args : Array Value} {below : List Frame} {meth : Method} {c : Code} {D : va_G} {cy : Nat → ClassId} {A : Nat → Prop} {h : Nat} {a : Nat} {rs : List Value} (K : (Nat → Int32) → Prop) (E : mE D cy RX10 cX10_drive 2 none wsX10_drive A p s m args meth c)
     (u : Nat → Int32) (H : Heap) (locs : List Loc) (ls : Array Slot) (hl : lv_has ls 2 [(0, .ref h)]) (hP : va_P D vwCl (wM0 cy h a rs u) H) (hD : va_D A (wM0 cy h a rs u)) (hS : va_S A s.heap H locs) (h1 : Ok (fX10_drive_b33 u) K) :
    kW p l e rmX10_drive s m args below meth c H locs (va_Qv K (fun q => kPost D A (wM0 cy h a rs q)) A) A 33 ls [] := by
  obtain ⟨hx, hb, hr, hml, hown, hts, hlocks, hK, hA⟩ := id E
  unfold fX10_drive_b33 at h1
  refine lv_aload_n hx hb dX10_drive_33 rfl (lv_at hl 0 rfl) ?_
  refine k_get (v := .ref a) (C := RX10) (T := TX10) (N := 23) hx hb hts inX10_drive_X10 hown hK hP 0 (wM0_a0 _ _ _ _ _) rfl 0 (by decide) lkX10_drive_7 (m0Fs_0 _ _) dX10_drive_34 ?_
  refine lv_bipush (v := 6) hx hb dX10_drive_37 rfl ?_
  refine lv_dup2_11 hx hb dX10_drive_39 rfl rfl ?_
  refine k_iald (k := 6) hx hb hK hP 1 (wM0_a1 _ _ _ _ _) rfl rfl dX10_drive_40 ?_
  refine lv_iconst (v := 1) hx hb dX10_drive_41 rfl ?_
  refine lv_iadd hx hb dX10_drive_42 ?_
  refine k_iast (k := 6) (ws' := wM0 cy h a rs (upd u 6 ((u 6) + 1))) hx hb hK hP hD hS 1 (wM0_a1 _ _ _ _ _) rfl rfl (wM0_upd _ _ _ _ _ _ _) dX10_drive_43 (fun H locs hP hD hS => ?_)
  exact kret_v hx hb hr hlocks hP hD hS h1 dX10_drive_44
def fX10_drive_b0 (u : Nat → Int32) : Option ((Nat → Int32)) :=
  bnd (fX10_slopeNow u) (fun r8 => bnd (fX10_kindOf (u 4) 0 u) (fun r14 => (if r14 < r8 then fX10_drive_b33 u else bnd (fX10_lipNow u) (fun r21 => bnd (fX10_kindOf (u 4) 1 u) (fun r27 => (if r21 ≤ r27 then bnd (fX10_slopeNow (upd u 5 ((u 5) + 1))) (fun r69 => (if ((upd (upd u 5 ((u 5) + 1)) 11 (if ((upd u 5 ((u 5) + 1)) 11) < r69 then r69 else ((upd u 5 ((u 5) + 1)) 11))) 5) < ((upd (upd u 5 ((u 5) + 1)) 11 (if ((upd u 5 ((u 5) + 1)) 11) < r69 then r69 else ((upd u 5 ((u 5) + 1)) 11))) 27) then some (upd (upd u 5 ((u 5) + 1)) 11 (if ((upd u 5 ((u 5) + 1)) 11) < r69 then r69 else ((upd u 5 ((u 5) + 1)) 11))) else bnd (fX10_layCar (u 4) 2 2 (upd (upd u 5 ((u 5) + 1)) 11 (if ((upd u 5 ((u 5) + 1)) 11) < r69 then r69 else ((upd u 5 ((u 5) + 1)) 11)))) (fun u96 => bnd (fX10_layCar (u 4) 6 (u96 0) u96) (fun u109 => some (upd (upd (upd u109 4 (-1)) 5 0) 9 (((upd (upd u109 4 (-1)) 5 0) 9) + 1)))))) else fX10_drive_b33 u))))))
set_option maxHeartbeats 4000000 in
set_option maxRecDepth 100000 in
theorem tX10_drive_b0 {p : Program} {l : Launch} {e : Env} {s : State} {m : MethodId} {args : Array Value} {below : List Frame} {meth : Method} {c : Code} {D : va_G} {cy : Nat → ClassId} {A : Nat → Prop} {h : Nat} {a : Nat} {rs : List Value} (K : (Nat → Int32) → Prop) (E : mE D cy RX10 cX10_drive 2 none wsX10_drive A p s m args meth c)
     (u : Nat → Int32) (H : Heap) (locs : List Loc) (ls : Array Slot) (hl : lv_has ls 2 [(0, .ref h)]) (hP : va_P D vwCl (wM0 cy h a rs u) H) (hD : va_D A (wM0 cy h a rs u)) (hS : va_S A s.heap H locs) (h1 : Ok (fX10_drive_b0 u) K) :
    kW p l e rmX10_drive s m args below meth c H locs (va_Qv K (fun q => kPost D A (wM0 cy h a rs q)) A) A 0 ls [] := by
  obtain ⟨hx, hb, hr, hml, hown, hts, hlocks, hK, hA⟩ := id E
  unfold fX10_drive_b0 at h1
  refine lv_aload_n hx hb dX10_drive_0 rfl (lv_at hl 0 rfl) ?_
  refine k_get (v := .ref a) (C := RX10) (T := TX10) (N := 23) hx hb hts inX10_drive_X10 hown hK hP 0 (wM0_a0 _ _ _ _ _) rfl 0 (by decide) lkX10_drive_7 (m0Fs_0 _ _) dX10_drive_1 ?_
  refine lv_iconst (v := 4) hx hb dX10_drive_4 rfl ?_
  refine k_iald (k := 4) hx hb hK hP 1 (wM0_a1 _ _ _ _ _) rfl rfl dX10_drive_5 ?_
  refine lv_istore_n (lv' := [(1, .int (u 4)), (0, .ref h)]) hx hb dX10_drive_6 rfl hl (by decide) rfl (fun ls hl => ?_)
  refine lv_aload_n hx hb dX10_drive_7 rfl (lv_at hl 1 rfl) ?_
  refine kc_rV0 (b := h) (As := []) (rest := []) h1 ⟨hx, hb, hml, hown, hts⟩ (cX10_slopeNowM l D cy h a rs H.size u) (cwV 0 hts gX10_drive_X10_slopeNow rfl rfl rfl hdX10_slopeNow ⟨Nat.le_of_ble_eq_true rfl, Nat.le_of_ble_eq_true rfl⟩) hK hP hD hS hA (q0 := 0) rfl rfl rfl hl.1 rfl (Nat.le_of_ble_eq_true rfl) dX10_drive_8 ⟨Nat.zero_le _, Nat.zero_le _⟩ (fun r8 H locs h1 hP hS => ?_)
  refine lv_aload_n hx hb dX10_drive_11 rfl (lv_at hl 1 rfl) ?_
  refine lv_iload_n hx hb dX10_drive_12 rfl (lv_at hl 0 rfl) ?_
  refine lv_iconst (v := 0) hx hb dX10_drive_13 rfl ?_
  refine kc_rV0 (b := h) (As := [.int (u 4), .int 0]) (rest := [.int r8]) h1 ⟨hx, hb, hml, hown, hts⟩ (cX10_kindOfM l D cy h a rs H.size u (u 4) 0) (cwV 2 hts gX10_drive_X10_kindOf rfl rfl rfl hdX10_kindOf ⟨Nat.le_of_ble_eq_true rfl, Nat.le_of_ble_eq_true rfl⟩) hK hP hD hS hA (q0 := 0) rfl rfl rfl hl.1 rfl (Nat.le_of_ble_eq_true rfl) dX10_drive_14 ⟨Nat.zero_le _, Nat.zero_le _⟩ (fun r14 H locs h1 hP hS => ?_)
  refine lv_icmp_gt (tgt := 33) hx hb dX10_drive_17 (by decide) (fun c17 => ?_) (fun c17 => ?_)
  · replace h1 := Ok.pos c17 h1
    exact tX10_drive_b33 K E u H locs ls (lv_sub hl [1] rfl) hP hD hS h1
  · replace h1 := Ok.neg c17 h1
    refine lv_aload_n hx hb dX10_drive_20 rfl (lv_at hl 1 rfl) ?_
    refine kc_rV0 (b := h) (As := []) (rest := []) h1 ⟨hx, hb, hml, hown, hts⟩ (cX10_lipNowM l D cy h a rs H.size u) (cwV 0 hts gX10_drive_X10_lipNow rfl rfl rfl hdX10_lipNow ⟨Nat.le_of_ble_eq_true rfl, Nat.le_of_ble_eq_true rfl⟩) hK hP hD hS hA (q0 := 0) rfl rfl rfl hl.1 rfl (Nat.le_of_ble_eq_true rfl) dX10_drive_21 ⟨Nat.zero_le _, Nat.zero_le _⟩ (fun r21 H locs h1 hP hS => ?_)
    refine lv_aload_n hx hb dX10_drive_24 rfl (lv_at hl 1 rfl) ?_
    refine lv_iload_n hx hb dX10_drive_25 rfl (lv_at hl 0 rfl) ?_
    refine lv_iconst (v := 1) hx hb dX10_drive_26 rfl ?_
    refine kc_rV0 (b := h) (As := [.int (u 4), .int 1]) (rest := [.int r21]) h1 ⟨hx, hb, hml, hown, hts⟩ (cX10_kindOfM l D cy h a rs H.size u (u 4) 1) (cwV 2 hts gX10_drive_X10_kindOf rfl rfl rfl hdX10_kindOf ⟨Nat.le_of_ble_eq_true rfl, Nat.le_of_ble_eq_true rfl⟩) hK hP hD hS hA (q0 := 0) rfl rfl rfl hl.1 rfl (Nat.le_of_ble_eq_true rfl) dX10_drive_27 ⟨Nat.zero_le _, Nat.zero_le _⟩ (fun r27 H locs h1 hP hS => ?_)
    refine lv_icmp_le (tgt := 45) hx hb dX10_drive_30 (by decide) (fun c30 => ?_) (fun c30 => ?_)
    · replace h1 := Ok.pos c30 h1
      refine lv_aload_n hx hb dX10_drive_45 rfl (lv_at hl 1 rfl) ?_
      refine k_get (v := .ref a) (C := RX10) (T := TX10) (N := 23) hx hb hts inX10_drive_X10 hown hK hP 0 (wM0_a0 _ _ _ _ _) rfl 0 (by decide) lkX10_drive_7 (m0Fs_0 _ _) dX10_drive_46 ?_
      refine lv_iconst (v := 5) hx hb dX10_drive_49 rfl ?_
      refine lv_dup2_11 hx hb dX10_drive_50 rfl rfl ?_
      refine k_iald (k := 5) hx hb hK hP 1 (wM0_a1 _ _ _ _ _) rfl rfl dX10_drive_51 ?_
      refine lv_iconst (v := 1) hx hb dX10_drive_52 rfl ?_
      refine lv_iadd hx hb dX10_drive_53 ?_
      refine k_iast (k := 5) (ws' := wM0 cy h a rs (upd u 5 ((u 5) + 1))) hx hb hK hP hD hS 1 (wM0_a1 _ _ _ _ _) rfl rfl (wM0_upd _ _ _ _ _ _ _) dX10_drive_54 (fun H locs hP hD hS => ?_)
      refine lv_aload_n hx hb dX10_drive_55 rfl (lv_at hl 1 rfl) ?_
      refine k_get (v := .ref a) (C := RX10) (T := TX10) (N := 23) hx hb hts inX10_drive_X10 hown hK hP 0 (wM0_a0 _ _ _ _ _) rfl 0 (by decide) lkX10_drive_7 (m0Fs_0 _ _) dX10_drive_56 ?_
      refine lv_bipush (v := 11) hx hb dX10_drive_59 rfl ?_
      refine lv_aload_n hx hb dX10_drive_61 rfl (lv_at hl 1 rfl) ?_
      refine k_get (v := .ref a) (C := RX10) (T := TX10) (N := 23) hx hb hts inX10_drive_X10 hown hK hP 0 (wM0_a0 _ _ _ _ _) rfl 0 (by decide) lkX10_drive_7 (m0Fs_0 _ _) dX10_drive_62 ?_
      refine lv_bipush (v := 11) hx hb dX10_drive_65 rfl ?_
      refine k_iald (k := 11) hx hb hK hP 1 (wM0_a1 _ _ _ _ _) rfl rfl dX10_drive_67 ?_
      refine lv_aload_n hx hb dX10_drive_68 rfl (lv_at hl 1 rfl) ?_
      refine kc_rV0 (b := h) (As := []) (rest := [.int ((upd u 5 ((u 5) + 1)) 11), .int 11, .ref a]) h1 ⟨hx, hb, hml, hown, hts⟩ (cX10_slopeNowM l D cy h a rs H.size (upd u 5 ((u 5) + 1))) (cwV 0 hts gX10_drive_X10_slopeNow rfl rfl rfl hdX10_slopeNow ⟨Nat.le_of_ble_eq_true rfl, Nat.le_of_ble_eq_true rfl⟩) hK hP hD hS hA (q0 := 0) rfl rfl rfl hl.1 rfl (Nat.le_of_ble_eq_true rfl) dX10_drive_69 ⟨Nat.zero_le _, Nat.zero_le _⟩ (fun r69 H locs h1 hP hS => ?_)
      refine va_mmax hx hb (hml.trans hl.1.symm) hown (hts _ (List.mem_of_getElem? (i := 2) rfl)) (hts _ (List.mem_of_getElem? (i := 3) rfl)) (hts _ (List.mem_of_getElem? (i := 4) rfl)) (hts _ (List.mem_of_getElem? (i := 5) rfl)) (Nat.le_of_ble_eq_true rfl) (Nat.le_of_ble_eq_true rfl) (Nat.zero_le _) (Nat.zero_le _) dX10_drive_72 ?_
      refine k_iast (k := 11) (ws' := wM0 cy h a rs (upd (upd u 5 ((u 5) + 1)) 11 (if ((upd u 5 ((u 5) + 1)) 11) < r69 then r69 else ((upd u 5 ((u 5) + 1)) 11)))) hx hb hK hP hD hS 1 (wM0_a1 _ _ _ _ _) rfl rfl (wM0_upd _ _ _ _ _ _ _) dX10_drive_75 (fun H locs hP hD hS => ?_)
      refine lv_aload_n hx hb dX10_drive_76 rfl (lv_at hl 1 rfl) ?_
      refine k_get (v := .ref a) (C := RX10) (T := TX10) (N := 23) hx hb hts inX10_drive_X10 hown hK hP 0 (wM0_a0 _ _ _ _ _) rfl 0 (by decide) lkX10_drive_7 (m0Fs_0 _ _) dX10_drive_77 ?_
      refine lv_iconst (v := 5) hx hb dX10_drive_80 rfl ?_
      refine k_iald (k := 5) hx hb hK hP 1 (wM0_a1 _ _ _ _ _) rfl rfl dX10_drive_81 ?_
      refine lv_aload_n hx hb dX10_drive_82 rfl (lv_at hl 1 rfl) ?_
      refine k_get (v := .ref a) (C := RX10) (T := TX10) (N := 23) hx hb hts inX10_drive_X10 hown hK hP 0 (wM0_a0 _ _ _ _ _) rfl 0 (by decide) lkX10_drive_7 (m0Fs_0 _ _) dX10_drive_83 ?_
      refine lv_bipush (v := 27) hx hb dX10_drive_86 rfl ?_
      refine k_iald (k := 27) hx hb hK hP 1 (wM0_a1 _ _ _ _ _) rfl rfl dX10_drive_88 ?_
      refine lv_icmp_lt (tgt := 137) hx hb dX10_drive_89 (by decide) (fun c89 => ?_) (fun c89 => ?_)
      · replace h1 := Ok.pos c89 h1
        exact kret_v hx hb hr hlocks hP hD hS h1 dX10_drive_137
      · replace h1 := Ok.neg c89 h1
        refine lv_aload_n hx hb dX10_drive_92 rfl (lv_at hl 1 rfl) ?_
        refine lv_iload_n hx hb dX10_drive_93 rfl (lv_at hl 0 rfl) ?_
        refine lv_iconst (v := 2) hx hb dX10_drive_94 rfl ?_
        refine lv_iconst (v := 2) hx hb dX10_drive_95 rfl ?_
        refine kc_vV0 (b := h) (As := [.int (u 4), .int 2, .int 2]) (rest := []) h1 ⟨hx, hb, hml, hown, hts⟩ (cX10_layCarM l D cy h a rs H.size (upd (upd u 5 ((u 5) + 1)) 11 (if ((upd u 5 ((u 5) + 1)) 11) < r69 then r69 else ((upd u 5 ((u 5) + 1)) 11))) (u 4) 2 2) (cwV 3 hts gX10_drive_X10_layCar rfl rfl rfl hdX10_layCar ⟨Nat.le_of_ble_eq_true rfl, Nat.le_of_ble_eq_true rfl⟩) hK hP hD hS hA (q0 := 0) rfl rfl rfl hl.1 rfl (Nat.le_of_ble_eq_true rfl) dX10_drive_96 ⟨Nat.zero_le _, Nat.zero_le _⟩ (fun u96 H locs h1 hP hD hS => ?_)
        refine lv_aload_n hx hb dX10_drive_99 rfl (lv_at hl 1 rfl) ?_
        refine lv_iload_n hx hb dX10_drive_100 rfl (lv_at hl 0 rfl) ?_
        refine lv_bipush (v := 6) hx hb dX10_drive_101 rfl ?_
        refine lv_aload_n hx hb dX10_drive_103 rfl (lv_at hl 1 rfl) ?_
        refine k_get (v := .ref a) (C := RX10) (T := TX10) (N := 23) hx hb hts inX10_drive_X10 hown hK hP 0 (wM0_a0 _ _ _ _ _) rfl 0 (by decide) lkX10_drive_7 (m0Fs_0 _ _) dX10_drive_104 ?_
        refine lv_iconst (v := 0) hx hb dX10_drive_107 rfl ?_
        refine k_iald (k := 0) hx hb hK hP 1 (wM0_a1 _ _ _ _ _) rfl rfl dX10_drive_108 ?_
        refine kc_vV0 (b := h) (As := [.int (u 4), .int 6, .int (u96 0)]) (rest := []) h1 ⟨hx, hb, hml, hown, hts⟩ (cX10_layCarM l D cy h a rs H.size u96 (u 4) 6 (u96 0)) (cwV 3 hts gX10_drive_X10_layCar rfl rfl rfl hdX10_layCar ⟨Nat.le_of_ble_eq_true rfl, Nat.le_of_ble_eq_true rfl⟩) hK hP hD hS hA (q0 := 0) rfl rfl rfl hl.1 rfl (Nat.le_of_ble_eq_true rfl) dX10_drive_109 ⟨Nat.zero_le _, Nat.zero_le _⟩ (fun u109 H locs h1 hP hD hS => ?_)
        refine lv_aload_n hx hb dX10_drive_112 rfl (lv_at hl 1 rfl) ?_
        refine k_get (v := .ref a) (C := RX10) (T := TX10) (N := 23) hx hb hts inX10_drive_X10 hown hK hP 0 (wM0_a0 _ _ _ _ _) rfl 0 (by decide) lkX10_drive_7 (m0Fs_0 _ _) dX10_drive_113 ?_
        refine lv_iconst (v := 4) hx hb dX10_drive_116 rfl ?_
        refine lv_iconst (v := (-1)) hx hb dX10_drive_117 rfl ?_
        refine k_iast (k := 4) (ws' := wM0 cy h a rs (upd u109 4 (-1))) hx hb hK hP hD hS 1 (wM0_a1 _ _ _ _ _) rfl rfl (wM0_upd _ _ _ _ _ _ _) dX10_drive_118 (fun H locs hP hD hS => ?_)
        refine lv_aload_n hx hb dX10_drive_119 rfl (lv_at hl 1 rfl) ?_
        refine k_get (v := .ref a) (C := RX10) (T := TX10) (N := 23) hx hb hts inX10_drive_X10 hown hK hP 0 (wM0_a0 _ _ _ _ _) rfl 0 (by decide) lkX10_drive_7 (m0Fs_0 _ _) dX10_drive_120 ?_
        refine lv_iconst (v := 5) hx hb dX10_drive_123 rfl ?_
        refine lv_iconst (v := 0) hx hb dX10_drive_124 rfl ?_
        refine k_iast (k := 5) (ws' := wM0 cy h a rs (upd (upd u109 4 (-1)) 5 0)) hx hb hK hP hD hS 1 (wM0_a1 _ _ _ _ _) rfl rfl (wM0_upd _ _ _ _ _ _ _) dX10_drive_125 (fun H locs hP hD hS => ?_)
        refine lv_aload_n hx hb dX10_drive_126 rfl (lv_at hl 1 rfl) ?_
        refine k_get (v := .ref a) (C := RX10) (T := TX10) (N := 23) hx hb hts inX10_drive_X10 hown hK hP 0 (wM0_a0 _ _ _ _ _) rfl 0 (by decide) lkX10_drive_7 (m0Fs_0 _ _) dX10_drive_127 ?_
        refine lv_bipush (v := 9) hx hb dX10_drive_130 rfl ?_
        refine lv_dup2_11 hx hb dX10_drive_132 rfl rfl ?_
        refine k_iald (k := 9) hx hb hK hP 1 (wM0_a1 _ _ _ _ _) rfl rfl dX10_drive_133 ?_
        refine lv_iconst (v := 1) hx hb dX10_drive_134 rfl ?_
        refine lv_iadd hx hb dX10_drive_135 ?_
        refine k_iast (k := 9) (ws' := wM0 cy h a rs (upd (upd (upd u109 4 (-1)) 5 0) 9 (((upd (upd u109 4 (-1)) 5 0) 9) + 1))) hx hb hK hP hD hS 1 (wM0_a1 _ _ _ _ _) rfl rfl (wM0_upd _ _ _ _ _ _ _) dX10_drive_136 (fun H locs hP hD hS => ?_)
        exact kret_v hx hb hr hlocks hP hD hS h1 dX10_drive_137
    · replace h1 := Ok.neg c30 h1
      exact tX10_drive_b33 K E u H locs ls (lv_sub hl [1] rfl) hP hD hS h1
def fX10_drive (u : Nat → Int32) : Option ((Nat → Int32)) := fX10_drive_b0 u
set_option maxHeartbeats 4000000 in
set_option maxRecDepth 100000 in
theorem cX10_driveM (l : Launch) (D : va_G) (cy : Nat → ClassId) (h : Nat) (a : Nat) (rs : List Value) (sz : Nat) (u : Nat → Int32) : ∀ (K : (Nat → Int32) → Prop), Ok (fX10_drive u) K → Met l yX10_drive wsX10_drive rmX10_drive (va_Pc [.ref h] (kPre D cy sz (wM0 cy h a rs u))) (va_Qv K (fun q => kPost D (va_A (wM0 cy h a rs u) sz) (wM0 cy h a rs q)) (va_A (wM0 cy h a rs u) sz)) 0 0 (va_A (wM0 cy h a rs u) sz) := by
  intro K h1
  refine Met.ofW (cc := cX10_drive) (maxL := 2) (ret := none) (by decide) rfl ?_
  intro p e s m args below meth c s₁ B hml hv
  obtain ⟨rfl, hsz, hP, hK, hD0⟩ := hv
  subst hsz
  have E : mE D cy RX10 cX10_drive 2 none wsX10_drive (va_A (wM0 cy h a rs u) s.heap.size) p s m _ meth c := ⟨B.exec, B.bytes, B.returns, hml, findClass_of_methodNamed B.named, atoms_spec (ws := wsX10_drive) B.pre, B.notSynchronized, hK, fun q h => Or.inr h⟩
  have hl := lv_entry ([.ref h]) (n := 2) (Nat.le_of_ble_eq_true rfl)
  rw [lg_entry_eq]
  generalize (lg_sl ([.ref h]) ++ List.replicate (2 - (lg_sl ([.ref h])).length) Slot.unset).toArray = ls at hl ⊢
  exact tX10_drive_b0 K E u _ _ _ hl hP hD0.self va_S.rf h1
-- X10_callCrew
theorem inX10_callCrew_X10 : ∀ w ∈ u_ws RX10 TX10 23, w ∈ wsX10_callCrew := k_lays 87 rfl
theorem lkX10_callCrew_7 : Cond.fieldLink RX10 7 "FerryRampModel" "state" "[I" ∈ wsX10_callCrew := List.mem_of_getElem? (i := 1) rfl
theorem hdX10_beginToDrive : yX10_beginToDrive.cls = RX10 ∧ yX10_beginToDrive.cls ≠ "java/lang/invoke/MethodHandle" ∧ yX10_beginToDrive.cls ≠ "java/lang/invoke/VarHandle" ∧ (parseMethodDescriptor yX10_beginToDrive.desc).map (fun d => d.parameters.length) = some 1 := by decide +kernel
theorem hdX10_whyNotNow : yX10_whyNotNow.cls = RX10 ∧ yX10_whyNotNow.cls ≠ "java/lang/invoke/MethodHandle" ∧ yX10_whyNotNow.cls ≠ "java/lang/invoke/VarHandle" ∧ (parseMethodDescriptor yX10_whyNotNow.desc).map (fun d => d.parameters.length) = some 1 := by decide +kernel
abbrev rmX10_callCrew : Room := { frames := 7, cells := 0, slots := 0, locals := 159 }
def fX10_callCrew_b68 (x1 : Int32) (x2 : Int32) (x3 : Int32) (u : Nat → Int32) : Option ((Nat → Int32)) :=
  grd (inb (481 + (4 * ((u 8) - (u 8) / 20 * 20))) 561) (grd (inb ((481 + (4 * ((u 8) - (u 8) / 20 * 20))) + 1) 561) (grd (inb ((481 + (4 * ((u 8) - (u 8) / 20 * 20))) + 2) 561) (grd (inb ((481 + (4 * ((u 8) - (u 8) / 20 * 20))) + 3) 561) ((if x3 = (-1) then some (upd (upd (upd (upd (upd (upd u (ix (481 + (4 * ((u 8) - (u 8) / 20 * 20)))) (u 0)) (ix ((481 + (4 * ((u 8) - (u 8) / 20 * 20))) + 1)) x2) (ix ((481 + (4 * ((u 8) - (u 8) / 20 * 20))) + 2)) x1) (ix ((481 + (4 * ((u 8) - (u 8) / 20 * 20))) + 3)) x3) 8 (((upd (upd (upd (upd u (ix (481 + (4 * ((u 8) - (u 8) / 20 * 20)))) (u 0)) (ix ((481 + (4 * ((u 8) - (u 8) / 20 * 20))) + 1)) x2) (ix ((481 + (4 * ((u 8) - (u 8) / 20 * 20))) + 2)) x1) (ix ((481 + (4 * ((u 8) - (u 8) / 20 * 20))) + 3)) x3) 8) + 1)) 7 0) else bnd (fX10_beginToDrive x3 (upd (upd (upd (upd (upd (upd u (ix (481 + (4 * ((u 8) - (u 8) / 20 * 20)))) (u 0)) (ix ((481 + (4 * ((u 8) - (u 8) / 20 * 20))) + 1)) x2) (ix ((481 + (4 * ((u 8) - (u 8) / 20 * 20))) + 2)) x1) (ix ((481 + (4 * ((u 8) - (u 8) / 20 * 20))) + 3)) x3) 8 (((upd (upd (upd (upd u (ix (481 + (4 * ((u 8) - (u 8) / 20 * 20)))) (u 0)) (ix ((481 + (4 * ((u 8) - (u 8) / 20 * 20))) + 1)) x2) (ix ((481 + (4 * ((u 8) - (u 8) / 20 * 20))) + 2)) x1) (ix ((481 + (4 * ((u 8) - (u 8) / 20 * 20))) + 3)) x3) 8) + 1)) 7 0)) (fun u155 => some u155))))))
set_option maxHeartbeats 4000000 in
set_option maxRecDepth 100000 in
theorem tX10_callCrew_b68 {p : Program} {l : Launch} {e : Env} {s : State} {m : MethodId} {args : Array Value} {below : List Frame} {meth : Method} {c : Code} {D : va_G} {cy : Nat → ClassId} {A : Nat → Prop} {h : Nat} {a : Nat} {rs : List Value} (K : (Nat → Int32) → Prop) (E : mE D cy RX10 cX10_callCrew 5 none wsX10_callCrew A p s m args meth c)
     (x1 : Int32) (x2 : Int32) (x3 : Int32) (u : Nat → Int32) (H : Heap) (locs : List Loc) (ls : Array Slot) (hl : lv_has ls 5 [(0, .ref h), (1, .int x1), (2, .int x2), (3, .int x3)]) (hP : va_P D vwCl (wM0 cy h a rs u) H) (hD : va_D A (wM0 cy h a rs u)) (hS : va_S A s.heap H locs) (h1 : Ok (fX10_callCrew_b68 x1 x2 x3 u) K) :
    kW p l e rmX10_callCrew s m args below meth c H locs (va_Qv K (fun q => kPost D A (wM0 cy h a rs q)) A) A 68 ls [] := by
  obtain ⟨hx, hb, hr, hml, hown, hts, hlocks, hK, hA⟩ := id E
  unfold fX10_callCrew_b68 at h1
  refine lv_sipush (v := 481) hx hb dX10_callCrew_68 rfl ?_
  refine lv_iconst (v := 4) hx hb dX10_callCrew_71 rfl ?_
  refine lv_aload_n hx hb dX10_callCrew_72 rfl (lv_at hl 0 rfl) ?_
  refine k_get (v := .ref a) (C := RX10) (T := TX10) (N := 23) hx hb hts inX10_callCrew_X10 hown hK hP 0 (wM0_a0 _ _ _ _ _) rfl 0 (by decide) lkX10_callCrew_7 (m0Fs_0 _ _) dX10_callCrew_73 ?_
  refine lv_bipush (v := 8) hx hb dX10_callCrew_76 rfl ?_
  refine k_iald (k := 8) hx hb hK hP 1 (wM0_a1 _ _ _ _ _) rfl rfl dX10_callCrew_78 ?_
  refine lv_bipush (v := 20) hx hb dX10_callCrew_79 rfl ?_
  refine lv_irem hx hb dX10_callCrew_81 (by decide) ?_
  refine lv_imul hx hb dX10_callCrew_82 ?_
  refine lv_iadd hx hb dX10_callCrew_83 ?_
  refine lv_istore (lv' := [(4, .int (481 + (4 * ((u 8) - (u 8) / 20 * 20)))), (0, .ref h), (1, .int x1), (2, .int x2), (3, .int x3)]) hx hb dX10_callCrew_84 hl (by decide) rfl (fun ls hl => ?_)
  refine lv_aload_n hx hb dX10_callCrew_86 rfl (lv_at hl 1 rfl) ?_
  refine k_get (v := .ref a) (C := RX10) (T := TX10) (N := 23) hx hb hts inX10_callCrew_X10 hown hK hP 0 (wM0_a0 _ _ _ _ _) rfl 0 (by decide) lkX10_callCrew_7 (m0Fs_0 _ _) dX10_callCrew_87 ?_
  refine lv_iload hx hb dX10_callCrew_90 (lv_at hl 0 rfl) ?_
  refine lv_aload_n hx hb dX10_callCrew_92 rfl (lv_at hl 1 rfl) ?_
  refine k_get (v := .ref a) (C := RX10) (T := TX10) (N := 23) hx hb hts inX10_callCrew_X10 hown hK hP 0 (wM0_a0 _ _ _ _ _) rfl 0 (by decide) lkX10_callCrew_7 (m0Fs_0 _ _) dX10_callCrew_93 ?_
  refine lv_iconst (v := 0) hx hb dX10_callCrew_96 rfl ?_
  refine k_iald (k := 0) hx hb hK hP 1 (wM0_a1 _ _ _ _ _) rfl rfl dX10_callCrew_97 ?_
  have g98 := h1.grd1
  replace h1 := h1.grd2
  refine k_iast (k := (ix (481 + (4 * ((u 8) - (u 8) / 20 * 20))))) (ws' := wM0 cy h a rs (upd u (ix (481 + (4 * ((u 8) - (u 8) / 20 * 20)))) (u 0))) hx hb hK hP hD hS 1 (wM0_a1 _ _ _ _ _) g98 rfl (wM0_upd _ _ _ _ _ _ _) dX10_callCrew_98 (fun H locs hP hD hS => ?_)
  refine lv_aload_n hx hb dX10_callCrew_99 rfl (lv_at hl 1 rfl) ?_
  refine k_get (v := .ref a) (C := RX10) (T := TX10) (N := 23) hx hb hts inX10_callCrew_X10 hown hK hP 0 (wM0_a0 _ _ _ _ _) rfl 0 (by decide) lkX10_callCrew_7 (m0Fs_0 _ _) dX10_callCrew_100 ?_
  refine lv_iload hx hb dX10_callCrew_103 (lv_at hl 0 rfl) ?_
  refine lv_iconst (v := 1) hx hb dX10_callCrew_105 rfl ?_
  refine lv_iadd hx hb dX10_callCrew_106 ?_
  refine lv_iload_n hx hb dX10_callCrew_107 rfl (lv_at hl 3 rfl) ?_
  have g108 := h1.grd1
  replace h1 := h1.grd2
  refine k_iast (k := (ix ((481 + (4 * ((u 8) - (u 8) / 20 * 20))) + 1))) (ws' := wM0 cy h a rs (upd (upd u (ix (481 + (4 * ((u 8) - (u 8) / 20 * 20)))) (u 0)) (ix ((481 + (4 * ((u 8) - (u 8) / 20 * 20))) + 1)) x2)) hx hb hK hP hD hS 1 (wM0_a1 _ _ _ _ _) g108 rfl (wM0_upd _ _ _ _ _ _ _) dX10_callCrew_108 (fun H locs hP hD hS => ?_)
  refine lv_aload_n hx hb dX10_callCrew_109 rfl (lv_at hl 1 rfl) ?_
  refine k_get (v := .ref a) (C := RX10) (T := TX10) (N := 23) hx hb hts inX10_callCrew_X10 hown hK hP 0 (wM0_a0 _ _ _ _ _) rfl 0 (by decide) lkX10_callCrew_7 (m0Fs_0 _ _) dX10_callCrew_110 ?_
  refine lv_iload hx hb dX10_callCrew_113 (lv_at hl 0 rfl) ?_
  refine lv_iconst (v := 2) hx hb dX10_callCrew_115 rfl ?_
  refine lv_iadd hx hb dX10_callCrew_116 ?_
  refine lv_iload_n hx hb dX10_callCrew_117 rfl (lv_at hl 2 rfl) ?_
  have g118 := h1.grd1
  replace h1 := h1.grd2
  refine k_iast (k := (ix ((481 + (4 * ((u 8) - (u 8) / 20 * 20))) + 2))) (ws' := wM0 cy h a rs (upd (upd (upd u (ix (481 + (4 * ((u 8) - (u 8) / 20 * 20)))) (u 0)) (ix ((481 + (4 * ((u 8) - (u 8) / 20 * 20))) + 1)) x2) (ix ((481 + (4 * ((u 8) - (u 8) / 20 * 20))) + 2)) x1)) hx hb hK hP hD hS 1 (wM0_a1 _ _ _ _ _) g118 rfl (wM0_upd _ _ _ _ _ _ _) dX10_callCrew_118 (fun H locs hP hD hS => ?_)
  refine lv_aload_n hx hb dX10_callCrew_119 rfl (lv_at hl 1 rfl) ?_
  refine k_get (v := .ref a) (C := RX10) (T := TX10) (N := 23) hx hb hts inX10_callCrew_X10 hown hK hP 0 (wM0_a0 _ _ _ _ _) rfl 0 (by decide) lkX10_callCrew_7 (m0Fs_0 _ _) dX10_callCrew_120 ?_
  refine lv_iload hx hb dX10_callCrew_123 (lv_at hl 0 rfl) ?_
  refine lv_iconst (v := 3) hx hb dX10_callCrew_125 rfl ?_
  refine lv_iadd hx hb dX10_callCrew_126 ?_
  refine lv_iload_n hx hb dX10_callCrew_127 rfl (lv_at hl 4 rfl) ?_
  have g128 := h1.grd1
  replace h1 := h1.grd2
  refine k_iast (k := (ix ((481 + (4 * ((u 8) - (u 8) / 20 * 20))) + 3))) (ws' := wM0 cy h a rs (upd (upd (upd (upd u (ix (481 + (4 * ((u 8) - (u 8) / 20 * 20)))) (u 0)) (ix ((481 + (4 * ((u 8) - (u 8) / 20 * 20))) + 1)) x2) (ix ((481 + (4 * ((u 8) - (u 8) / 20 * 20))) + 2)) x1) (ix ((481 + (4 * ((u 8) - (u 8) / 20 * 20))) + 3)) x3)) hx hb hK hP hD hS 1 (wM0_a1 _ _ _ _ _) g128 rfl (wM0_upd _ _ _ _ _ _ _) dX10_callCrew_128 (fun H locs hP hD hS => ?_)
  refine lv_aload_n hx hb dX10_callCrew_129 rfl (lv_at hl 1 rfl) ?_
  refine k_get (v := .ref a) (C := RX10) (T := TX10) (N := 23) hx hb hts inX10_callCrew_X10 hown hK hP 0 (wM0_a0 _ _ _ _ _) rfl 0 (by decide) lkX10_callCrew_7 (m0Fs_0 _ _) dX10_callCrew_130 ?_
  refine lv_bipush (v := 8) hx hb dX10_callCrew_133 rfl ?_
  refine lv_dup2_11 hx hb dX10_callCrew_135 rfl rfl ?_
  refine k_iald (k := 8) hx hb hK hP 1 (wM0_a1 _ _ _ _ _) rfl rfl dX10_callCrew_136 ?_
  refine lv_iconst (v := 1) hx hb dX10_callCrew_137 rfl ?_
  refine lv_iadd hx hb dX10_callCrew_138 ?_
  refine k_iast (k := 8) (ws' := wM0 cy h a rs (upd (upd (upd (upd (upd u (ix (481 + (4 * ((u 8) - (u 8) / 20 * 20)))) (u 0)) (ix ((481 + (4 * ((u 8) - (u 8) / 20 * 20))) + 1)) x2) (ix ((481 + (4 * ((u 8) - (u 8) / 20 * 20))) + 2)) x1) (ix ((481 + (4 * ((u 8) - (u 8) / 20 * 20))) + 3)) x3) 8 (((upd (upd (upd (upd u (ix (481 + (4 * ((u 8) - (u 8) / 20 * 20)))) (u 0)) (ix ((481 + (4 * ((u 8) - (u 8) / 20 * 20))) + 1)) x2) (ix ((481 + (4 * ((u 8) - (u 8) / 20 * 20))) + 2)) x1) (ix ((481 + (4 * ((u 8) - (u 8) / 20 * 20))) + 3)) x3) 8) + 1))) hx hb hK hP hD hS 1 (wM0_a1 _ _ _ _ _) rfl rfl (wM0_upd _ _ _ _ _ _ _) dX10_callCrew_139 (fun H locs hP hD hS => ?_)
  refine lv_aload_n hx hb dX10_callCrew_140 rfl (lv_at hl 1 rfl) ?_
  refine k_get (v := .ref a) (C := RX10) (T := TX10) (N := 23) hx hb hts inX10_callCrew_X10 hown hK hP 0 (wM0_a0 _ _ _ _ _) rfl 0 (by decide) lkX10_callCrew_7 (m0Fs_0 _ _) dX10_callCrew_141 ?_
  refine lv_bipush (v := 7) hx hb dX10_callCrew_144 rfl ?_
  refine lv_iconst (v := 0) hx hb dX10_callCrew_146 rfl ?_
  refine k_iast (k := 7) (ws' := wM0 cy h a rs (upd (upd (upd (upd (upd (upd u (ix (481 + (4 * ((u 8) - (u 8) / 20 * 20)))) (u 0)) (ix ((481 + (4 * ((u 8) - (u 8) / 20 * 20))) + 1)) x2) (ix ((481 + (4 * ((u 8) - (u 8) / 20 * 20))) + 2)) x1) (ix ((481 + (4 * ((u 8) - (u 8) / 20 * 20))) + 3)) x3) 8 (((upd (upd (upd (upd u (ix (481 + (4 * ((u 8) - (u 8) / 20 * 20)))) (u 0)) (ix ((481 + (4 * ((u 8) - (u 8) / 20 * 20))) + 1)) x2) (ix ((481 + (4 * ((u 8) - (u 8) / 20 * 20))) + 2)) x1) (ix ((481 + (4 * ((u 8) - (u 8) / 20 * 20))) + 3)) x3) 8) + 1)) 7 0)) hx hb hK hP hD hS 1 (wM0_a1 _ _ _ _ _) rfl rfl (wM0_upd _ _ _ _ _ _ _) dX10_callCrew_147 (fun H locs hP hD hS => ?_)
  refine lv_iload_n hx hb dX10_callCrew_148 rfl (lv_at hl 4 rfl) ?_
  refine lv_iconst (v := (-1)) hx hb dX10_callCrew_149 rfl ?_
  refine lv_icmp_eq (tgt := 158) hx hb dX10_callCrew_150 (by decide) (fun c150 => ?_) (fun c150 => ?_)
  · replace h1 := Ok.pos c150 h1
    exact kret_v hx hb hr hlocks hP hD hS h1 dX10_callCrew_158
  · replace h1 := Ok.neg c150 h1
    refine lv_aload_n hx hb dX10_callCrew_153 rfl (lv_at hl 1 rfl) ?_
    refine lv_iload_n hx hb dX10_callCrew_154 rfl (lv_at hl 4 rfl) ?_
    refine kc_vV0 (b := h) (As := [.int x3]) (rest := []) h1 ⟨hx, hb, hml, hown, hts⟩ (cX10_beginToDriveM l D cy h a rs H.size (upd (upd (upd (upd (upd (upd u (ix (481 + (4 * ((u 8) - (u 8) / 20 * 20)))) (u 0)) (ix ((481 + (4 * ((u 8) - (u 8) / 20 * 20))) + 1)) x2) (ix ((481 + (4 * ((u 8) - (u 8) / 20 * 20))) + 2)) x1) (ix ((481 + (4 * ((u 8) - (u 8) / 20 * 20))) + 3)) x3) 8 (((upd (upd (upd (upd u (ix (481 + (4 * ((u 8) - (u 8) / 20 * 20)))) (u 0)) (ix ((481 + (4 * ((u 8) - (u 8) / 20 * 20))) + 1)) x2) (ix ((481 + (4 * ((u 8) - (u 8) / 20 * 20))) + 2)) x1) (ix ((481 + (4 * ((u 8) - (u 8) / 20 * 20))) + 3)) x3) 8) + 1)) 7 0) x3) (cwV 1 hts gX10_callCrew_X10_beginToDrive rfl rfl rfl hdX10_beginToDrive ⟨Nat.le_of_ble_eq_true rfl, Nat.le_of_ble_eq_true rfl⟩) hK hP hD hS hA (q0 := 0) rfl rfl rfl hl.1 rfl (Nat.le_of_ble_eq_true rfl) dX10_callCrew_155 ⟨Nat.zero_le _, Nat.zero_le _⟩ (fun u155 H locs h1 hP hD hS => ?_)
    exact kret_v hx hb hr hlocks hP hD hS h1 dX10_callCrew_158
def fX10_callCrew_b61 (k13 : Int32 × Int32 × Int32 × Int32 × (Nat → Int32) → Option ((Nat → Int32))) (x1 : Int32) (x2 : Int32) (x4 : Int32) (s0 : Int32) (u : Nat → Int32) : Option ((Nat → Int32)) :=
  k13 (x1, x2, s0, x4 + 1, u)
set_option maxHeartbeats 4000000 in
set_option maxRecDepth 100000 in
theorem tX10_callCrew_b61 {p : Program} {l : Launch} {e : Env} {s : State} {m : MethodId} {args : Array Value} {below : List Frame} {meth : Method} {c : Code} {D : va_G} {cy : Nat → ClassId} {A : Nat → Prop} {h : Nat} {a : Nat} {rs : List Value} (K : (Nat → Int32) → Prop) (E : mE D cy RX10 cX10_callCrew 5 none wsX10_callCrew A p s m args meth c)
    (k13 : Int32 × Int32 × Int32 × Int32 × (Nat → Int32) → Option ((Nat → Int32))) (hk13 : ∀ (x1 : Int32) (x2 : Int32) (x3 : Int32) (x4 : Int32) (u : Nat → Int32) (H : Heap) (locs : List Loc) (ls : Array Slot), lv_has ls 5 [(0, .ref h), (1, .int x1), (2, .int x2), (3, .int x3), (4, .int x4)] → va_P D vwCl (wM0 cy h a rs u) H → va_D A (wM0 cy h a rs u) → va_S A s.heap H locs → Ok (k13 (x1, x2, x3, x4, u)) K → kW p l e rmX10_callCrew s m args below meth c H locs (va_Qv K (fun q => kPost D A (wM0 cy h a rs q)) A) A 13 ls [])
     (x1 : Int32) (x2 : Int32) (x4 : Int32) (s0 : Int32) (u : Nat → Int32) (H : Heap) (locs : List Loc) (ls : Array Slot) (hl : lv_has ls 5 [(0, .ref h), (1, .int x1), (2, .int x2), (4, .int x4)]) (hP : va_P D vwCl (wM0 cy h a rs u) H) (hD : va_D A (wM0 cy h a rs u)) (hS : va_S A s.heap H locs) (h1 : Ok (fX10_callCrew_b61 k13 x1 x2 x4 s0 u) K) :
    kW p l e rmX10_callCrew s m args below meth c H locs (va_Qv K (fun q => kPost D A (wM0 cy h a rs q)) A) A 61 ls [.int s0] := by
  obtain ⟨hx, hb, hr, hml, hown, hts, hlocks, hK, hA⟩ := id E
  unfold fX10_callCrew_b61 at h1
  refine lv_istore_n (lv' := [(3, .int s0), (0, .ref h), (1, .int x1), (2, .int x2), (4, .int x4)]) hx hb dX10_callCrew_61 rfl hl (by decide) rfl (fun ls hl => ?_)
  refine lv_iinc (v := x4 + 1) (lv' := [(4, .int (x4 + 1)), (3, .int s0), (0, .ref h), (1, .int x1), (2, .int x2)]) hx hb dX10_callCrew_62 hl (k := 4) rfl rfl (by decide) rfl (fun ls hl => ?_)
  refine lv_goto (tgt := 13) hx hb dX10_callCrew_65 (by decide) ?_
  exact hk13 x1 x2 s0 (x4 + 1) u H locs ls (lv_sub hl [2, 3, 4, 1, 0] rfl) hP hD hS h1
def fX10_callCrew_b13 (k13 : Int32 × Int32 × Int32 × Int32 × (Nat → Int32) → Option ((Nat → Int32))) (x1 : Int32) (x2 : Int32) (x3 : Int32) (x4 : Int32) (u : Nat → Int32) : Option ((Nat → Int32)) :=
  (if (u 14) ≤ x4 then fX10_callCrew_b68 x1 x2 x3 u else (if x3 = (-1) then grd (inb (41 + x4) 561) (bnd (fX10_whyNotNow (u (ix (41 + x4))) u) (fun r41 => (if r41 = 0 then grd (inb (41 + x4) 561) (fX10_callCrew_b61 k13 x1 x2 x4 (u (ix (41 + x4))) u) else fX10_callCrew_b61 k13 x1 x2 x4 (-1) u))) else fX10_callCrew_b68 x1 x2 x3 u))
set_option maxHeartbeats 4000000 in
set_option maxRecDepth 100000 in
theorem tX10_callCrew_b13 {p : Program} {l : Launch} {e : Env} {s : State} {m : MethodId} {args : Array Value} {below : List Frame} {meth : Method} {c : Code} {D : va_G} {cy : Nat → ClassId} {A : Nat → Prop} {h : Nat} {a : Nat} {rs : List Value} (K : (Nat → Int32) → Prop) (E : mE D cy RX10 cX10_callCrew 5 none wsX10_callCrew A p s m args meth c)
    (k13 : Int32 × Int32 × Int32 × Int32 × (Nat → Int32) → Option ((Nat → Int32))) (hk13 : ∀ (x1 : Int32) (x2 : Int32) (x3 : Int32) (x4 : Int32) (u : Nat → Int32) (H : Heap) (locs : List Loc) (ls : Array Slot), lv_has ls 5 [(0, .ref h), (1, .int x1), (2, .int x2), (3, .int x3), (4, .int x4)] → va_P D vwCl (wM0 cy h a rs u) H → va_D A (wM0 cy h a rs u) → va_S A s.heap H locs → Ok (k13 (x1, x2, x3, x4, u)) K → kW p l e rmX10_callCrew s m args below meth c H locs (va_Qv K (fun q => kPost D A (wM0 cy h a rs q)) A) A 13 ls [])
     (x1 : Int32) (x2 : Int32) (x3 : Int32) (x4 : Int32) (u : Nat → Int32) (H : Heap) (locs : List Loc) (ls : Array Slot) (hl : lv_has ls 5 [(0, .ref h), (1, .int x1), (2, .int x2), (3, .int x3), (4, .int x4)]) (hP : va_P D vwCl (wM0 cy h a rs u) H) (hD : va_D A (wM0 cy h a rs u)) (hS : va_S A s.heap H locs) (h1 : Ok (fX10_callCrew_b13 k13 x1 x2 x3 x4 u) K) :
    kW p l e rmX10_callCrew s m args below meth c H locs (va_Qv K (fun q => kPost D A (wM0 cy h a rs q)) A) A 13 ls [] := by
  obtain ⟨hx, hb, hr, hml, hown, hts, hlocks, hK, hA⟩ := id E
  unfold fX10_callCrew_b13 at h1
  refine lv_iload hx hb dX10_callCrew_13 (lv_at hl 4 rfl) ?_
  refine lv_aload_n hx hb dX10_callCrew_15 rfl (lv_at hl 0 rfl) ?_
  refine k_get (v := .ref a) (C := RX10) (T := TX10) (N := 23) hx hb hts inX10_callCrew_X10 hown hK hP 0 (wM0_a0 _ _ _ _ _) rfl 0 (by decide) lkX10_callCrew_7 (m0Fs_0 _ _) dX10_callCrew_16 ?_
  refine lv_bipush (v := 14) hx hb dX10_callCrew_19 rfl ?_
  refine k_iald (k := 14) hx hb hK hP 1 (wM0_a1 _ _ _ _ _) rfl rfl dX10_callCrew_21 ?_
  refine lv_icmp_ge (tgt := 68) hx hb dX10_callCrew_22 (by decide) (fun c22 => ?_) (fun c22 => ?_)
  · replace h1 := Ok.pos c22 h1
    exact tX10_callCrew_b68 K E x1 x2 x3 u H locs ls (lv_sub hl [0, 1, 2, 3] rfl) hP hD hS h1
  · replace h1 := Ok.neg c22 h1
    refine lv_iload_n hx hb dX10_callCrew_25 rfl (lv_at hl 3 rfl) ?_
    refine lv_iconst (v := (-1)) hx hb dX10_callCrew_26 rfl ?_
    refine lv_icmp_ne (tgt := 68) hx hb dX10_callCrew_27 (by decide) (fun c27 => ?_) (fun c27 => ?_)
    · replace h1 := Ok.neg c27 h1
      exact tX10_callCrew_b68 K E x1 x2 x3 u H locs ls (lv_sub hl [0, 1, 2, 3] rfl) hP hD hS h1
    · replace h1 := Ok.pos c27 h1
      refine lv_aload_n hx hb dX10_callCrew_30 rfl (lv_at hl 0 rfl) ?_
      refine lv_aload_n hx hb dX10_callCrew_31 rfl (lv_at hl 0 rfl) ?_
      refine k_get (v := .ref a) (C := RX10) (T := TX10) (N := 23) hx hb hts inX10_callCrew_X10 hown hK hP 0 (wM0_a0 _ _ _ _ _) rfl 0 (by decide) lkX10_callCrew_7 (m0Fs_0 _ _) dX10_callCrew_32 ?_
      refine lv_bipush (v := 41) hx hb dX10_callCrew_35 rfl ?_
      refine lv_iload hx hb dX10_callCrew_37 (lv_at hl 4 rfl) ?_
      refine lv_iadd hx hb dX10_callCrew_39 ?_
      have g40 := h1.grd1
      replace h1 := h1.grd2
      refine k_iald (k := (ix (41 + x4))) hx hb hK hP 1 (wM0_a1 _ _ _ _ _) g40 rfl dX10_callCrew_40 ?_
      refine kc_rV0 (b := h) (As := [.int (u (ix (41 + x4)))]) (rest := []) h1 ⟨hx, hb, hml, hown, hts⟩ (cX10_whyNotNowM l D cy h a rs H.size u (u (ix (41 + x4)))) (cwV 1 hts gX10_callCrew_X10_whyNotNow rfl rfl rfl hdX10_whyNotNow ⟨Nat.le_of_ble_eq_true rfl, Nat.le_of_ble_eq_true rfl⟩) hK hP hD hS hA (q0 := 0) rfl rfl rfl hl.1 rfl (Nat.le_of_ble_eq_true rfl) dX10_callCrew_41 ⟨Nat.zero_le _, Nat.zero_le _⟩ (fun r41 H locs h1 hP hS => ?_)
      refine lv_if_ne (tgt := 60) hx hb dX10_callCrew_44 (by decide) (fun c44 => ?_) (fun c44 => ?_)
      · replace h1 := Ok.neg c44 h1
        refine lv_iconst (v := (-1)) hx hb dX10_callCrew_60 rfl ?_
        exact tX10_callCrew_b61 K E k13 hk13 x1 x2 x4 (-1) u H locs ls (lv_sub hl [0, 1, 2, 4] rfl) hP hD hS h1
      · replace h1 := Ok.pos c44 h1
        refine lv_aload_n hx hb dX10_callCrew_47 rfl (lv_at hl 0 rfl) ?_
        refine k_get (v := .ref a) (C := RX10) (T := TX10) (N := 23) hx hb hts inX10_callCrew_X10 hown hK hP 0 (wM0_a0 _ _ _ _ _) rfl 0 (by decide) lkX10_callCrew_7 (m0Fs_0 _ _) dX10_callCrew_48 ?_
        refine lv_bipush (v := 41) hx hb dX10_callCrew_51 rfl ?_
        refine lv_iload hx hb dX10_callCrew_53 (lv_at hl 4 rfl) ?_
        refine lv_iadd hx hb dX10_callCrew_55 ?_
        have g56 := h1.grd1
        replace h1 := h1.grd2
        refine k_iald (k := (ix (41 + x4))) hx hb hK hP 1 (wM0_a1 _ _ _ _ _) g56 rfl dX10_callCrew_56 ?_
        refine lv_goto (tgt := 61) hx hb dX10_callCrew_57 (by decide) ?_
        exact tX10_callCrew_b61 K E k13 hk13 x1 x2 x4 (u (ix (41 + x4))) u H locs ls (lv_sub hl [0, 1, 2, 4] rfl) hP hD hS h1
theorem tX10_callCrew_l13 {p : Program} {l : Launch} {e : Env} {s : State} {m : MethodId} {args : Array Value} {below : List Frame} {meth : Method} {c : Code} {D : va_G} {cy : Nat → ClassId} {A : Nat → Prop} {h : Nat} {a : Nat} {rs : List Value} (K : (Nat → Int32) → Prop) (E : mE D cy RX10 cX10_callCrew 5 none wsX10_callCrew A p s m args meth c) : ∀ (n9 : Nat) (x1 : Int32) (x2 : Int32) (x3 : Int32) (x4 : Int32) (u : Nat → Int32) (H : Heap) (locs : List Loc) (ls : Array Slot), lv_has ls 5 [(0, .ref h), (1, .int x1), (2, .int x2), (3, .int x3), (4, .int x4)] → va_P D vwCl (wM0 cy h a rs u) H → va_D A (wM0 cy h a rs u) → va_S A s.heap H locs → Ok (lop (fun y z => fX10_callCrew_b13 y z.1 z.2.1 z.2.2.1 z.2.2.2.1 z.2.2.2.2) n9 (x1, x2, x3, x4, u)) K → kW p l e rmX10_callCrew s m args below meth c H locs (va_Qv K (fun q => kPost D A (wM0 cy h a rs q)) A) A 13 ls [] := by
  intro n9
  induction n9 with
  | zero =>
    intro x1 x2 x3 x4 u H locs ls hl hP hD hS h1
    exact h1.no
  | succ n9 ih =>
    intro x1 x2 x3 x4 u H locs ls hl hP hD hS h1
    exact tX10_callCrew_b13 K E (lop (fun y z => fX10_callCrew_b13 y z.1 z.2.1 z.2.2.1 z.2.2.2.1 z.2.2.2.2) n9) (fun x1 x2 x3 x4 u H locs ls hl hP hD hS h1 => ih x1 x2 x3 x4 u H locs ls hl hP hD hS h1) x1 x2 x3 x4 u H locs ls hl hP hD hS h1
def fX10_callCrew_b0 (x1 : Int32) (u : Nat → Int32) : Option ((Nat → Int32)) :=
  lop (fun y z => fX10_callCrew_b13 y z.1 z.2.1 z.2.2.1 z.2.2.2.1 z.2.2.2.2) LF (x1, u 41, (-1), 1, u)
set_option maxHeartbeats 4000000 in
set_option maxRecDepth 100000 in
theorem tX10_callCrew_b0 {p : Program} {l : Launch} {e : Env} {s : State} {m : MethodId} {args : Array Value} {below : List Frame} {meth : Method} {c : Code} {D : va_G} {cy : Nat → ClassId} {A : Nat → Prop} {h : Nat} {a : Nat} {rs : List Value} (K : (Nat → Int32) → Prop) (E : mE D cy RX10 cX10_callCrew 5 none wsX10_callCrew A p s m args meth c)
     (x1 : Int32) (u : Nat → Int32) (H : Heap) (locs : List Loc) (ls : Array Slot) (hl : lv_has ls 5 [(0, .ref h), (1, .int x1)]) (hP : va_P D vwCl (wM0 cy h a rs u) H) (hD : va_D A (wM0 cy h a rs u)) (hS : va_S A s.heap H locs) (h1 : Ok (fX10_callCrew_b0 x1 u) K) :
    kW p l e rmX10_callCrew s m args below meth c H locs (va_Qv K (fun q => kPost D A (wM0 cy h a rs q)) A) A 0 ls [] := by
  obtain ⟨hx, hb, hr, hml, hown, hts, hlocks, hK, hA⟩ := id E
  unfold fX10_callCrew_b0 at h1
  refine lv_aload_n hx hb dX10_callCrew_0 rfl (lv_at hl 0 rfl) ?_
  refine k_get (v := .ref a) (C := RX10) (T := TX10) (N := 23) hx hb hts inX10_callCrew_X10 hown hK hP 0 (wM0_a0 _ _ _ _ _) rfl 0 (by decide) lkX10_callCrew_7 (m0Fs_0 _ _) dX10_callCrew_1 ?_
  refine lv_bipush (v := 41) hx hb dX10_callCrew_4 rfl ?_
  refine k_iald (k := 41) hx hb hK hP 1 (wM0_a1 _ _ _ _ _) rfl rfl dX10_callCrew_6 ?_
  refine lv_istore_n (lv' := [(2, .int (u 41)), (0, .ref h), (1, .int x1)]) hx hb dX10_callCrew_7 rfl hl (by decide) rfl (fun ls hl => ?_)
  refine lv_iconst (v := (-1)) hx hb dX10_callCrew_8 rfl ?_
  refine lv_istore_n (lv' := [(3, .int (-1)), (2, .int (u 41)), (0, .ref h), (1, .int x1)]) hx hb dX10_callCrew_9 rfl hl (by decide) rfl (fun ls hl => ?_)
  refine lv_iconst (v := 1) hx hb dX10_callCrew_10 rfl ?_
  refine lv_istore (lv' := [(4, .int 1), (3, .int (-1)), (2, .int (u 41)), (0, .ref h), (1, .int x1)]) hx hb dX10_callCrew_11 hl (by decide) rfl (fun ls hl => ?_)
  exact tX10_callCrew_l13 K E LF x1 (u 41) (-1) 1 u H locs ls (lv_sub hl [3, 4, 2, 1, 0] rfl) hP hD hS h1
def fX10_callCrew (p1 : Int32) (u : Nat → Int32) : Option ((Nat → Int32)) := fX10_callCrew_b0 p1 u
set_option maxHeartbeats 4000000 in
set_option maxRecDepth 100000 in
theorem cX10_callCrewM (l : Launch) (D : va_G) (cy : Nat → ClassId) (h : Nat) (a : Nat) (rs : List Value) (sz : Nat) (u : Nat → Int32) (p1 : Int32) : ∀ (K : (Nat → Int32) → Prop), Ok (fX10_callCrew p1 u) K → Met l yX10_callCrew wsX10_callCrew rmX10_callCrew (va_Pc [.ref h, .int p1] (kPre D cy sz (wM0 cy h a rs u))) (va_Qv K (fun q => kPost D (va_A (wM0 cy h a rs u) sz) (wM0 cy h a rs q)) (va_A (wM0 cy h a rs u) sz)) 0 0 (va_A (wM0 cy h a rs u) sz) := by
  intro K h1
  refine Met.ofW (cc := cX10_callCrew) (maxL := 5) (ret := none) (by decide) rfl ?_
  intro p e s m args below meth c s₁ B hml hv
  obtain ⟨rfl, hsz, hP, hK, hD0⟩ := hv
  subst hsz
  have E : mE D cy RX10 cX10_callCrew 5 none wsX10_callCrew (va_A (wM0 cy h a rs u) s.heap.size) p s m _ meth c := ⟨B.exec, B.bytes, B.returns, hml, findClass_of_methodNamed B.named, atoms_spec (ws := wsX10_callCrew) B.pre, B.notSynchronized, hK, fun q h => Or.inr h⟩
  have hl := lv_entry ([.ref h, .int p1]) (n := 5) (Nat.le_of_ble_eq_true rfl)
  rw [lg_entry_eq]
  generalize (lg_sl ([.ref h, .int p1]) ++ List.replicate (5 - (lg_sl ([.ref h, .int p1])).length) Slot.unset).toArray = ls at hl ⊢
  exact tX10_callCrew_b0 K E p1 u _ _ _ hl hP hD0.self va_S.rf h1
-- X10_admit
theorem inX10_admit_X10 : ∀ w ∈ u_ws RX10 TX10 23, w ∈ wsX10_admit := k_lays 91 rfl
theorem lkX10_admit_7 : Cond.fieldLink RX10 7 "FerryRampModel" "state" "[I" ∈ wsX10_admit := List.mem_of_getElem? (i := 1) rfl
theorem hdX10_callCrew : yX10_callCrew.cls = RX10 ∧ yX10_callCrew.cls ≠ "java/lang/invoke/MethodHandle" ∧ yX10_callCrew.cls ≠ "java/lang/invoke/VarHandle" ∧ (parseMethodDescriptor yX10_callCrew.desc).map (fun d => d.parameters.length) = some 1 := by decide +kernel
abbrev rmX10_admit : Room := { frames := 8, cells := 0, slots := 0, locals := 183 }
def fX10_admit_b0 (u : Nat → Int32) : Option ((Nat → Int32)) :=
  bnd (fX10_whyNotNow (u 41) u) (fun r8 => (if r8 = 0 then bnd (fX10_beginToDrive (u 41) u) (fun u24 => some u24) else (if r8 = 1 then some u else (if ((upd u 7 ((u 7) + 1)) 7) < ((upd u 7 ((u 7) + 1)) 28) then some (upd u 7 ((u 7) + 1)) else bnd (fX10_callCrew r8 (upd u 7 ((u 7) + 1))) (fun u65 => some u65)))))
set_option maxHeartbeats 4000000 in
set_option maxRecDepth 100000 in
theorem tX10_admit_b0 {p : Program} {l : Launch} {e : Env} {s : State} {m : MethodId} {args : Array Value} {below : List Frame} {meth : Method} {c : Code} {D : va_G} {cy : Nat → ClassId} {A : Nat → Prop} {h : Nat} {a : Nat} {rs : List Value} (K : (Nat → Int32) → Prop) (E : mE D cy RX10 cX10_admit 2 none wsX10_admit A p s m args meth c)
     (u : Nat → Int32) (H : Heap) (locs : List Loc) (ls : Array Slot) (hl : lv_has ls 2 [(0, .ref h)]) (hP : va_P D vwCl (wM0 cy h a rs u) H) (hD : va_D A (wM0 cy h a rs u)) (hS : va_S A s.heap H locs) (h1 : Ok (fX10_admit_b0 u) K) :
    kW p l e rmX10_admit s m args below meth c H locs (va_Qv K (fun q => kPost D A (wM0 cy h a rs q)) A) A 0 ls [] := by
  obtain ⟨hx, hb, hr, hml, hown, hts, hlocks, hK, hA⟩ := id E
  unfold fX10_admit_b0 at h1
  refine lv_aload_n hx hb dX10_admit_0 rfl (lv_at hl 0 rfl) ?_
  refine lv_aload_n hx hb dX10_admit_1 rfl (lv_at hl 0 rfl) ?_
  refine k_get (v := .ref a) (C := RX10) (T := TX10) (N := 23) hx hb hts inX10_admit_X10 hown hK hP 0 (wM0_a0 _ _ _ _ _) rfl 0 (by decide) lkX10_admit_7 (m0Fs_0 _ _) dX10_admit_2 ?_
  refine lv_bipush (v := 41) hx hb dX10_admit_5 rfl ?_
  refine k_iald (k := 41) hx hb hK hP 1 (wM0_a1 _ _ _ _ _) rfl rfl dX10_admit_7 ?_
  refine kc_rV0 (b := h) (As := [.int (u 41)]) (rest := []) h1 ⟨hx, hb, hml, hown, hts⟩ (cX10_whyNotNowM l D cy h a rs H.size u (u 41)) (cwV 1 hts gX10_admit_X10_whyNotNow rfl rfl rfl hdX10_whyNotNow ⟨Nat.le_of_ble_eq_true rfl, Nat.le_of_ble_eq_true rfl⟩) hK hP hD hS hA (q0 := 0) rfl rfl rfl hl.1 rfl (Nat.le_of_ble_eq_true rfl) dX10_admit_8 ⟨Nat.zero_le _, Nat.zero_le _⟩ (fun r8 H locs h1 hP hS => ?_)
  refine lv_istore_n (lv' := [(1, .int r8), (0, .ref h)]) hx hb dX10_admit_11 rfl hl (by decide) rfl (fun ls hl => ?_)
  refine lv_iload_n hx hb dX10_admit_12 rfl (lv_at hl 0 rfl) ?_
  refine lv_if_ne (tgt := 30) hx hb dX10_admit_13 (by decide) (fun c13 => ?_) (fun c13 => ?_)
  · replace h1 := Ok.neg c13 h1
    refine lv_iload_n hx hb dX10_admit_30 rfl (lv_at hl 0 rfl) ?_
    refine lv_iconst (v := 1) hx hb dX10_admit_31 rfl ?_
    refine lv_icmp_eq (tgt := 68) hx hb dX10_admit_32 (by decide) (fun c32 => ?_) (fun c32 => ?_)
    · replace h1 := Ok.pos c32 h1
      exact kret_v hx hb hr hlocks hP hD hS h1 dX10_admit_68
    · replace h1 := Ok.neg c32 h1
      refine lv_aload_n hx hb dX10_admit_35 rfl (lv_at hl 1 rfl) ?_
      refine k_get (v := .ref a) (C := RX10) (T := TX10) (N := 23) hx hb hts inX10_admit_X10 hown hK hP 0 (wM0_a0 _ _ _ _ _) rfl 0 (by decide) lkX10_admit_7 (m0Fs_0 _ _) dX10_admit_36 ?_
      refine lv_bipush (v := 7) hx hb dX10_admit_39 rfl ?_
      refine lv_dup2_11 hx hb dX10_admit_41 rfl rfl ?_
      refine k_iald (k := 7) hx hb hK hP 1 (wM0_a1 _ _ _ _ _) rfl rfl dX10_admit_42 ?_
      refine lv_iconst (v := 1) hx hb dX10_admit_43 rfl ?_
      refine lv_iadd hx hb dX10_admit_44 ?_
      refine k_iast (k := 7) (ws' := wM0 cy h a rs (upd u 7 ((u 7) + 1))) hx hb hK hP hD hS 1 (wM0_a1 _ _ _ _ _) rfl rfl (wM0_upd _ _ _ _ _ _ _) dX10_admit_45 (fun H locs hP hD hS => ?_)
      refine lv_aload_n hx hb dX10_admit_46 rfl (lv_at hl 1 rfl) ?_
      refine k_get (v := .ref a) (C := RX10) (T := TX10) (N := 23) hx hb hts inX10_admit_X10 hown hK hP 0 (wM0_a0 _ _ _ _ _) rfl 0 (by decide) lkX10_admit_7 (m0Fs_0 _ _) dX10_admit_47 ?_
      refine lv_bipush (v := 7) hx hb dX10_admit_50 rfl ?_
      refine k_iald (k := 7) hx hb hK hP 1 (wM0_a1 _ _ _ _ _) rfl rfl dX10_admit_52 ?_
      refine lv_aload_n hx hb dX10_admit_53 rfl (lv_at hl 1 rfl) ?_
      refine k_get (v := .ref a) (C := RX10) (T := TX10) (N := 23) hx hb hts inX10_admit_X10 hown hK hP 0 (wM0_a0 _ _ _ _ _) rfl 0 (by decide) lkX10_admit_7 (m0Fs_0 _ _) dX10_admit_54 ?_
      refine lv_bipush (v := 28) hx hb dX10_admit_57 rfl ?_
      refine k_iald (k := 28) hx hb hK hP 1 (wM0_a1 _ _ _ _ _) rfl rfl dX10_admit_59 ?_
      refine lv_icmp_lt (tgt := 68) hx hb dX10_admit_60 (by decide) (fun c60 => ?_) (fun c60 => ?_)
      · replace h1 := Ok.pos c60 h1
        exact kret_v hx hb hr hlocks hP hD hS h1 dX10_admit_68
      · replace h1 := Ok.neg c60 h1
        refine lv_aload_n hx hb dX10_admit_63 rfl (lv_at hl 1 rfl) ?_
        refine lv_iload_n hx hb dX10_admit_64 rfl (lv_at hl 0 rfl) ?_
        refine kc_vV0 (b := h) (As := [.int r8]) (rest := []) h1 ⟨hx, hb, hml, hown, hts⟩ (cX10_callCrewM l D cy h a rs H.size (upd u 7 ((u 7) + 1)) r8) (cwV 1 hts gX10_admit_X10_callCrew rfl rfl rfl hdX10_callCrew ⟨Nat.le_of_ble_eq_true rfl, Nat.le_of_ble_eq_true rfl⟩) hK hP hD hS hA (q0 := 0) rfl rfl rfl hl.1 rfl (Nat.le_of_ble_eq_true rfl) dX10_admit_65 ⟨Nat.zero_le _, Nat.zero_le _⟩ (fun u65 H locs h1 hP hD hS => ?_)
        exact kret_v hx hb hr hlocks hP hD hS h1 dX10_admit_68
  · replace h1 := Ok.pos c13 h1
    refine lv_aload_n hx hb dX10_admit_16 rfl (lv_at hl 1 rfl) ?_
    refine lv_aload_n hx hb dX10_admit_17 rfl (lv_at hl 1 rfl) ?_
    refine k_get (v := .ref a) (C := RX10) (T := TX10) (N := 23) hx hb hts inX10_admit_X10 hown hK hP 0 (wM0_a0 _ _ _ _ _) rfl 0 (by decide) lkX10_admit_7 (m0Fs_0 _ _) dX10_admit_18 ?_
    refine lv_bipush (v := 41) hx hb dX10_admit_21 rfl ?_
    refine k_iald (k := 41) hx hb hK hP 1 (wM0_a1 _ _ _ _ _) rfl rfl dX10_admit_23 ?_
    refine kc_vV0 (b := h) (As := [.int (u 41)]) (rest := []) h1 ⟨hx, hb, hml, hown, hts⟩ (cX10_beginToDriveM l D cy h a rs H.size u (u 41)) (cwV 1 hts gX10_admit_X10_beginToDrive rfl rfl rfl hdX10_beginToDrive ⟨Nat.le_of_ble_eq_true rfl, Nat.le_of_ble_eq_true rfl⟩) hK hP hD hS hA (q0 := 0) rfl rfl rfl hl.1 rfl (Nat.le_of_ble_eq_true rfl) dX10_admit_24 ⟨Nat.zero_le _, Nat.zero_le _⟩ (fun u24 H locs h1 hP hD hS => ?_)
    refine lv_goto (tgt := 68) hx hb dX10_admit_27 (by decide) ?_
    exact kret_v hx hb hr hlocks hP hD hS h1 dX10_admit_68
def fX10_admit (u : Nat → Int32) : Option ((Nat → Int32)) := fX10_admit_b0 u
set_option maxHeartbeats 4000000 in
set_option maxRecDepth 100000 in
theorem cX10_admitM (l : Launch) (D : va_G) (cy : Nat → ClassId) (h : Nat) (a : Nat) (rs : List Value) (sz : Nat) (u : Nat → Int32) : ∀ (K : (Nat → Int32) → Prop), Ok (fX10_admit u) K → Met l yX10_admit wsX10_admit rmX10_admit (va_Pc [.ref h] (kPre D cy sz (wM0 cy h a rs u))) (va_Qv K (fun q => kPost D (va_A (wM0 cy h a rs u) sz) (wM0 cy h a rs q)) (va_A (wM0 cy h a rs u) sz)) 0 0 (va_A (wM0 cy h a rs u) sz) := by
  intro K h1
  refine Met.ofW (cc := cX10_admit) (maxL := 2) (ret := none) (by decide) rfl ?_
  intro p e s m args below meth c s₁ B hml hv
  obtain ⟨rfl, hsz, hP, hK, hD0⟩ := hv
  subst hsz
  have E : mE D cy RX10 cX10_admit 2 none wsX10_admit (va_A (wM0 cy h a rs u) s.heap.size) p s m _ meth c := ⟨B.exec, B.bytes, B.returns, hml, findClass_of_methodNamed B.named, atoms_spec (ws := wsX10_admit) B.pre, B.notSynchronized, hK, fun q h => Or.inr h⟩
  have hl := lv_entry ([.ref h]) (n := 2) (Nat.le_of_ble_eq_true rfl)
  rw [lg_entry_eq]
  generalize (lg_sl ([.ref h]) ++ List.replicate (2 - (lg_sl ([.ref h])).length) Slot.unset).toArray = ls at hl ⊢
  exact tX10_admit_b0 K E u _ _ _ hl hP hD0.self va_S.rf h1
-- X10_tickOnce
theorem inX10_tickOnce_X10 : ∀ w ∈ u_ws RX10 TX10 23, w ∈ wsX10_tickOnce := k_lays 113 rfl
theorem lkX10_tickOnce_7 : Cond.fieldLink RX10 7 "FerryRampModel" "state" "[I" ∈ wsX10_tickOnce := List.mem_of_getElem? (i := 1) rfl
theorem hdX10_winch : yX10_winch.cls = RX10 ∧ yX10_winch.cls ≠ "java/lang/invoke/MethodHandle" ∧ yX10_winch.cls ≠ "java/lang/invoke/VarHandle" ∧ (parseMethodDescriptor yX10_winch.desc).map (fun d => d.parameters.length) = some 0 := by decide +kernel
theorem hdX10_admit : yX10_admit.cls = RX10 ∧ yX10_admit.cls ≠ "java/lang/invoke/MethodHandle" ∧ yX10_admit.cls ≠ "java/lang/invoke/VarHandle" ∧ (parseMethodDescriptor yX10_admit.desc).map (fun d => d.parameters.length) = some 0 := by decide +kernel
theorem hdX10_drive : yX10_drive.cls = RX10 ∧ yX10_drive.cls ≠ "java/lang/invoke/MethodHandle" ∧ yX10_drive.cls ≠ "java/lang/invoke/VarHandle" ∧ (parseMethodDescriptor yX10_drive.desc).map (fun d => d.parameters.length) = some 0 := by decide +kernel
abbrev rmX10_tickOnce : Room := { frames := 9, cells := 0, slots := 0, locals := 204 }
def fX10_tickOnce_b28 (u : Nat → Int32) : Option ((Nat → Int32)) :=
  (if (u 4) = (-1) then (if (u 14) ≤ 0 then some u else bnd (fX10_admit u) (fun u49 => some u49)) else some u)
set_option maxHeartbeats 4000000 in
set_option maxRecDepth 100000 in
theorem tX10_tickOnce_b28 {p : Program} {l : Launch} {e : Env} {s : State} {m : MethodId} {args : Array Value} {below : List Frame} {meth : Method} {c : Code} {D : va_G} {cy : Nat → ClassId} {A : Nat → Prop} {h : Nat} {a : Nat} {rs : List Value} (K : (Nat → Int32) → Prop) (E : mE D cy RX10 cX10_tickOnce 1 none wsX10_tickOnce A p s m args meth c)
     (u : Nat → Int32) (H : Heap) (locs : List Loc) (ls : Array Slot) (hl : lv_has ls 1 [(0, .ref h)]) (hP : va_P D vwCl (wM0 cy h a rs u) H) (hD : va_D A (wM0 cy h a rs u)) (hS : va_S A s.heap H locs) (h1 : Ok (fX10_tickOnce_b28 u) K) :
    kW p l e rmX10_tickOnce s m args below meth c H locs (va_Qv K (fun q => kPost D A (wM0 cy h a rs q)) A) A 28 ls [] := by
  obtain ⟨hx, hb, hr, hml, hown, hts, hlocks, hK, hA⟩ := id E
  unfold fX10_tickOnce_b28 at h1
  refine lv_aload_n hx hb dX10_tickOnce_28 rfl (lv_at hl 0 rfl) ?_
  refine k_get (v := .ref a) (C := RX10) (T := TX10) (N := 23) hx hb hts inX10_tickOnce_X10 hown hK hP 0 (wM0_a0 _ _ _ _ _) rfl 0 (by decide) lkX10_tickOnce_7 (m0Fs_0 _ _) dX10_tickOnce_29 ?_
  refine lv_iconst (v := 4) hx hb dX10_tickOnce_32 rfl ?_
  refine k_iald (k := 4) hx hb hK hP 1 (wM0_a1 _ _ _ _ _) rfl rfl dX10_tickOnce_33 ?_
  refine lv_iconst (v := (-1)) hx hb dX10_tickOnce_34 rfl ?_
  refine lv_icmp_ne (tgt := 52) hx hb dX10_tickOnce_35 (by decide) (fun c35 => ?_) (fun c35 => ?_)
  · replace h1 := Ok.neg c35 h1
    exact kret_v hx hb hr hlocks hP hD hS h1 dX10_tickOnce_52
  · replace h1 := Ok.pos c35 h1
    refine lv_aload_n hx hb dX10_tickOnce_38 rfl (lv_at hl 0 rfl) ?_
    refine k_get (v := .ref a) (C := RX10) (T := TX10) (N := 23) hx hb hts inX10_tickOnce_X10 hown hK hP 0 (wM0_a0 _ _ _ _ _) rfl 0 (by decide) lkX10_tickOnce_7 (m0Fs_0 _ _) dX10_tickOnce_39 ?_
    refine lv_bipush (v := 14) hx hb dX10_tickOnce_42 rfl ?_
    refine k_iald (k := 14) hx hb hK hP 1 (wM0_a1 _ _ _ _ _) rfl rfl dX10_tickOnce_44 ?_
    refine lv_if_le (tgt := 52) hx hb dX10_tickOnce_45 (by decide) (fun c45 => ?_) (fun c45 => ?_)
    · replace h1 := Ok.pos c45 h1
      exact kret_v hx hb hr hlocks hP hD hS h1 dX10_tickOnce_52
    · replace h1 := Ok.neg c45 h1
      refine lv_aload_n hx hb dX10_tickOnce_48 rfl (lv_at hl 0 rfl) ?_
      refine kc_vV0 (b := h) (As := []) (rest := []) h1 ⟨hx, hb, hml, hown, hts⟩ (cX10_admitM l D cy h a rs H.size u) (cwV 0 hts gX10_tickOnce_X10_admit rfl rfl rfl hdX10_admit ⟨Nat.le_of_ble_eq_true rfl, Nat.le_of_ble_eq_true rfl⟩) hK hP hD hS hA (q0 := 0) rfl rfl rfl hl.1 rfl (Nat.le_of_ble_eq_true rfl) dX10_tickOnce_49 ⟨Nat.zero_le _, Nat.zero_le _⟩ (fun u49 H locs h1 hP hD hS => ?_)
      exact kret_v hx hb hr hlocks hP hD hS h1 dX10_tickOnce_52
def fX10_tickOnce_b0 (u : Nat → Int32) : Option ((Nat → Int32)) :=
  bnd (fX10_winch (upd u 0 ((u 0) + 1))) (fun u11 => (if (u11 4) = (-1) then fX10_tickOnce_b28 u11 else bnd (fX10_drive u11) (fun u25 => fX10_tickOnce_b28 u25)))
set_option maxHeartbeats 4000000 in
set_option maxRecDepth 100000 in
theorem tX10_tickOnce_b0 {p : Program} {l : Launch} {e : Env} {s : State} {m : MethodId} {args : Array Value} {below : List Frame} {meth : Method} {c : Code} {D : va_G} {cy : Nat → ClassId} {A : Nat → Prop} {h : Nat} {a : Nat} {rs : List Value} (K : (Nat → Int32) → Prop) (E : mE D cy RX10 cX10_tickOnce 1 none wsX10_tickOnce A p s m args meth c)
     (u : Nat → Int32) (H : Heap) (locs : List Loc) (ls : Array Slot) (hl : lv_has ls 1 [(0, .ref h)]) (hP : va_P D vwCl (wM0 cy h a rs u) H) (hD : va_D A (wM0 cy h a rs u)) (hS : va_S A s.heap H locs) (h1 : Ok (fX10_tickOnce_b0 u) K) :
    kW p l e rmX10_tickOnce s m args below meth c H locs (va_Qv K (fun q => kPost D A (wM0 cy h a rs q)) A) A 0 ls [] := by
  obtain ⟨hx, hb, hr, hml, hown, hts, hlocks, hK, hA⟩ := id E
  unfold fX10_tickOnce_b0 at h1
  refine lv_aload_n hx hb dX10_tickOnce_0 rfl (lv_at hl 0 rfl) ?_
  refine k_get (v := .ref a) (C := RX10) (T := TX10) (N := 23) hx hb hts inX10_tickOnce_X10 hown hK hP 0 (wM0_a0 _ _ _ _ _) rfl 0 (by decide) lkX10_tickOnce_7 (m0Fs_0 _ _) dX10_tickOnce_1 ?_
  refine lv_iconst (v := 0) hx hb dX10_tickOnce_4 rfl ?_
  refine lv_dup2_11 hx hb dX10_tickOnce_5 rfl rfl ?_
  refine k_iald (k := 0) hx hb hK hP 1 (wM0_a1 _ _ _ _ _) rfl rfl dX10_tickOnce_6 ?_
  refine lv_iconst (v := 1) hx hb dX10_tickOnce_7 rfl ?_
  refine lv_iadd hx hb dX10_tickOnce_8 ?_
  refine k_iast (k := 0) (ws' := wM0 cy h a rs (upd u 0 ((u 0) + 1))) hx hb hK hP hD hS 1 (wM0_a1 _ _ _ _ _) rfl rfl (wM0_upd _ _ _ _ _ _ _) dX10_tickOnce_9 (fun H locs hP hD hS => ?_)
  refine lv_aload_n hx hb dX10_tickOnce_10 rfl (lv_at hl 0 rfl) ?_
  refine kc_vV0 (b := h) (As := []) (rest := []) h1 ⟨hx, hb, hml, hown, hts⟩ (cX10_winchM l D cy h a rs H.size (upd u 0 ((u 0) + 1))) (cwV 0 hts gX10_tickOnce_X10_winch rfl rfl rfl hdX10_winch ⟨Nat.le_of_ble_eq_true rfl, Nat.le_of_ble_eq_true rfl⟩) hK hP hD hS hA (q0 := 0) rfl rfl rfl hl.1 rfl (Nat.le_of_ble_eq_true rfl) dX10_tickOnce_11 ⟨Nat.zero_le _, Nat.zero_le _⟩ (fun u11 H locs h1 hP hD hS => ?_)
  refine lv_aload_n hx hb dX10_tickOnce_14 rfl (lv_at hl 0 rfl) ?_
  refine k_get (v := .ref a) (C := RX10) (T := TX10) (N := 23) hx hb hts inX10_tickOnce_X10 hown hK hP 0 (wM0_a0 _ _ _ _ _) rfl 0 (by decide) lkX10_tickOnce_7 (m0Fs_0 _ _) dX10_tickOnce_15 ?_
  refine lv_iconst (v := 4) hx hb dX10_tickOnce_18 rfl ?_
  refine k_iald (k := 4) hx hb hK hP 1 (wM0_a1 _ _ _ _ _) rfl rfl dX10_tickOnce_19 ?_
  refine lv_iconst (v := (-1)) hx hb dX10_tickOnce_20 rfl ?_
  refine lv_icmp_eq (tgt := 28) hx hb dX10_tickOnce_21 (by decide) (fun c21 => ?_) (fun c21 => ?_)
  · replace h1 := Ok.pos c21 h1
    exact tX10_tickOnce_b28 K E u11 H locs ls (lv_sub hl [0] rfl) hP hD hS h1
  · replace h1 := Ok.neg c21 h1
    refine lv_aload_n hx hb dX10_tickOnce_24 rfl (lv_at hl 0 rfl) ?_
    refine kc_vV0 (b := h) (As := []) (rest := []) h1 ⟨hx, hb, hml, hown, hts⟩ (cX10_driveM l D cy h a rs H.size u11) (cwV 0 hts gX10_tickOnce_X10_drive rfl rfl rfl hdX10_drive ⟨Nat.le_of_ble_eq_true rfl, Nat.le_of_ble_eq_true rfl⟩) hK hP hD hS hA (q0 := 0) rfl rfl rfl hl.1 rfl (Nat.le_of_ble_eq_true rfl) dX10_tickOnce_25 ⟨Nat.zero_le _, Nat.zero_le _⟩ (fun u25 H locs h1 hP hD hS => ?_)
    exact tX10_tickOnce_b28 K E u25 H locs ls (lv_sub hl [0] rfl) hP hD hS h1
def fX10_tickOnce (u : Nat → Int32) : Option ((Nat → Int32)) := fX10_tickOnce_b0 u
set_option maxHeartbeats 4000000 in
set_option maxRecDepth 100000 in
theorem cX10_tickOnceM (l : Launch) (D : va_G) (cy : Nat → ClassId) (h : Nat) (a : Nat) (rs : List Value) (sz : Nat) (u : Nat → Int32) : ∀ (K : (Nat → Int32) → Prop), Ok (fX10_tickOnce u) K → Met l yX10_tickOnce wsX10_tickOnce rmX10_tickOnce (va_Pc [.ref h] (kPre D cy sz (wM0 cy h a rs u))) (va_Qv K (fun q => kPost D (va_A (wM0 cy h a rs u) sz) (wM0 cy h a rs q)) (va_A (wM0 cy h a rs u) sz)) 0 0 (va_A (wM0 cy h a rs u) sz) := by
  intro K h1
  refine Met.ofW (cc := cX10_tickOnce) (maxL := 1) (ret := none) (by decide) rfl ?_
  intro p e s m args below meth c s₁ B hml hv
  obtain ⟨rfl, hsz, hP, hK, hD0⟩ := hv
  subst hsz
  have E : mE D cy RX10 cX10_tickOnce 1 none wsX10_tickOnce (va_A (wM0 cy h a rs u) s.heap.size) p s m _ meth c := ⟨B.exec, B.bytes, B.returns, hml, findClass_of_methodNamed B.named, atoms_spec (ws := wsX10_tickOnce) B.pre, B.notSynchronized, hK, fun q h => Or.inr h⟩
  have hl := lv_entry ([.ref h]) (n := 1) (Nat.le_of_ble_eq_true rfl)
  rw [lg_entry_eq]
  generalize (lg_sl ([.ref h]) ++ List.replicate (1 - (lg_sl ([.ref h])).length) Slot.unset).toArray = ls at hl ⊢
  exact tX10_tickOnce_b0 K E u _ _ _ hl hP hD0.self va_S.rf h1
-- X10_tickMany
theorem inX10_tickMany_X10 : ∀ w ∈ u_ws RX10 TX10 23, w ∈ wsX10_tickMany := k_lays 117 rfl
theorem lkX10_tickMany_7 : Cond.fieldLink RX10 7 "FerryRampModel" "state" "[I" ∈ wsX10_tickMany := List.mem_of_getElem? (i := 1) rfl
theorem hdX10_tickOnce : yX10_tickOnce.cls = RX10 ∧ yX10_tickOnce.cls ≠ "java/lang/invoke/MethodHandle" ∧ yX10_tickOnce.cls ≠ "java/lang/invoke/VarHandle" ∧ (parseMethodDescriptor yX10_tickOnce.desc).map (fun d => d.parameters.length) = some 0 := by decide +kernel
abbrev rmX10_tickMany : Room := { frames := 10, cells := 0, slots := 0, locals := 224 }
def fX10_tickMany_b10 (k10 : Int32 × Int32 × Int32 × (Nat → Int32) → Option (Int32 × (Nat → Int32))) (x1 : Int32) (x2 : Int32) (x3 : Int32) (u : Nat → Int32) : Option (Int32 × (Nat → Int32)) :=
  (if x1 ≤ x3 then some ((u 9) - x2, u) else bnd (fX10_tickOnce u) (fun u16 => k10 (x1, x2, x3 + 1, u16)))
set_option maxHeartbeats 4000000 in
set_option maxRecDepth 100000 in
theorem tX10_tickMany_b10 {p : Program} {l : Launch} {e : Env} {s : State} {m : MethodId} {args : Array Value} {below : List Frame} {meth : Method} {c : Code} {D : va_G} {cy : Nat → ClassId} {A : Nat → Prop} {h : Nat} {a : Nat} {rs : List Value} (K : Int32 × (Nat → Int32) → Prop) (E : mE D cy RX10 cX10_tickMany 4 (some .int) wsX10_tickMany A p s m args meth c)
    (k10 : Int32 × Int32 × Int32 × (Nat → Int32) → Option (Int32 × (Nat → Int32))) (hk10 : ∀ (x1 : Int32) (x2 : Int32) (x3 : Int32) (u : Nat → Int32) (H : Heap) (locs : List Loc) (ls : Array Slot), lv_has ls 4 [(0, .ref h), (1, .int x1), (2, .int x2), (3, .int x3)] → va_P D vwCl (wM0 cy h a rs u) H → va_D A (wM0 cy h a rs u) → va_S A s.heap H locs → Ok (k10 (x1, x2, x3, u)) K → kW p l e rmX10_tickMany s m args below meth c H locs (va_Qi (fun r q => K (r, q)) (fun q => kPost D A (wM0 cy h a rs q)) A) A 10 ls [])
     (x1 : Int32) (x2 : Int32) (x3 : Int32) (u : Nat → Int32) (H : Heap) (locs : List Loc) (ls : Array Slot) (hl : lv_has ls 4 [(0, .ref h), (1, .int x1), (2, .int x2), (3, .int x3)]) (hP : va_P D vwCl (wM0 cy h a rs u) H) (hD : va_D A (wM0 cy h a rs u)) (hS : va_S A s.heap H locs) (h1 : Ok (fX10_tickMany_b10 k10 x1 x2 x3 u) K) :
    kW p l e rmX10_tickMany s m args below meth c H locs (va_Qi (fun r q => K (r, q)) (fun q => kPost D A (wM0 cy h a rs q)) A) A 10 ls [] := by
  obtain ⟨hx, hb, hr, hml, hown, hts, hlocks, hK, hA⟩ := id E
  unfold fX10_tickMany_b10 at h1
  refine lv_iload_n hx hb dX10_tickMany_10 rfl (lv_at hl 3 rfl) ?_
  refine lv_iload_n hx hb dX10_tickMany_11 rfl (lv_at hl 1 rfl) ?_
  refine lv_icmp_ge (tgt := 25) hx hb dX10_tickMany_12 (by decide) (fun c12 => ?_) (fun c12 => ?_)
  · replace h1 := Ok.pos c12 h1
    refine lv_aload_n hx hb dX10_tickMany_25 rfl (lv_at hl 0 rfl) ?_
    refine k_get (v := .ref a) (C := RX10) (T := TX10) (N := 23) hx hb hts inX10_tickMany_X10 hown hK hP 0 (wM0_a0 _ _ _ _ _) rfl 0 (by decide) lkX10_tickMany_7 (m0Fs_0 _ _) dX10_tickMany_26 ?_
    refine lv_bipush (v := 9) hx hb dX10_tickMany_29 rfl ?_
    refine k_iald (k := 9) hx hb hK hP 1 (wM0_a1 _ _ _ _ _) rfl rfl dX10_tickMany_31 ?_
    refine lv_iload_n hx hb dX10_tickMany_32 rfl (lv_at hl 2 rfl) ?_
    refine lv_isub hx hb dX10_tickMany_33 ?_
    exact kret_i hx hb hr hlocks hP hD hS h1 dX10_tickMany_34
  · replace h1 := Ok.neg c12 h1
    refine lv_aload_n hx hb dX10_tickMany_15 rfl (lv_at hl 0 rfl) ?_
    refine kc_vV0 (b := h) (As := []) (rest := []) h1 ⟨hx, hb, hml, hown, hts⟩ (cX10_tickOnceM l D cy h a rs H.size u) (cwV 0 hts gX10_tickMany_X10_tickOnce rfl rfl rfl hdX10_tickOnce ⟨Nat.le_of_ble_eq_true rfl, Nat.le_of_ble_eq_true rfl⟩) hK hP hD hS hA (q0 := 0) rfl rfl rfl hl.1 rfl (Nat.le_of_ble_eq_true rfl) dX10_tickMany_16 ⟨Nat.zero_le _, Nat.zero_le _⟩ (fun u16 H locs h1 hP hD hS => ?_)
    refine lv_iinc (v := x3 + 1) (lv' := [(3, .int (x3 + 1)), (0, .ref h), (1, .int x1), (2, .int x2)]) hx hb dX10_tickMany_19 hl (k := 3) rfl rfl (by decide) rfl (fun ls hl => ?_)
    refine lv_goto (tgt := 10) hx hb dX10_tickMany_22 (by decide) ?_
    exact hk10 x1 x2 (x3 + 1) u16 H locs ls (lv_sub hl [1, 2, 3, 0] rfl) hP hD hS h1
theorem tX10_tickMany_l10 {p : Program} {l : Launch} {e : Env} {s : State} {m : MethodId} {args : Array Value} {below : List Frame} {meth : Method} {c : Code} {D : va_G} {cy : Nat → ClassId} {A : Nat → Prop} {h : Nat} {a : Nat} {rs : List Value} (K : Int32 × (Nat → Int32) → Prop) (E : mE D cy RX10 cX10_tickMany 4 (some .int) wsX10_tickMany A p s m args meth c) : ∀ (n9 : Nat) (x1 : Int32) (x2 : Int32) (x3 : Int32) (u : Nat → Int32) (H : Heap) (locs : List Loc) (ls : Array Slot), lv_has ls 4 [(0, .ref h), (1, .int x1), (2, .int x2), (3, .int x3)] → va_P D vwCl (wM0 cy h a rs u) H → va_D A (wM0 cy h a rs u) → va_S A s.heap H locs → Ok (lop (fun y z => fX10_tickMany_b10 y z.1 z.2.1 z.2.2.1 z.2.2.2) n9 (x1, x2, x3, u)) K → kW p l e rmX10_tickMany s m args below meth c H locs (va_Qi (fun r q => K (r, q)) (fun q => kPost D A (wM0 cy h a rs q)) A) A 10 ls [] := by
  intro n9
  induction n9 with
  | zero =>
    intro x1 x2 x3 u H locs ls hl hP hD hS h1
    exact h1.no
  | succ n9 ih =>
    intro x1 x2 x3 u H locs ls hl hP hD hS h1
    exact tX10_tickMany_b10 K E (lop (fun y z => fX10_tickMany_b10 y z.1 z.2.1 z.2.2.1 z.2.2.2) n9) (fun x1 x2 x3 u H locs ls hl hP hD hS h1 => ih x1 x2 x3 u H locs ls hl hP hD hS h1) x1 x2 x3 u H locs ls hl hP hD hS h1
def fX10_tickMany_b0 (x1 : Int32) (u : Nat → Int32) : Option (Int32 × (Nat → Int32)) :=
  lop (fun y z => fX10_tickMany_b10 y z.1 z.2.1 z.2.2.1 z.2.2.2) LF (x1, u 9, 0, u)
set_option maxHeartbeats 4000000 in
set_option maxRecDepth 100000 in
theorem tX10_tickMany_b0 {p : Program} {l : Launch} {e : Env} {s : State} {m : MethodId} {args : Array Value} {below : List Frame} {meth : Method} {c : Code} {D : va_G} {cy : Nat → ClassId} {A : Nat → Prop} {h : Nat} {a : Nat} {rs : List Value} (K : Int32 × (Nat → Int32) → Prop) (E : mE D cy RX10 cX10_tickMany 4 (some .int) wsX10_tickMany A p s m args meth c)
     (x1 : Int32) (u : Nat → Int32) (H : Heap) (locs : List Loc) (ls : Array Slot) (hl : lv_has ls 4 [(0, .ref h), (1, .int x1)]) (hP : va_P D vwCl (wM0 cy h a rs u) H) (hD : va_D A (wM0 cy h a rs u)) (hS : va_S A s.heap H locs) (h1 : Ok (fX10_tickMany_b0 x1 u) K) :
    kW p l e rmX10_tickMany s m args below meth c H locs (va_Qi (fun r q => K (r, q)) (fun q => kPost D A (wM0 cy h a rs q)) A) A 0 ls [] := by
  obtain ⟨hx, hb, hr, hml, hown, hts, hlocks, hK, hA⟩ := id E
  unfold fX10_tickMany_b0 at h1
  refine lv_aload_n hx hb dX10_tickMany_0 rfl (lv_at hl 0 rfl) ?_
  refine k_get (v := .ref a) (C := RX10) (T := TX10) (N := 23) hx hb hts inX10_tickMany_X10 hown hK hP 0 (wM0_a0 _ _ _ _ _) rfl 0 (by decide) lkX10_tickMany_7 (m0Fs_0 _ _) dX10_tickMany_1 ?_
  refine lv_bipush (v := 9) hx hb dX10_tickMany_4 rfl ?_
  refine k_iald (k := 9) hx hb hK hP 1 (wM0_a1 _ _ _ _ _) rfl rfl dX10_tickMany_6 ?_
  refine lv_istore_n (lv' := [(2, .int (u 9)), (0, .ref h), (1, .int x1)]) hx hb dX10_tickMany_7 rfl hl (by decide) rfl (fun ls hl => ?_)
  refine lv_iconst (v := 0) hx hb dX10_tickMany_8 rfl ?_
  refine lv_istore_n (lv' := [(3, .int 0), (2, .int (u 9)), (0, .ref h), (1, .int x1)]) hx hb dX10_tickMany_9 rfl hl (by decide) rfl (fun ls hl => ?_)
  exact tX10_tickMany_l10 K E LF x1 (u 9) 0 u H locs ls (lv_sub hl [2, 3, 1, 0] rfl) hP hD hS h1
def fX10_tickMany (p1 : Int32) (u : Nat → Int32) : Option (Int32 × (Nat → Int32)) := fX10_tickMany_b0 p1 u
set_option maxHeartbeats 4000000 in
set_option maxRecDepth 100000 in
theorem cX10_tickManyM (l : Launch) (D : va_G) (cy : Nat → ClassId) (h : Nat) (a : Nat) (rs : List Value) (sz : Nat) (u : Nat → Int32) (p1 : Int32) : ∀ (K : Int32 → (Nat → Int32) → Prop), Ok (fX10_tickMany p1 u) (fun q => K q.1 q.2) → Met l yX10_tickMany wsX10_tickMany rmX10_tickMany (va_Pc [.ref h, .int p1] (kPre D cy sz (wM0 cy h a rs u))) (va_Qi K (fun q => kPost D (va_A (wM0 cy h a rs u) sz) (wM0 cy h a rs q)) (va_A (wM0 cy h a rs u) sz)) 0 0 (va_A (wM0 cy h a rs u) sz) := by
  intro K h1
  refine Met.ofW (cc := cX10_tickMany) (maxL := 4) (ret := (some .int)) (by decide) rfl ?_
  intro p e s m args below meth c s₁ B hml hv
  obtain ⟨rfl, hsz, hP, hK, hD0⟩ := hv
  subst hsz
  have E : mE D cy RX10 cX10_tickMany 4 (some .int) wsX10_tickMany (va_A (wM0 cy h a rs u) s.heap.size) p s m _ meth c := ⟨B.exec, B.bytes, B.returns, hml, findClass_of_methodNamed B.named, atoms_spec (ws := wsX10_tickMany) B.pre, B.notSynchronized, hK, fun q h => Or.inr h⟩
  have hl := lv_entry ([.ref h, .int p1]) (n := 4) (Nat.le_of_ble_eq_true rfl)
  rw [lg_entry_eq]
  generalize (lg_sl ([.ref h, .int p1]) ++ List.replicate (4 - (lg_sl ([.ref h, .int p1])).length) Slot.unset).toArray = ls at hl ⊢
  exact tX10_tickMany_b0 (fun q => K q.1 q.2) E p1 u _ _ _ hl hP hD0.self va_S.rf h1
-- X10_addCar
theorem inX10_addCar_X10 : ∀ w ∈ u_ws RX10 TX10 23, w ∈ wsX10_addCar := k_lays 7 rfl
theorem lkX10_addCar_7 : Cond.fieldLink RX10 7 "FerryRampModel" "state" "[I" ∈ wsX10_addCar := List.mem_of_getElem? (i := 1) rfl
abbrev rmX10_addCar : Room := { frames := 1, cells := 0, slots := 0, locals := 23 }
def fX10_addCar_b0 (x1 : Int32) (x2 : Int32) (u : Nat → Int32) : Option (Int32 × (Nat → Int32)) :=
  bnd (fX10_layCar (u 13) 0 x1 (upd u 13 ((u 13) + 1))) (fun u23 => bnd (fX10_layCar (u 13) 1 x2 u23) (fun u30 => bnd (fX10_layCar (u 13) 2 0 u30) (fun u37 => bnd (fX10_layCar (u 13) 3 (-1) u37) (fun u44 => bnd (fX10_layCar (u 13) 4 (u44 0) u44) (fun u56 => bnd (fX10_layCar (u 13) 5 (-1) u56) (fun u63 => bnd (fX10_layCar (u 13) 6 (-1) u63) (fun u71 => grd (inb (41 + (u71 14)) 561) (some (u 13, upd (upd u71 (ix (41 + (u71 14))) (u 13)) 14 (((upd u71 (ix (41 + (u71 14))) (u 13)) 14) + 1))))))))))
set_option maxHeartbeats 4000000 in
set_option maxRecDepth 100000 in
theorem tX10_addCar_b0 {p : Program} {l : Launch} {e : Env} {s : State} {m : MethodId} {args : Array Value} {below : List Frame} {meth : Method} {c : Code} {D : va_G} {cy : Nat → ClassId} {A : Nat → Prop} {h : Nat} {a : Nat} {rs : List Value} (K : Int32 × (Nat → Int32) → Prop) (E : mE D cy RX10 cX10_addCar 4 (some .int) wsX10_addCar A p s m args meth c)
     (x1 : Int32) (x2 : Int32) (u : Nat → Int32) (H : Heap) (locs : List Loc) (ls : Array Slot) (hl : lv_has ls 4 [(0, .ref h), (1, .int x1), (2, .int x2)]) (hP : va_P D vwCl (wM0 cy h a rs u) H) (hD : va_D A (wM0 cy h a rs u)) (hS : va_S A s.heap H locs) (h1 : Ok (fX10_addCar_b0 x1 x2 u) K) :
    kW p l e rmX10_addCar s m args below meth c H locs (va_Qi (fun r q => K (r, q)) (fun q => kPost D A (wM0 cy h a rs q)) A) A 0 ls [] := by
  obtain ⟨hx, hb, hr, hml, hown, hts, hlocks, hK, hA⟩ := id E
  unfold fX10_addCar_b0 at h1
  refine lv_aload_n hx hb dX10_addCar_0 rfl (lv_at hl 0 rfl) ?_
  refine k_get (v := .ref a) (C := RX10) (T := TX10) (N := 23) hx hb hts inX10_addCar_X10 hown hK hP 0 (wM0_a0 _ _ _ _ _) rfl 0 (by decide) lkX10_addCar_7 (m0Fs_0 _ _) dX10_addCar_1 ?_
  refine lv_bipush (v := 13) hx hb dX10_addCar_4 rfl ?_
  refine k_iald (k := 13) hx hb hK hP 1 (wM0_a1 _ _ _ _ _) rfl rfl dX10_addCar_6 ?_
  refine lv_istore_n (lv' := [(3, .int (u 13)), (0, .ref h), (1, .int x1), (2, .int x2)]) hx hb dX10_addCar_7 rfl hl (by decide) rfl (fun ls hl => ?_)
  refine lv_aload_n hx hb dX10_addCar_8 rfl (lv_at hl 1 rfl) ?_
  refine k_get (v := .ref a) (C := RX10) (T := TX10) (N := 23) hx hb hts inX10_addCar_X10 hown hK hP 0 (wM0_a0 _ _ _ _ _) rfl 0 (by decide) lkX10_addCar_7 (m0Fs_0 _ _) dX10_addCar_9 ?_
  refine lv_bipush (v := 13) hx hb dX10_addCar_12 rfl ?_
  refine lv_dup2_11 hx hb dX10_addCar_14 rfl rfl ?_
  refine k_iald (k := 13) hx hb hK hP 1 (wM0_a1 _ _ _ _ _) rfl rfl dX10_addCar_15 ?_
  refine lv_iconst (v := 1) hx hb dX10_addCar_16 rfl ?_
  refine lv_iadd hx hb dX10_addCar_17 ?_
  refine k_iast (k := 13) (ws' := wM0 cy h a rs (upd u 13 ((u 13) + 1))) hx hb hK hP hD hS 1 (wM0_a1 _ _ _ _ _) rfl rfl (wM0_upd _ _ _ _ _ _ _) dX10_addCar_18 (fun H locs hP hD hS => ?_)
  refine lv_aload_n hx hb dX10_addCar_19 rfl (lv_at hl 1 rfl) ?_
  refine lv_iload_n hx hb dX10_addCar_20 rfl (lv_at hl 0 rfl) ?_
  refine lv_iconst (v := 0) hx hb dX10_addCar_21 rfl ?_
  refine lv_iload_n hx hb dX10_addCar_22 rfl (lv_at hl 2 rfl) ?_
  refine kc_vV0 (b := h) (As := [.int (u 13), .int 0, .int x1]) (rest := []) h1 ⟨hx, hb, hml, hown, hts⟩ (cX10_layCarM l D cy h a rs H.size (upd u 13 ((u 13) + 1)) (u 13) 0 x1) (cwV 3 hts gX10_addCar_X10_layCar rfl rfl rfl hdX10_layCar ⟨Nat.le_of_ble_eq_true rfl, Nat.le_of_ble_eq_true rfl⟩) hK hP hD hS hA (q0 := 0) rfl rfl rfl hl.1 rfl (Nat.le_of_ble_eq_true rfl) dX10_addCar_23 ⟨Nat.zero_le _, Nat.zero_le _⟩ (fun u23 H locs h1 hP hD hS => ?_)
  refine lv_aload_n hx hb dX10_addCar_26 rfl (lv_at hl 1 rfl) ?_
  refine lv_iload_n hx hb dX10_addCar_27 rfl (lv_at hl 0 rfl) ?_
  refine lv_iconst (v := 1) hx hb dX10_addCar_28 rfl ?_
  refine lv_iload_n hx hb dX10_addCar_29 rfl (lv_at hl 3 rfl) ?_
  refine kc_vV0 (b := h) (As := [.int (u 13), .int 1, .int x2]) (rest := []) h1 ⟨hx, hb, hml, hown, hts⟩ (cX10_layCarM l D cy h a rs H.size u23 (u 13) 1 x2) (cwV 3 hts gX10_addCar_X10_layCar rfl rfl rfl hdX10_layCar ⟨Nat.le_of_ble_eq_true rfl, Nat.le_of_ble_eq_true rfl⟩) hK hP hD hS hA (q0 := 0) rfl rfl rfl hl.1 rfl (Nat.le_of_ble_eq_true rfl) dX10_addCar_30 ⟨Nat.zero_le _, Nat.zero_le _⟩ (fun u30 H locs h1 hP hD hS => ?_)
  refine lv_aload_n hx hb dX10_addCar_33 rfl (lv_at hl 1 rfl) ?_
  refine lv_iload_n hx hb dX10_addCar_34 rfl (lv_at hl 0 rfl) ?_
  refine lv_iconst (v := 2) hx hb dX10_addCar_35 rfl ?_
  refine lv_iconst (v := 0) hx hb dX10_addCar_36 rfl ?_
  refine kc_vV0 (b := h) (As := [.int (u 13), .int 2, .int 0]) (rest := []) h1 ⟨hx, hb, hml, hown, hts⟩ (cX10_layCarM l D cy h a rs H.size u30 (u 13) 2 0) (cwV 3 hts gX10_addCar_X10_layCar rfl rfl rfl hdX10_layCar ⟨Nat.le_of_ble_eq_true rfl, Nat.le_of_ble_eq_true rfl⟩) hK hP hD hS hA (q0 := 0) rfl rfl rfl hl.1 rfl (Nat.le_of_ble_eq_true rfl) dX10_addCar_37 ⟨Nat.zero_le _, Nat.zero_le _⟩ (fun u37 H locs h1 hP hD hS => ?_)
  refine lv_aload_n hx hb dX10_addCar_40 rfl (lv_at hl 1 rfl) ?_
  refine lv_iload_n hx hb dX10_addCar_41 rfl (lv_at hl 0 rfl) ?_
  refine lv_iconst (v := 3) hx hb dX10_addCar_42 rfl ?_
  refine lv_iconst (v := (-1)) hx hb dX10_addCar_43 rfl ?_
  refine kc_vV0 (b := h) (As := [.int (u 13), .int 3, .int (-1)]) (rest := []) h1 ⟨hx, hb, hml, hown, hts⟩ (cX10_layCarM l D cy h a rs H.size u37 (u 13) 3 (-1)) (cwV 3 hts gX10_addCar_X10_layCar rfl rfl rfl hdX10_layCar ⟨Nat.le_of_ble_eq_true rfl, Nat.le_of_ble_eq_true rfl⟩) hK hP hD hS hA (q0 := 0) rfl rfl rfl hl.1 rfl (Nat.le_of_ble_eq_true rfl) dX10_addCar_44 ⟨Nat.zero_le _, Nat.zero_le _⟩ (fun u44 H locs h1 hP hD hS => ?_)
  refine lv_aload_n hx hb dX10_addCar_47 rfl (lv_at hl 1 rfl) ?_
  refine lv_iload_n hx hb dX10_addCar_48 rfl (lv_at hl 0 rfl) ?_
  refine lv_iconst (v := 4) hx hb dX10_addCar_49 rfl ?_
  refine lv_aload_n hx hb dX10_addCar_50 rfl (lv_at hl 1 rfl) ?_
  refine k_get (v := .ref a) (C := RX10) (T := TX10) (N := 23) hx hb hts inX10_addCar_X10 hown hK hP 0 (wM0_a0 _ _ _ _ _) rfl 0 (by decide) lkX10_addCar_7 (m0Fs_0 _ _) dX10_addCar_51 ?_
  refine lv_iconst (v := 0) hx hb dX10_addCar_54 rfl ?_
  refine k_iald (k := 0) hx hb hK hP 1 (wM0_a1 _ _ _ _ _) rfl rfl dX10_addCar_55 ?_
  refine kc_vV0 (b := h) (As := [.int (u 13), .int 4, .int (u44 0)]) (rest := []) h1 ⟨hx, hb, hml, hown, hts⟩ (cX10_layCarM l D cy h a rs H.size u44 (u 13) 4 (u44 0)) (cwV 3 hts gX10_addCar_X10_layCar rfl rfl rfl hdX10_layCar ⟨Nat.le_of_ble_eq_true rfl, Nat.le_of_ble_eq_true rfl⟩) hK hP hD hS hA (q0 := 0) rfl rfl rfl hl.1 rfl (Nat.le_of_ble_eq_true rfl) dX10_addCar_56 ⟨Nat.zero_le _, Nat.zero_le _⟩ (fun u56 H locs h1 hP hD hS => ?_)
  refine lv_aload_n hx hb dX10_addCar_59 rfl (lv_at hl 1 rfl) ?_
  refine lv_iload_n hx hb dX10_addCar_60 rfl (lv_at hl 0 rfl) ?_
  refine lv_iconst (v := 5) hx hb dX10_addCar_61 rfl ?_
  refine lv_iconst (v := (-1)) hx hb dX10_addCar_62 rfl ?_
  refine kc_vV0 (b := h) (As := [.int (u 13), .int 5, .int (-1)]) (rest := []) h1 ⟨hx, hb, hml, hown, hts⟩ (cX10_layCarM l D cy h a rs H.size u56 (u 13) 5 (-1)) (cwV 3 hts gX10_addCar_X10_layCar rfl rfl rfl hdX10_layCar ⟨Nat.le_of_ble_eq_true rfl, Nat.le_of_ble_eq_true rfl⟩) hK hP hD hS hA (q0 := 0) rfl rfl rfl hl.1 rfl (Nat.le_of_ble_eq_true rfl) dX10_addCar_63 ⟨Nat.zero_le _, Nat.zero_le _⟩ (fun u63 H locs h1 hP hD hS => ?_)
  refine lv_aload_n hx hb dX10_addCar_66 rfl (lv_at hl 1 rfl) ?_
  refine lv_iload_n hx hb dX10_addCar_67 rfl (lv_at hl 0 rfl) ?_
  refine lv_bipush (v := 6) hx hb dX10_addCar_68 rfl ?_
  refine lv_iconst (v := (-1)) hx hb dX10_addCar_70 rfl ?_
  refine kc_vV0 (b := h) (As := [.int (u 13), .int 6, .int (-1)]) (rest := []) h1 ⟨hx, hb, hml, hown, hts⟩ (cX10_layCarM l D cy h a rs H.size u63 (u 13) 6 (-1)) (cwV 3 hts gX10_addCar_X10_layCar rfl rfl rfl hdX10_layCar ⟨Nat.le_of_ble_eq_true rfl, Nat.le_of_ble_eq_true rfl⟩) hK hP hD hS hA (q0 := 0) rfl rfl rfl hl.1 rfl (Nat.le_of_ble_eq_true rfl) dX10_addCar_71 ⟨Nat.zero_le _, Nat.zero_le _⟩ (fun u71 H locs h1 hP hD hS => ?_)
  refine lv_aload_n hx hb dX10_addCar_74 rfl (lv_at hl 1 rfl) ?_
  refine k_get (v := .ref a) (C := RX10) (T := TX10) (N := 23) hx hb hts inX10_addCar_X10 hown hK hP 0 (wM0_a0 _ _ _ _ _) rfl 0 (by decide) lkX10_addCar_7 (m0Fs_0 _ _) dX10_addCar_75 ?_
  refine lv_bipush (v := 41) hx hb dX10_addCar_78 rfl ?_
  refine lv_aload_n hx hb dX10_addCar_80 rfl (lv_at hl 1 rfl) ?_
  refine k_get (v := .ref a) (C := RX10) (T := TX10) (N := 23) hx hb hts inX10_addCar_X10 hown hK hP 0 (wM0_a0 _ _ _ _ _) rfl 0 (by decide) lkX10_addCar_7 (m0Fs_0 _ _) dX10_addCar_81 ?_
  refine lv_bipush (v := 14) hx hb dX10_addCar_84 rfl ?_
  refine k_iald (k := 14) hx hb hK hP 1 (wM0_a1 _ _ _ _ _) rfl rfl dX10_addCar_86 ?_
  refine lv_iadd hx hb dX10_addCar_87 ?_
  refine lv_iload_n hx hb dX10_addCar_88 rfl (lv_at hl 0 rfl) ?_
  have g89 := h1.grd1
  replace h1 := h1.grd2
  refine k_iast (k := (ix (41 + (u71 14)))) (ws' := wM0 cy h a rs (upd u71 (ix (41 + (u71 14))) (u 13))) hx hb hK hP hD hS 1 (wM0_a1 _ _ _ _ _) g89 rfl (wM0_upd _ _ _ _ _ _ _) dX10_addCar_89 (fun H locs hP hD hS => ?_)
  refine lv_aload_n hx hb dX10_addCar_90 rfl (lv_at hl 1 rfl) ?_
  refine k_get (v := .ref a) (C := RX10) (T := TX10) (N := 23) hx hb hts inX10_addCar_X10 hown hK hP 0 (wM0_a0 _ _ _ _ _) rfl 0 (by decide) lkX10_addCar_7 (m0Fs_0 _ _) dX10_addCar_91 ?_
  refine lv_bipush (v := 14) hx hb dX10_addCar_94 rfl ?_
  refine lv_dup2_11 hx hb dX10_addCar_96 rfl rfl ?_
  refine k_iald (k := 14) hx hb hK hP 1 (wM0_a1 _ _ _ _ _) rfl rfl dX10_addCar_97 ?_
  refine lv_iconst (v := 1) hx hb dX10_addCar_98 rfl ?_
  refine lv_iadd hx hb dX10_addCar_99 ?_
  refine k_iast (k := 14) (ws' := wM0 cy h a rs (upd (upd u71 (ix (41 + (u71 14))) (u 13)) 14 (((upd u71 (ix (41 + (u71 14))) (u 13)) 14) + 1))) hx hb hK hP hD hS 1 (wM0_a1 _ _ _ _ _) rfl rfl (wM0_upd _ _ _ _ _ _ _) dX10_addCar_100 (fun H locs hP hD hS => ?_)
  refine lv_iload_n hx hb dX10_addCar_101 rfl (lv_at hl 0 rfl) ?_
  exact kret_i hx hb hr hlocks hP hD hS h1 dX10_addCar_102
def fX10_addCar (p1 : Int32) (p2 : Int32) (u : Nat → Int32) : Option (Int32 × (Nat → Int32)) := fX10_addCar_b0 p1 p2 u
set_option maxHeartbeats 4000000 in
set_option maxRecDepth 100000 in
theorem cX10_addCarM (l : Launch) (D : va_G) (cy : Nat → ClassId) (h : Nat) (a : Nat) (rs : List Value) (sz : Nat) (u : Nat → Int32) (p1 : Int32) (p2 : Int32) : ∀ (K : Int32 → (Nat → Int32) → Prop), Ok (fX10_addCar p1 p2 u) (fun q => K q.1 q.2) → Met l yX10_addCar wsX10_addCar rmX10_addCar (va_Pc [.ref h, .int p1, .int p2] (kPre D cy sz (wM0 cy h a rs u))) (va_Qi K (fun q => kPost D (va_A (wM0 cy h a rs u) sz) (wM0 cy h a rs q)) (va_A (wM0 cy h a rs u) sz)) 0 0 (va_A (wM0 cy h a rs u) sz) := by
  intro K h1
  refine Met.ofW (cc := cX10_addCar) (maxL := 4) (ret := (some .int)) (by decide) rfl ?_
  intro p e s m args below meth c s₁ B hml hv
  obtain ⟨rfl, hsz, hP, hK, hD0⟩ := hv
  subst hsz
  have E : mE D cy RX10 cX10_addCar 4 (some .int) wsX10_addCar (va_A (wM0 cy h a rs u) s.heap.size) p s m _ meth c := ⟨B.exec, B.bytes, B.returns, hml, findClass_of_methodNamed B.named, atoms_spec (ws := wsX10_addCar) B.pre, B.notSynchronized, hK, fun q h => Or.inr h⟩
  have hl := lv_entry ([.ref h, .int p1, .int p2]) (n := 4) (Nat.le_of_ble_eq_true rfl)
  rw [lg_entry_eq]
  generalize (lg_sl ([.ref h, .int p1, .int p2]) ++ List.replicate (4 - (lg_sl ([.ref h, .int p1, .int p2])).length) Slot.unset).toArray = ls at hl ⊢
  exact tX10_addCar_b0 (fun q => K q.1 q.2) E p1 p2 u _ _ _ hl hP hD0.self va_S.rf h1
-- X10_onDeck
theorem inX10_onDeck_X10 : ∀ w ∈ u_ws RX10 TX10 23, w ∈ wsX10_onDeck := k_lays 7 rfl
theorem lkX10_onDeck_7 : Cond.fieldLink RX10 7 "FerryRampModel" "state" "[I" ∈ wsX10_onDeck := List.mem_of_getElem? (i := 1) rfl
abbrev rmX10_onDeck : Room := { frames := 1, cells := 0, slots := 0, locals := 22 }
def fX10_onDeck_b31 (k4 : Int32 × Int32 → Option (Int32)) (x2 : Int32) (s0 : Int32) (s1 : Int32) (u : Nat → Int32) : Option (Int32) :=
  k4 (s0 + s1, x2 + 1)
set_option maxHeartbeats 4000000 in
set_option maxRecDepth 100000 in
theorem tX10_onDeck_b31 {p : Program} {l : Launch} {e : Env} {s : State} {m : MethodId} {args : Array Value} {below : List Frame} {meth : Method} {c : Code} {D : va_G} {cy : Nat → ClassId} {A : Nat → Prop} {h : Nat} {a : Nat} {rs : List Value} (K : Int32 → Prop) (E : mE D cy RX10 cX10_onDeck 3 (some .int) wsX10_onDeck A p s m args meth c) (u : Nat → Int32)
    (k4 : Int32 × Int32 → Option (Int32)) (hk4 : ∀ (x1 : Int32) (x2 : Int32) (H : Heap) (locs : List Loc) (ls : Array Slot), lv_has ls 3 [(0, .ref h), (1, .int x1), (2, .int x2)] → va_P D vwCl (wM0 cy h a rs u) H → va_D A (wM0 cy h a rs u) → va_S A s.heap H locs → Ok (k4 (x1, x2)) K → kW p l e rmX10_onDeck s m args below meth c H locs (va_Qi (fun r (_ : Unit) => K r) (fun _ => kPost D A (wM0 cy h a rs u)) A) A 4 ls [])
     (x2 : Int32) (s0 : Int32) (s1 : Int32) (H : Heap) (locs : List Loc) (ls : Array Slot) (hl : lv_has ls 3 [(0, .ref h), (2, .int x2)]) (hP : va_P D vwCl (wM0 cy h a rs u) H) (hD : va_D A (wM0 cy h a rs u)) (hS : va_S A s.heap H locs) (h1 : Ok (fX10_onDeck_b31 k4 x2 s0 s1 u) K) :
    kW p l e rmX10_onDeck s m args below meth c H locs (va_Qi (fun r (_ : Unit) => K r) (fun _ => kPost D A (wM0 cy h a rs u)) A) A 31 ls [.int s1, .int s0] := by
  obtain ⟨hx, hb, hr, hml, hown, hts, hlocks, hK, hA⟩ := id E
  unfold fX10_onDeck_b31 at h1
  refine lv_iadd hx hb dX10_onDeck_31 ?_
  refine lv_istore_n (lv' := [(1, .int (s0 + s1)), (0, .ref h), (2, .int x2)]) hx hb dX10_onDeck_32 rfl hl (by decide) rfl (fun ls hl => ?_)
  refine lv_iinc (v := x2 + 1) (lv' := [(2, .int (x2 + 1)), (1, .int (s0 + s1)), (0, .ref h)]) hx hb dX10_onDeck_33 hl (k := 2) rfl rfl (by decide) rfl (fun ls hl => ?_)
  refine lv_goto (tgt := 4) hx hb dX10_onDeck_36 (by decide) ?_
  exact hk4 (s0 + s1) (x2 + 1) H locs ls (lv_sub hl [2, 1, 0] rfl) hP hD hS h1
def fX10_onDeck_b4 (k4 : Int32 × Int32 → Option (Int32)) (x1 : Int32) (x2 : Int32) (u : Nat → Int32) : Option (Int32) :=
  (if (u 13) ≤ x2 then some x1 else bnd (fX10_ofCar x2 2 u) (fun r19 => (if r19 = 2 then fX10_onDeck_b31 k4 x2 x1 1 u else fX10_onDeck_b31 k4 x2 x1 0 u)))
set_option maxHeartbeats 4000000 in
set_option maxRecDepth 100000 in
theorem tX10_onDeck_b4 {p : Program} {l : Launch} {e : Env} {s : State} {m : MethodId} {args : Array Value} {below : List Frame} {meth : Method} {c : Code} {D : va_G} {cy : Nat → ClassId} {A : Nat → Prop} {h : Nat} {a : Nat} {rs : List Value} (K : Int32 → Prop) (E : mE D cy RX10 cX10_onDeck 3 (some .int) wsX10_onDeck A p s m args meth c) (u : Nat → Int32)
    (k4 : Int32 × Int32 → Option (Int32)) (hk4 : ∀ (x1 : Int32) (x2 : Int32) (H : Heap) (locs : List Loc) (ls : Array Slot), lv_has ls 3 [(0, .ref h), (1, .int x1), (2, .int x2)] → va_P D vwCl (wM0 cy h a rs u) H → va_D A (wM0 cy h a rs u) → va_S A s.heap H locs → Ok (k4 (x1, x2)) K → kW p l e rmX10_onDeck s m args below meth c H locs (va_Qi (fun r (_ : Unit) => K r) (fun _ => kPost D A (wM0 cy h a rs u)) A) A 4 ls [])
     (x1 : Int32) (x2 : Int32) (H : Heap) (locs : List Loc) (ls : Array Slot) (hl : lv_has ls 3 [(0, .ref h), (1, .int x1), (2, .int x2)]) (hP : va_P D vwCl (wM0 cy h a rs u) H) (hD : va_D A (wM0 cy h a rs u)) (hS : va_S A s.heap H locs) (h1 : Ok (fX10_onDeck_b4 k4 x1 x2 u) K) :
    kW p l e rmX10_onDeck s m args below meth c H locs (va_Qi (fun r (_ : Unit) => K r) (fun _ => kPost D A (wM0 cy h a rs u)) A) A 4 ls [] := by
  obtain ⟨hx, hb, hr, hml, hown, hts, hlocks, hK, hA⟩ := id E
  unfold fX10_onDeck_b4 at h1
  refine lv_iload_n hx hb dX10_onDeck_4 rfl (lv_at hl 2 rfl) ?_
  refine lv_aload_n hx hb dX10_onDeck_5 rfl (lv_at hl 0 rfl) ?_
  refine k_get (v := .ref a) (C := RX10) (T := TX10) (N := 23) hx hb hts inX10_onDeck_X10 hown hK hP 0 (wM0_a0 _ _ _ _ _) rfl 0 (by decide) lkX10_onDeck_7 (m0Fs_0 _ _) dX10_onDeck_6 ?_
  refine lv_bipush (v := 13) hx hb dX10_onDeck_9 rfl ?_
  refine k_iald (k := 13) hx hb hK hP 1 (wM0_a1 _ _ _ _ _) rfl rfl dX10_onDeck_11 ?_
  refine lv_icmp_ge (tgt := 39) hx hb dX10_onDeck_12 (by decide) (fun c12 => ?_) (fun c12 => ?_)
  · replace h1 := Ok.pos c12 h1
    refine lv_iload_n hx hb dX10_onDeck_39 rfl (lv_at hl 1 rfl) ?_
    exact kret_r hx hb hr hlocks hP hD hS h1 dX10_onDeck_40
  · replace h1 := Ok.neg c12 h1
    refine lv_iload_n hx hb dX10_onDeck_15 rfl (lv_at hl 1 rfl) ?_
    refine lv_aload_n hx hb dX10_onDeck_16 rfl (lv_at hl 0 rfl) ?_
    refine lv_iload_n hx hb dX10_onDeck_17 rfl (lv_at hl 2 rfl) ?_
    refine lv_iconst (v := 2) hx hb dX10_onDeck_18 rfl ?_
    refine kc_rV0 (b := h) (As := [.int x2, .int 2]) (rest := [.int x1]) h1 ⟨hx, hb, hml, hown, hts⟩ (cX10_ofCarM l D cy h a rs H.size u x2 2) (cwV 2 hts gX10_onDeck_X10_ofCar rfl rfl rfl hdX10_ofCar ⟨Nat.le_of_ble_eq_true rfl, Nat.le_of_ble_eq_true rfl⟩) hK hP hD hS hA (q0 := 0) rfl rfl rfl hl.1 rfl (Nat.le_of_ble_eq_true rfl) dX10_onDeck_19 ⟨Nat.zero_le _, Nat.zero_le _⟩ (fun r19 H locs h1 hP hS => ?_)
    refine lv_iconst (v := 2) hx hb dX10_onDeck_22 rfl ?_
    refine lv_icmp_ne (tgt := 30) hx hb dX10_onDeck_23 (by decide) (fun c23 => ?_) (fun c23 => ?_)
    · replace h1 := Ok.neg c23 h1
      refine lv_iconst (v := 0) hx hb dX10_onDeck_30 rfl ?_
      exact tX10_onDeck_b31 K E u k4 hk4 x2 x1 0 H locs ls (lv_sub hl [0, 2] rfl) hP hD hS h1
    · replace h1 := Ok.pos c23 h1
      refine lv_iconst (v := 1) hx hb dX10_onDeck_26 rfl ?_
      refine lv_goto (tgt := 31) hx hb dX10_onDeck_27 (by decide) ?_
      exact tX10_onDeck_b31 K E u k4 hk4 x2 x1 1 H locs ls (lv_sub hl [0, 2] rfl) hP hD hS h1
theorem tX10_onDeck_l4 {p : Program} {l : Launch} {e : Env} {s : State} {m : MethodId} {args : Array Value} {below : List Frame} {meth : Method} {c : Code} {D : va_G} {cy : Nat → ClassId} {A : Nat → Prop} {h : Nat} {a : Nat} {rs : List Value} (K : Int32 → Prop) (E : mE D cy RX10 cX10_onDeck 3 (some .int) wsX10_onDeck A p s m args meth c) (u : Nat → Int32) : ∀ (n9 : Nat) (x1 : Int32) (x2 : Int32) (H : Heap) (locs : List Loc) (ls : Array Slot), lv_has ls 3 [(0, .ref h), (1, .int x1), (2, .int x2)] → va_P D vwCl (wM0 cy h a rs u) H → va_D A (wM0 cy h a rs u) → va_S A s.heap H locs → Ok (lop (fun y z => fX10_onDeck_b4 y z.1 z.2 u) n9 (x1, x2)) K → kW p l e rmX10_onDeck s m args below meth c H locs (va_Qi (fun r (_ : Unit) => K r) (fun _ => kPost D A (wM0 cy h a rs u)) A) A 4 ls [] := by
  intro n9
  induction n9 with
  | zero =>
    intro x1 x2 H locs ls hl hP hD hS h1
    exact h1.no
  | succ n9 ih =>
    intro x1 x2 H locs ls hl hP hD hS h1
    exact tX10_onDeck_b4 K E u (lop (fun y z => fX10_onDeck_b4 y z.1 z.2 u) n9) (fun x1 x2 H locs ls hl hP hD hS h1 => ih x1 x2 H locs ls hl hP hD hS h1) x1 x2 H locs ls hl hP hD hS h1
def fX10_onDeck_b0 (u : Nat → Int32) : Option (Int32) :=
  lop (fun y z => fX10_onDeck_b4 y z.1 z.2 u) LF (0, 0)
set_option maxHeartbeats 4000000 in
set_option maxRecDepth 100000 in
theorem tX10_onDeck_b0 {p : Program} {l : Launch} {e : Env} {s : State} {m : MethodId} {args : Array Value} {below : List Frame} {meth : Method} {c : Code} {D : va_G} {cy : Nat → ClassId} {A : Nat → Prop} {h : Nat} {a : Nat} {rs : List Value} (K : Int32 → Prop) (E : mE D cy RX10 cX10_onDeck 3 (some .int) wsX10_onDeck A p s m args meth c) (u : Nat → Int32)
     (H : Heap) (locs : List Loc) (ls : Array Slot) (hl : lv_has ls 3 [(0, .ref h)]) (hP : va_P D vwCl (wM0 cy h a rs u) H) (hD : va_D A (wM0 cy h a rs u)) (hS : va_S A s.heap H locs) (h1 : Ok (fX10_onDeck_b0 u) K) :
    kW p l e rmX10_onDeck s m args below meth c H locs (va_Qi (fun r (_ : Unit) => K r) (fun _ => kPost D A (wM0 cy h a rs u)) A) A 0 ls [] := by
  obtain ⟨hx, hb, hr, hml, hown, hts, hlocks, hK, hA⟩ := id E
  unfold fX10_onDeck_b0 at h1
  refine lv_iconst (v := 0) hx hb dX10_onDeck_0 rfl ?_
  refine lv_istore_n (lv' := [(1, .int 0), (0, .ref h)]) hx hb dX10_onDeck_1 rfl hl (by decide) rfl (fun ls hl => ?_)
  refine lv_iconst (v := 0) hx hb dX10_onDeck_2 rfl ?_
  refine lv_istore_n (lv' := [(2, .int 0), (1, .int 0), (0, .ref h)]) hx hb dX10_onDeck_3 rfl hl (by decide) rfl (fun ls hl => ?_)
  exact tX10_onDeck_l4 K E u LF 0 0 H locs ls (lv_sub hl [2, 1, 0] rfl) hP hD hS h1
def fX10_onDeck (u : Nat → Int32) : Option (Int32) := fX10_onDeck_b0 u
set_option maxHeartbeats 4000000 in
set_option maxRecDepth 100000 in
theorem cX10_onDeckM (l : Launch) (D : va_G) (cy : Nat → ClassId) (h : Nat) (a : Nat) (rs : List Value) (sz : Nat) (u : Nat → Int32) : ∀ (K : Int32 → Prop), Ok (fX10_onDeck u) K → Met l yX10_onDeck wsX10_onDeck rmX10_onDeck (va_Pc [.ref h] (kPre D cy sz (wM0 cy h a rs u))) (va_Qi (fun r (_ : Unit) => K r) (fun _ => kPost D (va_A (wM0 cy h a rs u) sz) (wM0 cy h a rs u)) (va_A (wM0 cy h a rs u) sz)) 0 0 (va_A (wM0 cy h a rs u) sz) := by
  intro K h1
  refine Met.ofW (cc := cX10_onDeck) (maxL := 3) (ret := (some .int)) (by decide) rfl ?_
  intro p e s m args below meth c s₁ B hml hv
  obtain ⟨rfl, hsz, hP, hK, hD0⟩ := hv
  subst hsz
  have E : mE D cy RX10 cX10_onDeck 3 (some .int) wsX10_onDeck (va_A (wM0 cy h a rs u) s.heap.size) p s m _ meth c := ⟨B.exec, B.bytes, B.returns, hml, findClass_of_methodNamed B.named, atoms_spec (ws := wsX10_onDeck) B.pre, B.notSynchronized, hK, fun q h => Or.inr h⟩
  have hl := lv_entry ([.ref h]) (n := 3) (Nat.le_of_ble_eq_true rfl)
  rw [lg_entry_eq]
  generalize (lg_sl ([.ref h]) ++ List.replicate (3 - (lg_sl ([.ref h])).length) Slot.unset).toArray = ls at hl ⊢
  exact tX10_onDeck_b0 K E u _ _ _ hl hP hD0.self va_S.rf h1
-- X10_aheadOf
theorem inX10_aheadOf_X10 : ∀ w ∈ u_ws RX10 TX10 23, w ∈ wsX10_aheadOf := k_lays 7 rfl
theorem lkX10_aheadOf_7 : Cond.fieldLink RX10 7 "FerryRampModel" "state" "[I" ∈ wsX10_aheadOf := List.mem_of_getElem? (i := 1) rfl
abbrev rmX10_aheadOf : Room := { frames := 1, cells := 0, slots := 0, locals := 22 }
def fX10_aheadOf_b73 (k5 : Int32 × Int32 × Int32 × Int32 → Option (Int32)) (x1 : Int32) (x2 : Int32) (x4 : Int32) (s0 : Int32) (s1 : Int32) (u : Nat → Int32) : Option (Int32) :=
  k5 (x1, x2, s0 + s1, x4 + 1)
set_option maxHeartbeats 4000000 in
set_option maxRecDepth 100000 in
theorem tX10_aheadOf_b73 {p : Program} {l : Launch} {e : Env} {s : State} {m : MethodId} {args : Array Value} {below : List Frame} {meth : Method} {c : Code} {D : va_G} {cy : Nat → ClassId} {A : Nat → Prop} {h : Nat} {a : Nat} {rs : List Value} (K : Int32 → Prop) (E : mE D cy RX10 cX10_aheadOf 6 (some .int) wsX10_aheadOf A p s m args meth c) (u : Nat → Int32)
    (k5 : Int32 × Int32 × Int32 × Int32 → Option (Int32)) (hk5 : ∀ (x1 : Int32) (x2 : Int32) (x3 : Int32) (x4 : Int32) (H : Heap) (locs : List Loc) (ls : Array Slot), lv_has ls 6 [(0, .ref h), (1, .int x1), (2, .int x2), (3, .int x3), (4, .int x4)] → va_P D vwCl (wM0 cy h a rs u) H → va_D A (wM0 cy h a rs u) → va_S A s.heap H locs → Ok (k5 (x1, x2, x3, x4)) K → kW p l e rmX10_aheadOf s m args below meth c H locs (va_Qi (fun r (_ : Unit) => K r) (fun _ => kPost D A (wM0 cy h a rs u)) A) A 5 ls [])
     (x1 : Int32) (x2 : Int32) (x4 : Int32) (s0 : Int32) (s1 : Int32) (H : Heap) (locs : List Loc) (ls : Array Slot) (hl : lv_has ls 6 [(0, .ref h), (1, .int x1), (2, .int x2), (4, .int x4)]) (hP : va_P D vwCl (wM0 cy h a rs u) H) (hD : va_D A (wM0 cy h a rs u)) (hS : va_S A s.heap H locs) (h1 : Ok (fX10_aheadOf_b73 k5 x1 x2 x4 s0 s1 u) K) :
    kW p l e rmX10_aheadOf s m args below meth c H locs (va_Qi (fun r (_ : Unit) => K r) (fun _ => kPost D A (wM0 cy h a rs u)) A) A 73 ls [.int s1, .int s0] := by
  obtain ⟨hx, hb, hr, hml, hown, hts, hlocks, hK, hA⟩ := id E
  unfold fX10_aheadOf_b73 at h1
  refine lv_iadd hx hb dX10_aheadOf_73 ?_
  refine lv_istore_n (lv' := [(3, .int (s0 + s1)), (0, .ref h), (1, .int x1), (2, .int x2), (4, .int x4)]) hx hb dX10_aheadOf_74 rfl hl (by decide) rfl (fun ls hl => ?_)
  refine lv_iinc (v := x4 + 1) (lv' := [(4, .int (x4 + 1)), (3, .int (s0 + s1)), (0, .ref h), (1, .int x1), (2, .int x2)]) hx hb dX10_aheadOf_75 hl (k := 4) rfl rfl (by decide) rfl (fun ls hl => ?_)
  refine lv_goto (tgt := 5) hx hb dX10_aheadOf_78 (by decide) ?_
  exact hk5 x1 x2 (s0 + s1) (x4 + 1) H locs ls (lv_sub hl [2, 3, 4, 1, 0] rfl) hP hD hS h1
def fX10_aheadOf_b72 (k5 : Int32 × Int32 × Int32 × Int32 → Option (Int32)) (x1 : Int32) (x2 : Int32) (x4 : Int32) (s0 : Int32) (u : Nat → Int32) : Option (Int32) :=
  fX10_aheadOf_b73 k5 x1 x2 x4 s0 0 u
set_option maxHeartbeats 4000000 in
set_option maxRecDepth 100000 in
theorem tX10_aheadOf_b72 {p : Program} {l : Launch} {e : Env} {s : State} {m : MethodId} {args : Array Value} {below : List Frame} {meth : Method} {c : Code} {D : va_G} {cy : Nat → ClassId} {A : Nat → Prop} {h : Nat} {a : Nat} {rs : List Value} (K : Int32 → Prop) (E : mE D cy RX10 cX10_aheadOf 6 (some .int) wsX10_aheadOf A p s m args meth c) (u : Nat → Int32)
    (k5 : Int32 × Int32 × Int32 × Int32 → Option (Int32)) (hk5 : ∀ (x1 : Int32) (x2 : Int32) (x3 : Int32) (x4 : Int32) (H : Heap) (locs : List Loc) (ls : Array Slot), lv_has ls 6 [(0, .ref h), (1, .int x1), (2, .int x2), (3, .int x3), (4, .int x4)] → va_P D vwCl (wM0 cy h a rs u) H → va_D A (wM0 cy h a rs u) → va_S A s.heap H locs → Ok (k5 (x1, x2, x3, x4)) K → kW p l e rmX10_aheadOf s m args below meth c H locs (va_Qi (fun r (_ : Unit) => K r) (fun _ => kPost D A (wM0 cy h a rs u)) A) A 5 ls [])
     (x1 : Int32) (x2 : Int32) (x4 : Int32) (s0 : Int32) (H : Heap) (locs : List Loc) (ls : Array Slot) (hl : lv_has ls 6 [(0, .ref h), (1, .int x1), (2, .int x2), (4, .int x4)]) (hP : va_P D vwCl (wM0 cy h a rs u) H) (hD : va_D A (wM0 cy h a rs u)) (hS : va_S A s.heap H locs) (h1 : Ok (fX10_aheadOf_b72 k5 x1 x2 x4 s0 u) K) :
    kW p l e rmX10_aheadOf s m args below meth c H locs (va_Qi (fun r (_ : Unit) => K r) (fun _ => kPost D A (wM0 cy h a rs u)) A) A 72 ls [.int s0] := by
  obtain ⟨hx, hb, hr, hml, hown, hts, hlocks, hK, hA⟩ := id E
  unfold fX10_aheadOf_b72 at h1
  refine lv_iconst (v := 0) hx hb dX10_aheadOf_72 rfl ?_
  exact tX10_aheadOf_b73 K E u k5 hk5 x1 x2 x4 s0 0 H locs ls (lv_sub hl [0, 1, 2, 3] rfl) hP hD hS h1
def fX10_aheadOf_b44 (k5 : Int32 × Int32 × Int32 × Int32 → Option (Int32)) (x1 : Int32) (x2 : Int32) (x3 : Int32) (x4 : Int32) (s0 : Int32) (u : Nat → Int32) : Option (Int32) :=
  (if s0 = 0 then fX10_aheadOf_b72 k5 x1 x2 x4 x3 u else bnd (fX10_ofCar x4 5 u) (fun r56 => bnd (fX10_ofCar x1 5 u) (fun r62 => (if r62 ≤ r56 then fX10_aheadOf_b72 k5 x1 x2 x4 x3 u else fX10_aheadOf_b73 k5 x1 x2 x4 x3 1 u))))
set_option maxHeartbeats 4000000 in
set_option maxRecDepth 100000 in
theorem tX10_aheadOf_b44 {p : Program} {l : Launch} {e : Env} {s : State} {m : MethodId} {args : Array Value} {below : List Frame} {meth : Method} {c : Code} {D : va_G} {cy : Nat → ClassId} {A : Nat → Prop} {h : Nat} {a : Nat} {rs : List Value} (K : Int32 → Prop) (E : mE D cy RX10 cX10_aheadOf 6 (some .int) wsX10_aheadOf A p s m args meth c) (u : Nat → Int32)
    (k5 : Int32 × Int32 × Int32 × Int32 → Option (Int32)) (hk5 : ∀ (x1 : Int32) (x2 : Int32) (x3 : Int32) (x4 : Int32) (H : Heap) (locs : List Loc) (ls : Array Slot), lv_has ls 6 [(0, .ref h), (1, .int x1), (2, .int x2), (3, .int x3), (4, .int x4)] → va_P D vwCl (wM0 cy h a rs u) H → va_D A (wM0 cy h a rs u) → va_S A s.heap H locs → Ok (k5 (x1, x2, x3, x4)) K → kW p l e rmX10_aheadOf s m args below meth c H locs (va_Qi (fun r (_ : Unit) => K r) (fun _ => kPost D A (wM0 cy h a rs u)) A) A 5 ls [])
     (x1 : Int32) (x2 : Int32) (x3 : Int32) (x4 : Int32) (s0 : Int32) (H : Heap) (locs : List Loc) (ls : Array Slot) (hl : lv_has ls 6 [(0, .ref h), (1, .int x1), (2, .int x2), (3, .int x3), (4, .int x4)]) (hP : va_P D vwCl (wM0 cy h a rs u) H) (hD : va_D A (wM0 cy h a rs u)) (hS : va_S A s.heap H locs) (h1 : Ok (fX10_aheadOf_b44 k5 x1 x2 x3 x4 s0 u) K) :
    kW p l e rmX10_aheadOf s m args below meth c H locs (va_Qi (fun r (_ : Unit) => K r) (fun _ => kPost D A (wM0 cy h a rs u)) A) A 44 ls [.int s0] := by
  obtain ⟨hx, hb, hr, hml, hown, hts, hlocks, hK, hA⟩ := id E
  unfold fX10_aheadOf_b44 at h1
  refine lv_istore (lv' := [(5, .int s0), (0, .ref h), (1, .int x1), (2, .int x2), (3, .int x3), (4, .int x4)]) hx hb dX10_aheadOf_44 hl (by decide) rfl (fun ls hl => ?_)
  refine lv_iload_n hx hb dX10_aheadOf_46 rfl (lv_at hl 4 rfl) ?_
  refine lv_iload hx hb dX10_aheadOf_47 (lv_at hl 0 rfl) ?_
  refine lv_if_eq (tgt := 72) hx hb dX10_aheadOf_49 (by decide) (fun c49 => ?_) (fun c49 => ?_)
  · replace h1 := Ok.pos c49 h1
    exact tX10_aheadOf_b72 K E u k5 hk5 x1 x2 x4 x3 H locs ls (lv_sub hl [1, 2, 3, 5] rfl) hP hD hS h1
  · replace h1 := Ok.neg c49 h1
    refine lv_aload_n hx hb dX10_aheadOf_52 rfl (lv_at hl 1 rfl) ?_
    refine lv_iload hx hb dX10_aheadOf_53 (lv_at hl 5 rfl) ?_
    refine lv_iconst (v := 5) hx hb dX10_aheadOf_55 rfl ?_
    refine kc_rV0 (b := h) (As := [.int x4, .int 5]) (rest := [.int x3]) h1 ⟨hx, hb, hml, hown, hts⟩ (cX10_ofCarM l D cy h a rs H.size u x4 5) (cwV 2 hts gX10_aheadOf_X10_ofCar rfl rfl rfl hdX10_ofCar ⟨Nat.le_of_ble_eq_true rfl, Nat.le_of_ble_eq_true rfl⟩) hK hP hD hS hA (q0 := 0) rfl rfl rfl hl.1 rfl (Nat.le_of_ble_eq_true rfl) dX10_aheadOf_56 ⟨Nat.zero_le _, Nat.zero_le _⟩ (fun r56 H locs h1 hP hS => ?_)
    refine lv_aload_n hx hb dX10_aheadOf_59 rfl (lv_at hl 1 rfl) ?_
    refine lv_iload_n hx hb dX10_aheadOf_60 rfl (lv_at hl 2 rfl) ?_
    refine lv_iconst (v := 5) hx hb dX10_aheadOf_61 rfl ?_
    refine kc_rV0 (b := h) (As := [.int x1, .int 5]) (rest := [.int r56, .int x3]) h1 ⟨hx, hb, hml, hown, hts⟩ (cX10_ofCarM l D cy h a rs H.size u x1 5) (cwV 2 hts gX10_aheadOf_X10_ofCar rfl rfl rfl hdX10_ofCar ⟨Nat.le_of_ble_eq_true rfl, Nat.le_of_ble_eq_true rfl⟩) hK hP hD hS hA (q0 := 0) rfl rfl rfl hl.1 rfl (Nat.le_of_ble_eq_true rfl) dX10_aheadOf_62 ⟨Nat.zero_le _, Nat.zero_le _⟩ (fun r62 H locs h1 hP hS => ?_)
    refine lv_icmp_ge (tgt := 72) hx hb dX10_aheadOf_65 (by decide) (fun c65 => ?_) (fun c65 => ?_)
    · replace h1 := Ok.pos c65 h1
      exact tX10_aheadOf_b72 K E u k5 hk5 x1 x2 x4 x3 H locs ls (lv_sub hl [1, 2, 3, 5] rfl) hP hD hS h1
    · replace h1 := Ok.neg c65 h1
      refine lv_iconst (v := 1) hx hb dX10_aheadOf_68 rfl ?_
      refine lv_goto (tgt := 73) hx hb dX10_aheadOf_69 (by decide) ?_
      exact tX10_aheadOf_b73 K E u k5 hk5 x1 x2 x4 x3 1 H locs ls (lv_sub hl [1, 2, 3, 5] rfl) hP hD hS h1
def fX10_aheadOf_b43 (k5 : Int32 × Int32 × Int32 × Int32 → Option (Int32)) (x1 : Int32) (x2 : Int32) (x3 : Int32) (x4 : Int32) (u : Nat → Int32) : Option (Int32) :=
  fX10_aheadOf_b44 k5 x1 x2 x3 x4 0 u
set_option maxHeartbeats 4000000 in
set_option maxRecDepth 100000 in
theorem tX10_aheadOf_b43 {p : Program} {l : Launch} {e : Env} {s : State} {m : MethodId} {args : Array Value} {below : List Frame} {meth : Method} {c : Code} {D : va_G} {cy : Nat → ClassId} {A : Nat → Prop} {h : Nat} {a : Nat} {rs : List Value} (K : Int32 → Prop) (E : mE D cy RX10 cX10_aheadOf 6 (some .int) wsX10_aheadOf A p s m args meth c) (u : Nat → Int32)
    (k5 : Int32 × Int32 × Int32 × Int32 → Option (Int32)) (hk5 : ∀ (x1 : Int32) (x2 : Int32) (x3 : Int32) (x4 : Int32) (H : Heap) (locs : List Loc) (ls : Array Slot), lv_has ls 6 [(0, .ref h), (1, .int x1), (2, .int x2), (3, .int x3), (4, .int x4)] → va_P D vwCl (wM0 cy h a rs u) H → va_D A (wM0 cy h a rs u) → va_S A s.heap H locs → Ok (k5 (x1, x2, x3, x4)) K → kW p l e rmX10_aheadOf s m args below meth c H locs (va_Qi (fun r (_ : Unit) => K r) (fun _ => kPost D A (wM0 cy h a rs u)) A) A 5 ls [])
     (x1 : Int32) (x2 : Int32) (x3 : Int32) (x4 : Int32) (H : Heap) (locs : List Loc) (ls : Array Slot) (hl : lv_has ls 6 [(0, .ref h), (1, .int x1), (2, .int x2), (3, .int x3), (4, .int x4)]) (hP : va_P D vwCl (wM0 cy h a rs u) H) (hD : va_D A (wM0 cy h a rs u)) (hS : va_S A s.heap H locs) (h1 : Ok (fX10_aheadOf_b43 k5 x1 x2 x3 x4 u) K) :
    kW p l e rmX10_aheadOf s m args below meth c H locs (va_Qi (fun r (_ : Unit) => K r) (fun _ => kPost D A (wM0 cy h a rs u)) A) A 43 ls [] := by
  obtain ⟨hx, hb, hr, hml, hown, hts, hlocks, hK, hA⟩ := id E
  unfold fX10_aheadOf_b43 at h1
  refine lv_iconst (v := 0) hx hb dX10_aheadOf_43 rfl ?_
  exact tX10_aheadOf_b44 K E u k5 hk5 x1 x2 x3 x4 0 H locs ls (lv_sub hl [0, 1, 2, 3, 4] rfl) hP hD hS h1
def fX10_aheadOf_b5 (k5 : Int32 × Int32 × Int32 × Int32 → Option (Int32)) (x1 : Int32) (x2 : Int32) (x3 : Int32) (x4 : Int32) (u : Nat → Int32) : Option (Int32) :=
  (if (u 13) ≤ x4 then some x3 else bnd (fX10_ofCar x4 2 u) (fun r21 => (if r21 = 2 then bnd (fX10_ofCar x4 3 u) (fun r32 => (if r32 = x2 then fX10_aheadOf_b44 k5 x1 x2 x3 x4 1 u else fX10_aheadOf_b43 k5 x1 x2 x3 x4 u)) else fX10_aheadOf_b43 k5 x1 x2 x3 x4 u)))
set_option maxHeartbeats 4000000 in
set_option maxRecDepth 100000 in
theorem tX10_aheadOf_b5 {p : Program} {l : Launch} {e : Env} {s : State} {m : MethodId} {args : Array Value} {below : List Frame} {meth : Method} {c : Code} {D : va_G} {cy : Nat → ClassId} {A : Nat → Prop} {h : Nat} {a : Nat} {rs : List Value} (K : Int32 → Prop) (E : mE D cy RX10 cX10_aheadOf 6 (some .int) wsX10_aheadOf A p s m args meth c) (u : Nat → Int32)
    (k5 : Int32 × Int32 × Int32 × Int32 → Option (Int32)) (hk5 : ∀ (x1 : Int32) (x2 : Int32) (x3 : Int32) (x4 : Int32) (H : Heap) (locs : List Loc) (ls : Array Slot), lv_has ls 6 [(0, .ref h), (1, .int x1), (2, .int x2), (3, .int x3), (4, .int x4)] → va_P D vwCl (wM0 cy h a rs u) H → va_D A (wM0 cy h a rs u) → va_S A s.heap H locs → Ok (k5 (x1, x2, x3, x4)) K → kW p l e rmX10_aheadOf s m args below meth c H locs (va_Qi (fun r (_ : Unit) => K r) (fun _ => kPost D A (wM0 cy h a rs u)) A) A 5 ls [])
     (x1 : Int32) (x2 : Int32) (x3 : Int32) (x4 : Int32) (H : Heap) (locs : List Loc) (ls : Array Slot) (hl : lv_has ls 6 [(0, .ref h), (1, .int x1), (2, .int x2), (3, .int x3), (4, .int x4)]) (hP : va_P D vwCl (wM0 cy h a rs u) H) (hD : va_D A (wM0 cy h a rs u)) (hS : va_S A s.heap H locs) (h1 : Ok (fX10_aheadOf_b5 k5 x1 x2 x3 x4 u) K) :
    kW p l e rmX10_aheadOf s m args below meth c H locs (va_Qi (fun r (_ : Unit) => K r) (fun _ => kPost D A (wM0 cy h a rs u)) A) A 5 ls [] := by
  obtain ⟨hx, hb, hr, hml, hown, hts, hlocks, hK, hA⟩ := id E
  unfold fX10_aheadOf_b5 at h1
  refine lv_iload hx hb dX10_aheadOf_5 (lv_at hl 4 rfl) ?_
  refine lv_aload_n hx hb dX10_aheadOf_7 rfl (lv_at hl 0 rfl) ?_
  refine k_get (v := .ref a) (C := RX10) (T := TX10) (N := 23) hx hb hts inX10_aheadOf_X10 hown hK hP 0 (wM0_a0 _ _ _ _ _) rfl 0 (by decide) lkX10_aheadOf_7 (m0Fs_0 _ _) dX10_aheadOf_8 ?_
  refine lv_bipush (v := 13) hx hb dX10_aheadOf_11 rfl ?_
  refine k_iald (k := 13) hx hb hK hP 1 (wM0_a1 _ _ _ _ _) rfl rfl dX10_aheadOf_13 ?_
  refine lv_icmp_ge (tgt := 81) hx hb dX10_aheadOf_14 (by decide) (fun c14 => ?_) (fun c14 => ?_)
  · replace h1 := Ok.pos c14 h1
    refine lv_iload_n hx hb dX10_aheadOf_81 rfl (lv_at hl 3 rfl) ?_
    exact kret_r hx hb hr hlocks hP hD hS h1 dX10_aheadOf_82
  · replace h1 := Ok.neg c14 h1
    refine lv_aload_n hx hb dX10_aheadOf_17 rfl (lv_at hl 0 rfl) ?_
    refine lv_iload hx hb dX10_aheadOf_18 (lv_at hl 4 rfl) ?_
    refine lv_iconst (v := 2) hx hb dX10_aheadOf_20 rfl ?_
    refine kc_rV0 (b := h) (As := [.int x4, .int 2]) (rest := []) h1 ⟨hx, hb, hml, hown, hts⟩ (cX10_ofCarM l D cy h a rs H.size u x4 2) (cwV 2 hts gX10_aheadOf_X10_ofCar rfl rfl rfl hdX10_ofCar ⟨Nat.le_of_ble_eq_true rfl, Nat.le_of_ble_eq_true rfl⟩) hK hP hD hS hA (q0 := 0) rfl rfl rfl hl.1 rfl (Nat.le_of_ble_eq_true rfl) dX10_aheadOf_21 ⟨Nat.zero_le _, Nat.zero_le _⟩ (fun r21 H locs h1 hP hS => ?_)
    refine lv_iconst (v := 2) hx hb dX10_aheadOf_24 rfl ?_
    refine lv_icmp_ne (tgt := 43) hx hb dX10_aheadOf_25 (by decide) (fun c25 => ?_) (fun c25 => ?_)
    · replace h1 := Ok.neg c25 h1
      exact tX10_aheadOf_b43 K E u k5 hk5 x1 x2 x3 x4 H locs ls (lv_sub hl [0, 1, 2, 3, 4] rfl) hP hD hS h1
    · replace h1 := Ok.pos c25 h1
      refine lv_aload_n hx hb dX10_aheadOf_28 rfl (lv_at hl 0 rfl) ?_
      refine lv_iload hx hb dX10_aheadOf_29 (lv_at hl 4 rfl) ?_
      refine lv_iconst (v := 3) hx hb dX10_aheadOf_31 rfl ?_
      refine kc_rV0 (b := h) (As := [.int x4, .int 3]) (rest := []) h1 ⟨hx, hb, hml, hown, hts⟩ (cX10_ofCarM l D cy h a rs H.size u x4 3) (cwV 2 hts gX10_aheadOf_X10_ofCar rfl rfl rfl hdX10_ofCar ⟨Nat.le_of_ble_eq_true rfl, Nat.le_of_ble_eq_true rfl⟩) hK hP hD hS hA (q0 := 0) rfl rfl rfl hl.1 rfl (Nat.le_of_ble_eq_true rfl) dX10_aheadOf_32 ⟨Nat.zero_le _, Nat.zero_le _⟩ (fun r32 H locs h1 hP hS => ?_)
      refine lv_iload_n hx hb dX10_aheadOf_35 rfl (lv_at hl 2 rfl) ?_
      refine lv_icmp_ne (tgt := 43) hx hb dX10_aheadOf_36 (by decide) (fun c36 => ?_) (fun c36 => ?_)
      · replace h1 := Ok.neg c36 h1
        exact tX10_aheadOf_b43 K E u k5 hk5 x1 x2 x3 x4 H locs ls (lv_sub hl [0, 1, 2, 3, 4] rfl) hP hD hS h1
      · replace h1 := Ok.pos c36 h1
        refine lv_iconst (v := 1) hx hb dX10_aheadOf_39 rfl ?_
        refine lv_goto (tgt := 44) hx hb dX10_aheadOf_40 (by decide) ?_
        exact tX10_aheadOf_b44 K E u k5 hk5 x1 x2 x3 x4 1 H locs ls (lv_sub hl [0, 1, 2, 3, 4] rfl) hP hD hS h1
theorem tX10_aheadOf_l5 {p : Program} {l : Launch} {e : Env} {s : State} {m : MethodId} {args : Array Value} {below : List Frame} {meth : Method} {c : Code} {D : va_G} {cy : Nat → ClassId} {A : Nat → Prop} {h : Nat} {a : Nat} {rs : List Value} (K : Int32 → Prop) (E : mE D cy RX10 cX10_aheadOf 6 (some .int) wsX10_aheadOf A p s m args meth c) (u : Nat → Int32) : ∀ (n9 : Nat) (x1 : Int32) (x2 : Int32) (x3 : Int32) (x4 : Int32) (H : Heap) (locs : List Loc) (ls : Array Slot), lv_has ls 6 [(0, .ref h), (1, .int x1), (2, .int x2), (3, .int x3), (4, .int x4)] → va_P D vwCl (wM0 cy h a rs u) H → va_D A (wM0 cy h a rs u) → va_S A s.heap H locs → Ok (lop (fun y z => fX10_aheadOf_b5 y z.1 z.2.1 z.2.2.1 z.2.2.2 u) n9 (x1, x2, x3, x4)) K → kW p l e rmX10_aheadOf s m args below meth c H locs (va_Qi (fun r (_ : Unit) => K r) (fun _ => kPost D A (wM0 cy h a rs u)) A) A 5 ls [] := by
  intro n9
  induction n9 with
  | zero =>
    intro x1 x2 x3 x4 H locs ls hl hP hD hS h1
    exact h1.no
  | succ n9 ih =>
    intro x1 x2 x3 x4 H locs ls hl hP hD hS h1
    exact tX10_aheadOf_b5 K E u (lop (fun y z => fX10_aheadOf_b5 y z.1 z.2.1 z.2.2.1 z.2.2.2 u) n9) (fun x1 x2 x3 x4 H locs ls hl hP hD hS h1 => ih x1 x2 x3 x4 H locs ls hl hP hD hS h1) x1 x2 x3 x4 H locs ls hl hP hD hS h1
def fX10_aheadOf_b0 (x1 : Int32) (x2 : Int32) (u : Nat → Int32) : Option (Int32) :=
  lop (fun y z => fX10_aheadOf_b5 y z.1 z.2.1 z.2.2.1 z.2.2.2 u) LF (x1, x2, 0, 0)
set_option maxHeartbeats 4000000 in
set_option maxRecDepth 100000 in
theorem tX10_aheadOf_b0 {p : Program} {l : Launch} {e : Env} {s : State} {m : MethodId} {args : Array Value} {below : List Frame} {meth : Method} {c : Code} {D : va_G} {cy : Nat → ClassId} {A : Nat → Prop} {h : Nat} {a : Nat} {rs : List Value} (K : Int32 → Prop) (E : mE D cy RX10 cX10_aheadOf 6 (some .int) wsX10_aheadOf A p s m args meth c) (u : Nat → Int32)
     (x1 : Int32) (x2 : Int32) (H : Heap) (locs : List Loc) (ls : Array Slot) (hl : lv_has ls 6 [(0, .ref h), (1, .int x1), (2, .int x2)]) (hP : va_P D vwCl (wM0 cy h a rs u) H) (hD : va_D A (wM0 cy h a rs u)) (hS : va_S A s.heap H locs) (h1 : Ok (fX10_aheadOf_b0 x1 x2 u) K) :
    kW p l e rmX10_aheadOf s m args below meth c H locs (va_Qi (fun r (_ : Unit) => K r) (fun _ => kPost D A (wM0 cy h a rs u)) A) A 0 ls [] := by
  obtain ⟨hx, hb, hr, hml, hown, hts, hlocks, hK, hA⟩ := id E
  unfold fX10_aheadOf_b0 at h1
  refine lv_iconst (v := 0) hx hb dX10_aheadOf_0 rfl ?_
  refine lv_istore_n (lv' := [(3, .int 0), (0, .ref h), (1, .int x1), (2, .int x2)]) hx hb dX10_aheadOf_1 rfl hl (by decide) rfl (fun ls hl => ?_)
  refine lv_iconst (v := 0) hx hb dX10_aheadOf_2 rfl ?_
  refine lv_istore (lv' := [(4, .int 0), (3, .int 0), (0, .ref h), (1, .int x1), (2, .int x2)]) hx hb dX10_aheadOf_3 hl (by decide) rfl (fun ls hl => ?_)
  exact tX10_aheadOf_l5 K E u LF x1 x2 0 0 H locs ls (lv_sub hl [2, 3, 4, 1, 0] rfl) hP hD hS h1
def fX10_aheadOf (p1 : Int32) (p2 : Int32) (u : Nat → Int32) : Option (Int32) := fX10_aheadOf_b0 p1 p2 u
set_option maxHeartbeats 4000000 in
set_option maxRecDepth 100000 in
theorem cX10_aheadOfM (l : Launch) (D : va_G) (cy : Nat → ClassId) (h : Nat) (a : Nat) (rs : List Value) (sz : Nat) (u : Nat → Int32) (p1 : Int32) (p2 : Int32) : ∀ (K : Int32 → Prop), Ok (fX10_aheadOf p1 p2 u) K → Met l yX10_aheadOf wsX10_aheadOf rmX10_aheadOf (va_Pc [.ref h, .int p1, .int p2] (kPre D cy sz (wM0 cy h a rs u))) (va_Qi (fun r (_ : Unit) => K r) (fun _ => kPost D (va_A (wM0 cy h a rs u) sz) (wM0 cy h a rs u)) (va_A (wM0 cy h a rs u) sz)) 0 0 (va_A (wM0 cy h a rs u) sz) := by
  intro K h1
  refine Met.ofW (cc := cX10_aheadOf) (maxL := 6) (ret := (some .int)) (by decide) rfl ?_
  intro p e s m args below meth c s₁ B hml hv
  obtain ⟨rfl, hsz, hP, hK, hD0⟩ := hv
  subst hsz
  have E : mE D cy RX10 cX10_aheadOf 6 (some .int) wsX10_aheadOf (va_A (wM0 cy h a rs u) s.heap.size) p s m _ meth c := ⟨B.exec, B.bytes, B.returns, hml, findClass_of_methodNamed B.named, atoms_spec (ws := wsX10_aheadOf) B.pre, B.notSynchronized, hK, fun q h => Or.inr h⟩
  have hl := lv_entry ([.ref h, .int p1, .int p2]) (n := 6) (Nat.le_of_ble_eq_true rfl)
  rw [lg_entry_eq]
  generalize (lg_sl ([.ref h, .int p1, .int p2]) ++ List.replicate (6 - (lg_sl ([.ref h, .int p1, .int p2])).length) Slot.unset).toArray = ls at hl ⊢
  exact tX10_aheadOf_b0 K E u p1 p2 _ _ _ hl hP hD0.self va_S.rf h1
-- X10_standingAt
theorem inX10_standingAt_X10 : ∀ w ∈ u_ws RX10 TX10 23, w ∈ wsX10_standingAt := k_lays 11 rfl
theorem lkX10_standingAt_7 : Cond.fieldLink RX10 7 "FerryRampModel" "state" "[I" ∈ wsX10_standingAt := List.mem_of_getElem? (i := 1) rfl
theorem hdX10_aheadOf : yX10_aheadOf.cls = RX10 ∧ yX10_aheadOf.cls ≠ "java/lang/invoke/MethodHandle" ∧ yX10_aheadOf.cls ≠ "java/lang/invoke/VarHandle" ∧ (parseMethodDescriptor yX10_aheadOf.desc).map (fun d => d.parameters.length) = some 2 := by decide +kernel
abbrev rmX10_standingAt : Room := { frames := 2, cells := 0, slots := 0, locals := 47 }
def fX10_standingAt_b57 (k2 : Int32 × Int32 × Int32 → Option (Int32)) (x1 : Int32) (x2 : Int32) (x3 : Int32) (u : Nat → Int32) : Option (Int32) :=
  k2 (x1, x2, x3 + 1)
set_option maxHeartbeats 4000000 in
set_option maxRecDepth 100000 in
theorem tX10_standingAt_b57 {p : Program} {l : Launch} {e : Env} {s : State} {m : MethodId} {args : Array Value} {below : List Frame} {meth : Method} {c : Code} {D : va_G} {cy : Nat → ClassId} {A : Nat → Prop} {h : Nat} {a : Nat} {rs : List Value} (K : Int32 → Prop) (E : mE D cy RX10 cX10_standingAt 5 (some .int) wsX10_standingAt A p s m args meth c) (u : Nat → Int32)
    (k2 : Int32 × Int32 × Int32 → Option (Int32)) (hk2 : ∀ (x1 : Int32) (x2 : Int32) (x3 : Int32) (H : Heap) (locs : List Loc) (ls : Array Slot), lv_has ls 5 [(0, .ref h), (1, .int x1), (2, .int x2), (3, .int x3)] → va_P D vwCl (wM0 cy h a rs u) H → va_D A (wM0 cy h a rs u) → va_S A s.heap H locs → Ok (k2 (x1, x2, x3)) K → kW p l e rmX10_standingAt s m args below meth c H locs (va_Qi (fun r (_ : Unit) => K r) (fun _ => kPost D A (wM0 cy h a rs u)) A) A 2 ls [])
     (x1 : Int32) (x2 : Int32) (x3 : Int32) (H : Heap) (locs : List Loc) (ls : Array Slot) (hl : lv_has ls 5 [(0, .ref h), (1, .int x1), (2, .int x2), (3, .int x3)]) (hP : va_P D vwCl (wM0 cy h a rs u) H) (hD : va_D A (wM0 cy h a rs u)) (hS : va_S A s.heap H locs) (h1 : Ok (fX10_standingAt_b57 k2 x1 x2 x3 u) K) :
    kW p l e rmX10_standingAt s m args below meth c H locs (va_Qi (fun r (_ : Unit) => K r) (fun _ => kPost D A (wM0 cy h a rs u)) A) A 57 ls [] := by
  obtain ⟨hx, hb, hr, hml, hown, hts, hlocks, hK, hA⟩ := id E
  unfold fX10_standingAt_b57 at h1
  refine lv_iinc (v := x3 + 1) (lv' := [(3, .int (x3 + 1)), (0, .ref h), (1, .int x1), (2, .int x2)]) hx hb dX10_standingAt_57 hl (k := 3) rfl rfl (by decide) rfl (fun ls hl => ?_)
  refine lv_goto (tgt := 2) hx hb dX10_standingAt_60 (by decide) ?_
  exact hk2 x1 x2 (x3 + 1) H locs ls (lv_sub hl [1, 2, 3, 0] rfl) hP hD hS h1
def fX10_standingAt_b38 (k2 : Int32 × Int32 × Int32 → Option (Int32)) (x1 : Int32) (x2 : Int32) (x3 : Int32) (s0 : Int32) (u : Nat → Int32) : Option (Int32) :=
  (if s0 = 0 then fX10_standingAt_b57 k2 x1 x2 x3 u else bnd (fX10_aheadOf x3 x1 u) (fun r48 => (if r48 = x2 then some x3 else fX10_standingAt_b57 k2 x1 x2 x3 u)))
set_option maxHeartbeats 4000000 in
set_option maxRecDepth 100000 in
theorem tX10_standingAt_b38 {p : Program} {l : Launch} {e : Env} {s : State} {m : MethodId} {args : Array Value} {below : List Frame} {meth : Method} {c : Code} {D : va_G} {cy : Nat → ClassId} {A : Nat → Prop} {h : Nat} {a : Nat} {rs : List Value} (K : Int32 → Prop) (E : mE D cy RX10 cX10_standingAt 5 (some .int) wsX10_standingAt A p s m args meth c) (u : Nat → Int32)
    (k2 : Int32 × Int32 × Int32 → Option (Int32)) (hk2 : ∀ (x1 : Int32) (x2 : Int32) (x3 : Int32) (H : Heap) (locs : List Loc) (ls : Array Slot), lv_has ls 5 [(0, .ref h), (1, .int x1), (2, .int x2), (3, .int x3)] → va_P D vwCl (wM0 cy h a rs u) H → va_D A (wM0 cy h a rs u) → va_S A s.heap H locs → Ok (k2 (x1, x2, x3)) K → kW p l e rmX10_standingAt s m args below meth c H locs (va_Qi (fun r (_ : Unit) => K r) (fun _ => kPost D A (wM0 cy h a rs u)) A) A 2 ls [])
     (x1 : Int32) (x2 : Int32) (x3 : Int32) (s0 : Int32) (H : Heap) (locs : List Loc) (ls : Array Slot) (hl : lv_has ls 5 [(0, .ref h), (1, .int x1), (2, .int x2), (3, .int x3)]) (hP : va_P D vwCl (wM0 cy h a rs u) H) (hD : va_D A (wM0 cy h a rs u)) (hS : va_S A s.heap H locs) (h1 : Ok (fX10_standingAt_b38 k2 x1 x2 x3 s0 u) K) :
    kW p l e rmX10_standingAt s m args below meth c H locs (va_Qi (fun r (_ : Unit) => K r) (fun _ => kPost D A (wM0 cy h a rs u)) A) A 38 ls [.int s0] := by
  obtain ⟨hx, hb, hr, hml, hown, hts, hlocks, hK, hA⟩ := id E
  unfold fX10_standingAt_b38 at h1
  refine lv_istore (lv' := [(4, .int s0), (0, .ref h), (1, .int x1), (2, .int x2), (3, .int x3)]) hx hb dX10_standingAt_38 hl (by decide) rfl (fun ls hl => ?_)
  refine lv_iload hx hb dX10_standingAt_40 (lv_at hl 0 rfl) ?_
  refine lv_if_eq (tgt := 57) hx hb dX10_standingAt_42 (by decide) (fun c42 => ?_) (fun c42 => ?_)
  · replace h1 := Ok.pos c42 h1
    exact tX10_standingAt_b57 K E u k2 hk2 x1 x2 x3 H locs ls (lv_sub hl [1, 2, 3, 4] rfl) hP hD hS h1
  · replace h1 := Ok.neg c42 h1
    refine lv_aload_n hx hb dX10_standingAt_45 rfl (lv_at hl 1 rfl) ?_
    refine lv_iload_n hx hb dX10_standingAt_46 rfl (lv_at hl 4 rfl) ?_
    refine lv_iload_n hx hb dX10_standingAt_47 rfl (lv_at hl 2 rfl) ?_
    refine kc_rV0 (b := h) (As := [.int x3, .int x1]) (rest := []) h1 ⟨hx, hb, hml, hown, hts⟩ (cX10_aheadOfM l D cy h a rs H.size u x3 x1) (cwV 2 hts gX10_standingAt_X10_aheadOf rfl rfl rfl hdX10_aheadOf ⟨Nat.le_of_ble_eq_true rfl, Nat.le_of_ble_eq_true rfl⟩) hK hP hD hS hA (q0 := 0) rfl rfl rfl hl.1 rfl (Nat.le_of_ble_eq_true rfl) dX10_standingAt_48 ⟨Nat.zero_le _, Nat.zero_le _⟩ (fun r48 H locs h1 hP hS => ?_)
    refine lv_iload_n hx hb dX10_standingAt_51 rfl (lv_at hl 3 rfl) ?_
    refine lv_icmp_ne (tgt := 57) hx hb dX10_standingAt_52 (by decide) (fun c52 => ?_) (fun c52 => ?_)
    · replace h1 := Ok.neg c52 h1
      exact tX10_standingAt_b57 K E u k2 hk2 x1 x2 x3 H locs ls (lv_sub hl [1, 2, 3, 4] rfl) hP hD hS h1
    · replace h1 := Ok.pos c52 h1
      refine lv_iload_n hx hb dX10_standingAt_55 rfl (lv_at hl 4 rfl) ?_
      exact kret_r hx hb hr hlocks hP hD hS h1 dX10_standingAt_56
def fX10_standingAt_b37 (k2 : Int32 × Int32 × Int32 → Option (Int32)) (x1 : Int32) (x2 : Int32) (x3 : Int32) (u : Nat → Int32) : Option (Int32) :=
  fX10_standingAt_b38 k2 x1 x2 x3 0 u
set_option maxHeartbeats 4000000 in
set_option maxRecDepth 100000 in
theorem tX10_standingAt_b37 {p : Program} {l : Launch} {e : Env} {s : State} {m : MethodId} {args : Array Value} {below : List Frame} {meth : Method} {c : Code} {D : va_G} {cy : Nat → ClassId} {A : Nat → Prop} {h : Nat} {a : Nat} {rs : List Value} (K : Int32 → Prop) (E : mE D cy RX10 cX10_standingAt 5 (some .int) wsX10_standingAt A p s m args meth c) (u : Nat → Int32)
    (k2 : Int32 × Int32 × Int32 → Option (Int32)) (hk2 : ∀ (x1 : Int32) (x2 : Int32) (x3 : Int32) (H : Heap) (locs : List Loc) (ls : Array Slot), lv_has ls 5 [(0, .ref h), (1, .int x1), (2, .int x2), (3, .int x3)] → va_P D vwCl (wM0 cy h a rs u) H → va_D A (wM0 cy h a rs u) → va_S A s.heap H locs → Ok (k2 (x1, x2, x3)) K → kW p l e rmX10_standingAt s m args below meth c H locs (va_Qi (fun r (_ : Unit) => K r) (fun _ => kPost D A (wM0 cy h a rs u)) A) A 2 ls [])
     (x1 : Int32) (x2 : Int32) (x3 : Int32) (H : Heap) (locs : List Loc) (ls : Array Slot) (hl : lv_has ls 5 [(0, .ref h), (1, .int x1), (2, .int x2), (3, .int x3)]) (hP : va_P D vwCl (wM0 cy h a rs u) H) (hD : va_D A (wM0 cy h a rs u)) (hS : va_S A s.heap H locs) (h1 : Ok (fX10_standingAt_b37 k2 x1 x2 x3 u) K) :
    kW p l e rmX10_standingAt s m args below meth c H locs (va_Qi (fun r (_ : Unit) => K r) (fun _ => kPost D A (wM0 cy h a rs u)) A) A 37 ls [] := by
  obtain ⟨hx, hb, hr, hml, hown, hts, hlocks, hK, hA⟩ := id E
  unfold fX10_standingAt_b37 at h1
  refine lv_iconst (v := 0) hx hb dX10_standingAt_37 rfl ?_
  exact tX10_standingAt_b38 K E u k2 hk2 x1 x2 x3 0 H locs ls (lv_sub hl [0, 1, 2, 3] rfl) hP hD hS h1
def fX10_standingAt_b2 (k2 : Int32 × Int32 × Int32 → Option (Int32)) (x1 : Int32) (x2 : Int32) (x3 : Int32) (u : Nat → Int32) : Option (Int32) :=
  (if (u 13) ≤ x3 then some (-1) else bnd (fX10_ofCar x3 2 u) (fun r16 => (if r16 = 2 then bnd (fX10_ofCar x3 3 u) (fun r26 => (if r26 = x1 then fX10_standingAt_b38 k2 x1 x2 x3 1 u else fX10_standingAt_b37 k2 x1 x2 x3 u)) else fX10_standingAt_b37 k2 x1 x2 x3 u)))
set_option maxHeartbeats 4000000 in
set_option maxRecDepth 100000 in
theorem tX10_standingAt_b2 {p : Program} {l : Launch} {e : Env} {s : State} {m : MethodId} {args : Array Value} {below : List Frame} {meth : Method} {c : Code} {D : va_G} {cy : Nat → ClassId} {A : Nat → Prop} {h : Nat} {a : Nat} {rs : List Value} (K : Int32 → Prop) (E : mE D cy RX10 cX10_standingAt 5 (some .int) wsX10_standingAt A p s m args meth c) (u : Nat → Int32)
    (k2 : Int32 × Int32 × Int32 → Option (Int32)) (hk2 : ∀ (x1 : Int32) (x2 : Int32) (x3 : Int32) (H : Heap) (locs : List Loc) (ls : Array Slot), lv_has ls 5 [(0, .ref h), (1, .int x1), (2, .int x2), (3, .int x3)] → va_P D vwCl (wM0 cy h a rs u) H → va_D A (wM0 cy h a rs u) → va_S A s.heap H locs → Ok (k2 (x1, x2, x3)) K → kW p l e rmX10_standingAt s m args below meth c H locs (va_Qi (fun r (_ : Unit) => K r) (fun _ => kPost D A (wM0 cy h a rs u)) A) A 2 ls [])
     (x1 : Int32) (x2 : Int32) (x3 : Int32) (H : Heap) (locs : List Loc) (ls : Array Slot) (hl : lv_has ls 5 [(0, .ref h), (1, .int x1), (2, .int x2), (3, .int x3)]) (hP : va_P D vwCl (wM0 cy h a rs u) H) (hD : va_D A (wM0 cy h a rs u)) (hS : va_S A s.heap H locs) (h1 : Ok (fX10_standingAt_b2 k2 x1 x2 x3 u) K) :
    kW p l e rmX10_standingAt s m args below meth c H locs (va_Qi (fun r (_ : Unit) => K r) (fun _ => kPost D A (wM0 cy h a rs u)) A) A 2 ls [] := by
  obtain ⟨hx, hb, hr, hml, hown, hts, hlocks, hK, hA⟩ := id E
  unfold fX10_standingAt_b2 at h1
  refine lv_iload_n hx hb dX10_standingAt_2 rfl (lv_at hl 3 rfl) ?_
  refine lv_aload_n hx hb dX10_standingAt_3 rfl (lv_at hl 0 rfl) ?_
  refine k_get (v := .ref a) (C := RX10) (T := TX10) (N := 23) hx hb hts inX10_standingAt_X10 hown hK hP 0 (wM0_a0 _ _ _ _ _) rfl 0 (by decide) lkX10_standingAt_7 (m0Fs_0 _ _) dX10_standingAt_4 ?_
  refine lv_bipush (v := 13) hx hb dX10_standingAt_7 rfl ?_
  refine k_iald (k := 13) hx hb hK hP 1 (wM0_a1 _ _ _ _ _) rfl rfl dX10_standingAt_9 ?_
  refine lv_icmp_ge (tgt := 63) hx hb dX10_standingAt_10 (by decide) (fun c10 => ?_) (fun c10 => ?_)
  · replace h1 := Ok.pos c10 h1
    refine lv_iconst (v := (-1)) hx hb dX10_standingAt_63 rfl ?_
    exact kret_r hx hb hr hlocks hP hD hS h1 dX10_standingAt_64
  · replace h1 := Ok.neg c10 h1
    refine lv_aload_n hx hb dX10_standingAt_13 rfl (lv_at hl 0 rfl) ?_
    refine lv_iload_n hx hb dX10_standingAt_14 rfl (lv_at hl 3 rfl) ?_
    refine lv_iconst (v := 2) hx hb dX10_standingAt_15 rfl ?_
    refine kc_rV0 (b := h) (As := [.int x3, .int 2]) (rest := []) h1 ⟨hx, hb, hml, hown, hts⟩ (cX10_ofCarM l D cy h a rs H.size u x3 2) (cwV 2 hts gX10_standingAt_X10_ofCar rfl rfl rfl hdX10_ofCar ⟨Nat.le_of_ble_eq_true rfl, Nat.le_of_ble_eq_true rfl⟩) hK hP hD hS hA (q0 := 0) rfl rfl rfl hl.1 rfl (Nat.le_of_ble_eq_true rfl) dX10_standingAt_16 ⟨Nat.zero_le _, Nat.zero_le _⟩ (fun r16 H locs h1 hP hS => ?_)
    refine lv_iconst (v := 2) hx hb dX10_standingAt_19 rfl ?_
    refine lv_icmp_ne (tgt := 37) hx hb dX10_standingAt_20 (by decide) (fun c20 => ?_) (fun c20 => ?_)
    · replace h1 := Ok.neg c20 h1
      exact tX10_standingAt_b37 K E u k2 hk2 x1 x2 x3 H locs ls (lv_sub hl [0, 1, 2, 3] rfl) hP hD hS h1
    · replace h1 := Ok.pos c20 h1
      refine lv_aload_n hx hb dX10_standingAt_23 rfl (lv_at hl 0 rfl) ?_
      refine lv_iload_n hx hb dX10_standingAt_24 rfl (lv_at hl 3 rfl) ?_
      refine lv_iconst (v := 3) hx hb dX10_standingAt_25 rfl ?_
      refine kc_rV0 (b := h) (As := [.int x3, .int 3]) (rest := []) h1 ⟨hx, hb, hml, hown, hts⟩ (cX10_ofCarM l D cy h a rs H.size u x3 3) (cwV 2 hts gX10_standingAt_X10_ofCar rfl rfl rfl hdX10_ofCar ⟨Nat.le_of_ble_eq_true rfl, Nat.le_of_ble_eq_true rfl⟩) hK hP hD hS hA (q0 := 0) rfl rfl rfl hl.1 rfl (Nat.le_of_ble_eq_true rfl) dX10_standingAt_26 ⟨Nat.zero_le _, Nat.zero_le _⟩ (fun r26 H locs h1 hP hS => ?_)
      refine lv_iload_n hx hb dX10_standingAt_29 rfl (lv_at hl 1 rfl) ?_
      refine lv_icmp_ne (tgt := 37) hx hb dX10_standingAt_30 (by decide) (fun c30 => ?_) (fun c30 => ?_)
      · replace h1 := Ok.neg c30 h1
        exact tX10_standingAt_b37 K E u k2 hk2 x1 x2 x3 H locs ls (lv_sub hl [0, 1, 2, 3] rfl) hP hD hS h1
      · replace h1 := Ok.pos c30 h1
        refine lv_iconst (v := 1) hx hb dX10_standingAt_33 rfl ?_
        refine lv_goto (tgt := 38) hx hb dX10_standingAt_34 (by decide) ?_
        exact tX10_standingAt_b38 K E u k2 hk2 x1 x2 x3 1 H locs ls (lv_sub hl [0, 1, 2, 3] rfl) hP hD hS h1
theorem tX10_standingAt_l2 {p : Program} {l : Launch} {e : Env} {s : State} {m : MethodId} {args : Array Value} {below : List Frame} {meth : Method} {c : Code} {D : va_G} {cy : Nat → ClassId} {A : Nat → Prop} {h : Nat} {a : Nat} {rs : List Value} (K : Int32 → Prop) (E : mE D cy RX10 cX10_standingAt 5 (some .int) wsX10_standingAt A p s m args meth c) (u : Nat → Int32) : ∀ (n9 : Nat) (x1 : Int32) (x2 : Int32) (x3 : Int32) (H : Heap) (locs : List Loc) (ls : Array Slot), lv_has ls 5 [(0, .ref h), (1, .int x1), (2, .int x2), (3, .int x3)] → va_P D vwCl (wM0 cy h a rs u) H → va_D A (wM0 cy h a rs u) → va_S A s.heap H locs → Ok (lop (fun y z => fX10_standingAt_b2 y z.1 z.2.1 z.2.2 u) n9 (x1, x2, x3)) K → kW p l e rmX10_standingAt s m args below meth c H locs (va_Qi (fun r (_ : Unit) => K r) (fun _ => kPost D A (wM0 cy h a rs u)) A) A 2 ls [] := by
  intro n9
  induction n9 with
  | zero =>
    intro x1 x2 x3 H locs ls hl hP hD hS h1
    exact h1.no
  | succ n9 ih =>
    intro x1 x2 x3 H locs ls hl hP hD hS h1
    exact tX10_standingAt_b2 K E u (lop (fun y z => fX10_standingAt_b2 y z.1 z.2.1 z.2.2 u) n9) (fun x1 x2 x3 H locs ls hl hP hD hS h1 => ih x1 x2 x3 H locs ls hl hP hD hS h1) x1 x2 x3 H locs ls hl hP hD hS h1
def fX10_standingAt_b0 (x1 : Int32) (x2 : Int32) (u : Nat → Int32) : Option (Int32) :=
  lop (fun y z => fX10_standingAt_b2 y z.1 z.2.1 z.2.2 u) LF (x1, x2, 0)
set_option maxHeartbeats 4000000 in
set_option maxRecDepth 100000 in
theorem tX10_standingAt_b0 {p : Program} {l : Launch} {e : Env} {s : State} {m : MethodId} {args : Array Value} {below : List Frame} {meth : Method} {c : Code} {D : va_G} {cy : Nat → ClassId} {A : Nat → Prop} {h : Nat} {a : Nat} {rs : List Value} (K : Int32 → Prop) (E : mE D cy RX10 cX10_standingAt 5 (some .int) wsX10_standingAt A p s m args meth c) (u : Nat → Int32)
     (x1 : Int32) (x2 : Int32) (H : Heap) (locs : List Loc) (ls : Array Slot) (hl : lv_has ls 5 [(0, .ref h), (1, .int x1), (2, .int x2)]) (hP : va_P D vwCl (wM0 cy h a rs u) H) (hD : va_D A (wM0 cy h a rs u)) (hS : va_S A s.heap H locs) (h1 : Ok (fX10_standingAt_b0 x1 x2 u) K) :
    kW p l e rmX10_standingAt s m args below meth c H locs (va_Qi (fun r (_ : Unit) => K r) (fun _ => kPost D A (wM0 cy h a rs u)) A) A 0 ls [] := by
  obtain ⟨hx, hb, hr, hml, hown, hts, hlocks, hK, hA⟩ := id E
  unfold fX10_standingAt_b0 at h1
  refine lv_iconst (v := 0) hx hb dX10_standingAt_0 rfl ?_
  refine lv_istore_n (lv' := [(3, .int 0), (0, .ref h), (1, .int x1), (2, .int x2)]) hx hb dX10_standingAt_1 rfl hl (by decide) rfl (fun ls hl => ?_)
  exact tX10_standingAt_l2 K E u LF x1 x2 0 H locs ls (lv_sub hl [1, 2, 3, 0] rfl) hP hD hS h1
def fX10_standingAt (p1 : Int32) (p2 : Int32) (u : Nat → Int32) : Option (Int32) := fX10_standingAt_b0 p1 p2 u
set_option maxHeartbeats 4000000 in
set_option maxRecDepth 100000 in
theorem cX10_standingAtM (l : Launch) (D : va_G) (cy : Nat → ClassId) (h : Nat) (a : Nat) (rs : List Value) (sz : Nat) (u : Nat → Int32) (p1 : Int32) (p2 : Int32) : ∀ (K : Int32 → Prop), Ok (fX10_standingAt p1 p2 u) K → Met l yX10_standingAt wsX10_standingAt rmX10_standingAt (va_Pc [.ref h, .int p1, .int p2] (kPre D cy sz (wM0 cy h a rs u))) (va_Qi (fun r (_ : Unit) => K r) (fun _ => kPost D (va_A (wM0 cy h a rs u) sz) (wM0 cy h a rs u)) (va_A (wM0 cy h a rs u) sz)) 0 0 (va_A (wM0 cy h a rs u) sz) := by
  intro K h1
  refine Met.ofW (cc := cX10_standingAt) (maxL := 5) (ret := (some .int)) (by decide) rfl ?_
  intro p e s m args below meth c s₁ B hml hv
  obtain ⟨rfl, hsz, hP, hK, hD0⟩ := hv
  subst hsz
  have E : mE D cy RX10 cX10_standingAt 5 (some .int) wsX10_standingAt (va_A (wM0 cy h a rs u) s.heap.size) p s m _ meth c := ⟨B.exec, B.bytes, B.returns, hml, findClass_of_methodNamed B.named, atoms_spec (ws := wsX10_standingAt) B.pre, B.notSynchronized, hK, fun q h => Or.inr h⟩
  have hl := lv_entry ([.ref h, .int p1, .int p2]) (n := 5) (Nat.le_of_ble_eq_true rfl)
  rw [lg_entry_eq]
  generalize (lg_sl ([.ref h, .int p1, .int p2]) ++ List.replicate (5 - (lg_sl ([.ref h, .int p1, .int p2])).length) Slot.unset).toArray = ls at hl ⊢
  exact tX10_standingAt_b0 K E u p1 p2 _ _ _ hl hP hD0.self va_S.rf h1
-- X10_standingMany
theorem inX10_standingMany_X10 : ∀ w ∈ u_ws RX10 TX10 23, w ∈ wsX10_standingMany := k_lays 7 rfl
theorem lkX10_standingMany_7 : Cond.fieldLink RX10 7 "FerryRampModel" "state" "[I" ∈ wsX10_standingMany := List.mem_of_getElem? (i := 1) rfl
abbrev rmX10_standingMany : Room := { frames := 1, cells := 0, slots := 0, locals := 22 }
def fX10_standingMany_b41 (k4 : Int32 × Int32 × Int32 → Option (Int32)) (x1 : Int32) (x3 : Int32) (s0 : Int32) (s1 : Int32) (u : Nat → Int32) : Option (Int32) :=
  k4 (x1, s0 + s1, x3 + 1)
set_option maxHeartbeats 4000000 in
set_option maxRecDepth 100000 in
theorem tX10_standingMany_b41 {p : Program} {l : Launch} {e : Env} {s : State} {m : MethodId} {args : Array Value} {below : List Frame} {meth : Method} {c : Code} {D : va_G} {cy : Nat → ClassId} {A : Nat → Prop} {h : Nat} {a : Nat} {rs : List Value} (K : Int32 → Prop) (E : mE D cy RX10 cX10_standingMany 4 (some .int) wsX10_standingMany A p s m args meth c) (u : Nat → Int32)
    (k4 : Int32 × Int32 × Int32 → Option (Int32)) (hk4 : ∀ (x1 : Int32) (x2 : Int32) (x3 : Int32) (H : Heap) (locs : List Loc) (ls : Array Slot), lv_has ls 4 [(0, .ref h), (1, .int x1), (2, .int x2), (3, .int x3)] → va_P D vwCl (wM0 cy h a rs u) H → va_D A (wM0 cy h a rs u) → va_S A s.heap H locs → Ok (k4 (x1, x2, x3)) K → kW p l e rmX10_standingMany s m args below meth c H locs (va_Qi (fun r (_ : Unit) => K r) (fun _ => kPost D A (wM0 cy h a rs u)) A) A 4 ls [])
     (x1 : Int32) (x3 : Int32) (s0 : Int32) (s1 : Int32) (H : Heap) (locs : List Loc) (ls : Array Slot) (hl : lv_has ls 4 [(0, .ref h), (1, .int x1), (3, .int x3)]) (hP : va_P D vwCl (wM0 cy h a rs u) H) (hD : va_D A (wM0 cy h a rs u)) (hS : va_S A s.heap H locs) (h1 : Ok (fX10_standingMany_b41 k4 x1 x3 s0 s1 u) K) :
    kW p l e rmX10_standingMany s m args below meth c H locs (va_Qi (fun r (_ : Unit) => K r) (fun _ => kPost D A (wM0 cy h a rs u)) A) A 41 ls [.int s1, .int s0] := by
  obtain ⟨hx, hb, hr, hml, hown, hts, hlocks, hK, hA⟩ := id E
  unfold fX10_standingMany_b41 at h1
  refine lv_iadd hx hb dX10_standingMany_41 ?_
  refine lv_istore_n (lv' := [(2, .int (s0 + s1)), (0, .ref h), (1, .int x1), (3, .int x3)]) hx hb dX10_standingMany_42 rfl hl (by decide) rfl (fun ls hl => ?_)
  refine lv_iinc (v := x3 + 1) (lv' := [(3, .int (x3 + 1)), (2, .int (s0 + s1)), (0, .ref h), (1, .int x1)]) hx hb dX10_standingMany_43 hl (k := 3) rfl rfl (by decide) rfl (fun ls hl => ?_)
  refine lv_goto (tgt := 4) hx hb dX10_standingMany_46 (by decide) ?_
  exact hk4 x1 (s0 + s1) (x3 + 1) H locs ls (lv_sub hl [2, 3, 1, 0] rfl) hP hD hS h1
def fX10_standingMany_b40 (k4 : Int32 × Int32 × Int32 → Option (Int32)) (x1 : Int32) (x3 : Int32) (s0 : Int32) (u : Nat → Int32) : Option (Int32) :=
  fX10_standingMany_b41 k4 x1 x3 s0 0 u
set_option maxHeartbeats 4000000 in
set_option maxRecDepth 100000 in
theorem tX10_standingMany_b40 {p : Program} {l : Launch} {e : Env} {s : State} {m : MethodId} {args : Array Value} {below : List Frame} {meth : Method} {c : Code} {D : va_G} {cy : Nat → ClassId} {A : Nat → Prop} {h : Nat} {a : Nat} {rs : List Value} (K : Int32 → Prop) (E : mE D cy RX10 cX10_standingMany 4 (some .int) wsX10_standingMany A p s m args meth c) (u : Nat → Int32)
    (k4 : Int32 × Int32 × Int32 → Option (Int32)) (hk4 : ∀ (x1 : Int32) (x2 : Int32) (x3 : Int32) (H : Heap) (locs : List Loc) (ls : Array Slot), lv_has ls 4 [(0, .ref h), (1, .int x1), (2, .int x2), (3, .int x3)] → va_P D vwCl (wM0 cy h a rs u) H → va_D A (wM0 cy h a rs u) → va_S A s.heap H locs → Ok (k4 (x1, x2, x3)) K → kW p l e rmX10_standingMany s m args below meth c H locs (va_Qi (fun r (_ : Unit) => K r) (fun _ => kPost D A (wM0 cy h a rs u)) A) A 4 ls [])
     (x1 : Int32) (x3 : Int32) (s0 : Int32) (H : Heap) (locs : List Loc) (ls : Array Slot) (hl : lv_has ls 4 [(0, .ref h), (1, .int x1), (3, .int x3)]) (hP : va_P D vwCl (wM0 cy h a rs u) H) (hD : va_D A (wM0 cy h a rs u)) (hS : va_S A s.heap H locs) (h1 : Ok (fX10_standingMany_b40 k4 x1 x3 s0 u) K) :
    kW p l e rmX10_standingMany s m args below meth c H locs (va_Qi (fun r (_ : Unit) => K r) (fun _ => kPost D A (wM0 cy h a rs u)) A) A 40 ls [.int s0] := by
  obtain ⟨hx, hb, hr, hml, hown, hts, hlocks, hK, hA⟩ := id E
  unfold fX10_standingMany_b40 at h1
  refine lv_iconst (v := 0) hx hb dX10_standingMany_40 rfl ?_
  exact tX10_standingMany_b41 K E u k4 hk4 x1 x3 s0 0 H locs ls (lv_sub hl [0, 1, 2] rfl) hP hD hS h1
def fX10_standingMany_b4 (k4 : Int32 × Int32 × Int32 → Option (Int32)) (x1 : Int32) (x2 : Int32) (x3 : Int32) (u : Nat → Int32) : Option (Int32) :=
  (if (u 13) ≤ x3 then some x2 else bnd (fX10_ofCar x3 2 u) (fun r19 => (if r19 = 2 then bnd (fX10_ofCar x3 3 u) (fun r29 => (if r29 = x1 then fX10_standingMany_b41 k4 x1 x3 x2 1 u else fX10_standingMany_b40 k4 x1 x3 x2 u)) else fX10_standingMany_b40 k4 x1 x3 x2 u)))
set_option maxHeartbeats 4000000 in
set_option maxRecDepth 100000 in
theorem tX10_standingMany_b4 {p : Program} {l : Launch} {e : Env} {s : State} {m : MethodId} {args : Array Value} {below : List Frame} {meth : Method} {c : Code} {D : va_G} {cy : Nat → ClassId} {A : Nat → Prop} {h : Nat} {a : Nat} {rs : List Value} (K : Int32 → Prop) (E : mE D cy RX10 cX10_standingMany 4 (some .int) wsX10_standingMany A p s m args meth c) (u : Nat → Int32)
    (k4 : Int32 × Int32 × Int32 → Option (Int32)) (hk4 : ∀ (x1 : Int32) (x2 : Int32) (x3 : Int32) (H : Heap) (locs : List Loc) (ls : Array Slot), lv_has ls 4 [(0, .ref h), (1, .int x1), (2, .int x2), (3, .int x3)] → va_P D vwCl (wM0 cy h a rs u) H → va_D A (wM0 cy h a rs u) → va_S A s.heap H locs → Ok (k4 (x1, x2, x3)) K → kW p l e rmX10_standingMany s m args below meth c H locs (va_Qi (fun r (_ : Unit) => K r) (fun _ => kPost D A (wM0 cy h a rs u)) A) A 4 ls [])
     (x1 : Int32) (x2 : Int32) (x3 : Int32) (H : Heap) (locs : List Loc) (ls : Array Slot) (hl : lv_has ls 4 [(0, .ref h), (1, .int x1), (2, .int x2), (3, .int x3)]) (hP : va_P D vwCl (wM0 cy h a rs u) H) (hD : va_D A (wM0 cy h a rs u)) (hS : va_S A s.heap H locs) (h1 : Ok (fX10_standingMany_b4 k4 x1 x2 x3 u) K) :
    kW p l e rmX10_standingMany s m args below meth c H locs (va_Qi (fun r (_ : Unit) => K r) (fun _ => kPost D A (wM0 cy h a rs u)) A) A 4 ls [] := by
  obtain ⟨hx, hb, hr, hml, hown, hts, hlocks, hK, hA⟩ := id E
  unfold fX10_standingMany_b4 at h1
  refine lv_iload_n hx hb dX10_standingMany_4 rfl (lv_at hl 3 rfl) ?_
  refine lv_aload_n hx hb dX10_standingMany_5 rfl (lv_at hl 0 rfl) ?_
  refine k_get (v := .ref a) (C := RX10) (T := TX10) (N := 23) hx hb hts inX10_standingMany_X10 hown hK hP 0 (wM0_a0 _ _ _ _ _) rfl 0 (by decide) lkX10_standingMany_7 (m0Fs_0 _ _) dX10_standingMany_6 ?_
  refine lv_bipush (v := 13) hx hb dX10_standingMany_9 rfl ?_
  refine k_iald (k := 13) hx hb hK hP 1 (wM0_a1 _ _ _ _ _) rfl rfl dX10_standingMany_11 ?_
  refine lv_icmp_ge (tgt := 49) hx hb dX10_standingMany_12 (by decide) (fun c12 => ?_) (fun c12 => ?_)
  · replace h1 := Ok.pos c12 h1
    refine lv_iload_n hx hb dX10_standingMany_49 rfl (lv_at hl 2 rfl) ?_
    exact kret_r hx hb hr hlocks hP hD hS h1 dX10_standingMany_50
  · replace h1 := Ok.neg c12 h1
    refine lv_iload_n hx hb dX10_standingMany_15 rfl (lv_at hl 2 rfl) ?_
    refine lv_aload_n hx hb dX10_standingMany_16 rfl (lv_at hl 0 rfl) ?_
    refine lv_iload_n hx hb dX10_standingMany_17 rfl (lv_at hl 3 rfl) ?_
    refine lv_iconst (v := 2) hx hb dX10_standingMany_18 rfl ?_
    refine kc_rV0 (b := h) (As := [.int x3, .int 2]) (rest := [.int x2]) h1 ⟨hx, hb, hml, hown, hts⟩ (cX10_ofCarM l D cy h a rs H.size u x3 2) (cwV 2 hts gX10_standingMany_X10_ofCar rfl rfl rfl hdX10_ofCar ⟨Nat.le_of_ble_eq_true rfl, Nat.le_of_ble_eq_true rfl⟩) hK hP hD hS hA (q0 := 0) rfl rfl rfl hl.1 rfl (Nat.le_of_ble_eq_true rfl) dX10_standingMany_19 ⟨Nat.zero_le _, Nat.zero_le _⟩ (fun r19 H locs h1 hP hS => ?_)
    refine lv_iconst (v := 2) hx hb dX10_standingMany_22 rfl ?_
    refine lv_icmp_ne (tgt := 40) hx hb dX10_standingMany_23 (by decide) (fun c23 => ?_) (fun c23 => ?_)
    · replace h1 := Ok.neg c23 h1
      exact tX10_standingMany_b40 K E u k4 hk4 x1 x3 x2 H locs ls (lv_sub hl [0, 1, 3] rfl) hP hD hS h1
    · replace h1 := Ok.pos c23 h1
      refine lv_aload_n hx hb dX10_standingMany_26 rfl (lv_at hl 0 rfl) ?_
      refine lv_iload_n hx hb dX10_standingMany_27 rfl (lv_at hl 3 rfl) ?_
      refine lv_iconst (v := 3) hx hb dX10_standingMany_28 rfl ?_
      refine kc_rV0 (b := h) (As := [.int x3, .int 3]) (rest := [.int x2]) h1 ⟨hx, hb, hml, hown, hts⟩ (cX10_ofCarM l D cy h a rs H.size u x3 3) (cwV 2 hts gX10_standingMany_X10_ofCar rfl rfl rfl hdX10_ofCar ⟨Nat.le_of_ble_eq_true rfl, Nat.le_of_ble_eq_true rfl⟩) hK hP hD hS hA (q0 := 0) rfl rfl rfl hl.1 rfl (Nat.le_of_ble_eq_true rfl) dX10_standingMany_29 ⟨Nat.zero_le _, Nat.zero_le _⟩ (fun r29 H locs h1 hP hS => ?_)
      refine lv_iload_n hx hb dX10_standingMany_32 rfl (lv_at hl 1 rfl) ?_
      refine lv_icmp_ne (tgt := 40) hx hb dX10_standingMany_33 (by decide) (fun c33 => ?_) (fun c33 => ?_)
      · replace h1 := Ok.neg c33 h1
        exact tX10_standingMany_b40 K E u k4 hk4 x1 x3 x2 H locs ls (lv_sub hl [0, 1, 3] rfl) hP hD hS h1
      · replace h1 := Ok.pos c33 h1
        refine lv_iconst (v := 1) hx hb dX10_standingMany_36 rfl ?_
        refine lv_goto (tgt := 41) hx hb dX10_standingMany_37 (by decide) ?_
        exact tX10_standingMany_b41 K E u k4 hk4 x1 x3 x2 1 H locs ls (lv_sub hl [0, 1, 3] rfl) hP hD hS h1
theorem tX10_standingMany_l4 {p : Program} {l : Launch} {e : Env} {s : State} {m : MethodId} {args : Array Value} {below : List Frame} {meth : Method} {c : Code} {D : va_G} {cy : Nat → ClassId} {A : Nat → Prop} {h : Nat} {a : Nat} {rs : List Value} (K : Int32 → Prop) (E : mE D cy RX10 cX10_standingMany 4 (some .int) wsX10_standingMany A p s m args meth c) (u : Nat → Int32) : ∀ (n9 : Nat) (x1 : Int32) (x2 : Int32) (x3 : Int32) (H : Heap) (locs : List Loc) (ls : Array Slot), lv_has ls 4 [(0, .ref h), (1, .int x1), (2, .int x2), (3, .int x3)] → va_P D vwCl (wM0 cy h a rs u) H → va_D A (wM0 cy h a rs u) → va_S A s.heap H locs → Ok (lop (fun y z => fX10_standingMany_b4 y z.1 z.2.1 z.2.2 u) n9 (x1, x2, x3)) K → kW p l e rmX10_standingMany s m args below meth c H locs (va_Qi (fun r (_ : Unit) => K r) (fun _ => kPost D A (wM0 cy h a rs u)) A) A 4 ls [] := by
  intro n9
  induction n9 with
  | zero =>
    intro x1 x2 x3 H locs ls hl hP hD hS h1
    exact h1.no
  | succ n9 ih =>
    intro x1 x2 x3 H locs ls hl hP hD hS h1
    exact tX10_standingMany_b4 K E u (lop (fun y z => fX10_standingMany_b4 y z.1 z.2.1 z.2.2 u) n9) (fun x1 x2 x3 H locs ls hl hP hD hS h1 => ih x1 x2 x3 H locs ls hl hP hD hS h1) x1 x2 x3 H locs ls hl hP hD hS h1
def fX10_standingMany_b0 (x1 : Int32) (u : Nat → Int32) : Option (Int32) :=
  lop (fun y z => fX10_standingMany_b4 y z.1 z.2.1 z.2.2 u) LF (x1, 0, 0)
set_option maxHeartbeats 4000000 in
set_option maxRecDepth 100000 in
theorem tX10_standingMany_b0 {p : Program} {l : Launch} {e : Env} {s : State} {m : MethodId} {args : Array Value} {below : List Frame} {meth : Method} {c : Code} {D : va_G} {cy : Nat → ClassId} {A : Nat → Prop} {h : Nat} {a : Nat} {rs : List Value} (K : Int32 → Prop) (E : mE D cy RX10 cX10_standingMany 4 (some .int) wsX10_standingMany A p s m args meth c) (u : Nat → Int32)
     (x1 : Int32) (H : Heap) (locs : List Loc) (ls : Array Slot) (hl : lv_has ls 4 [(0, .ref h), (1, .int x1)]) (hP : va_P D vwCl (wM0 cy h a rs u) H) (hD : va_D A (wM0 cy h a rs u)) (hS : va_S A s.heap H locs) (h1 : Ok (fX10_standingMany_b0 x1 u) K) :
    kW p l e rmX10_standingMany s m args below meth c H locs (va_Qi (fun r (_ : Unit) => K r) (fun _ => kPost D A (wM0 cy h a rs u)) A) A 0 ls [] := by
  obtain ⟨hx, hb, hr, hml, hown, hts, hlocks, hK, hA⟩ := id E
  unfold fX10_standingMany_b0 at h1
  refine lv_iconst (v := 0) hx hb dX10_standingMany_0 rfl ?_
  refine lv_istore_n (lv' := [(2, .int 0), (0, .ref h), (1, .int x1)]) hx hb dX10_standingMany_1 rfl hl (by decide) rfl (fun ls hl => ?_)
  refine lv_iconst (v := 0) hx hb dX10_standingMany_2 rfl ?_
  refine lv_istore_n (lv' := [(3, .int 0), (2, .int 0), (0, .ref h), (1, .int x1)]) hx hb dX10_standingMany_3 rfl hl (by decide) rfl (fun ls hl => ?_)
  exact tX10_standingMany_l4 K E u LF x1 0 0 H locs ls (lv_sub hl [2, 3, 1, 0] rfl) hP hD hS h1
def fX10_standingMany (p1 : Int32) (u : Nat → Int32) : Option (Int32) := fX10_standingMany_b0 p1 u
set_option maxHeartbeats 4000000 in
set_option maxRecDepth 100000 in
theorem cX10_standingManyM (l : Launch) (D : va_G) (cy : Nat → ClassId) (h : Nat) (a : Nat) (rs : List Value) (sz : Nat) (u : Nat → Int32) (p1 : Int32) : ∀ (K : Int32 → Prop), Ok (fX10_standingMany p1 u) K → Met l yX10_standingMany wsX10_standingMany rmX10_standingMany (va_Pc [.ref h, .int p1] (kPre D cy sz (wM0 cy h a rs u))) (va_Qi (fun r (_ : Unit) => K r) (fun _ => kPost D (va_A (wM0 cy h a rs u) sz) (wM0 cy h a rs u)) (va_A (wM0 cy h a rs u) sz)) 0 0 (va_A (wM0 cy h a rs u) sz) := by
  intro K h1
  refine Met.ofW (cc := cX10_standingMany) (maxL := 4) (ret := (some .int)) (by decide) rfl ?_
  intro p e s m args below meth c s₁ B hml hv
  obtain ⟨rfl, hsz, hP, hK, hD0⟩ := hv
  subst hsz
  have E : mE D cy RX10 cX10_standingMany 4 (some .int) wsX10_standingMany (va_A (wM0 cy h a rs u) s.heap.size) p s m _ meth c := ⟨B.exec, B.bytes, B.returns, hml, findClass_of_methodNamed B.named, atoms_spec (ws := wsX10_standingMany) B.pre, B.notSynchronized, hK, fun q h => Or.inr h⟩
  have hl := lv_entry ([.ref h, .int p1]) (n := 4) (Nat.le_of_ble_eq_true rfl)
  rw [lg_entry_eq]
  generalize (lg_sl ([.ref h, .int p1]) ++ List.replicate (4 - (lg_sl ([.ref h, .int p1])).length) Slot.unset).toArray = ls at hl ⊢
  exact tX10_standingMany_b0 K E u p1 _ _ _ hl hP hD0.self va_S.rf h1
-- X10_begun
theorem inX10_begun_X10 : ∀ w ∈ u_ws RX10 TX10 23, w ∈ wsX10_begun := k_lays 7 rfl
theorem lkX10_begun_7 : Cond.fieldLink RX10 7 "FerryRampModel" "state" "[I" ∈ wsX10_begun := List.mem_of_getElem? (i := 1) rfl
abbrev rmX10_begun : Room := { frames := 1, cells := 0, slots := 0, locals := 22 }
def fX10_begun_b31 (k4 : Int32 × Int32 → Option (Int32)) (x2 : Int32) (s0 : Int32) (s1 : Int32) (u : Nat → Int32) : Option (Int32) :=
  k4 (s0 + s1, x2 + 1)
set_option maxHeartbeats 4000000 in
set_option maxRecDepth 100000 in
theorem tX10_begun_b31 {p : Program} {l : Launch} {e : Env} {s : State} {m : MethodId} {args : Array Value} {below : List Frame} {meth : Method} {c : Code} {D : va_G} {cy : Nat → ClassId} {A : Nat → Prop} {h : Nat} {a : Nat} {rs : List Value} (K : Int32 → Prop) (E : mE D cy RX10 cX10_begun 3 (some .int) wsX10_begun A p s m args meth c) (u : Nat → Int32)
    (k4 : Int32 × Int32 → Option (Int32)) (hk4 : ∀ (x1 : Int32) (x2 : Int32) (H : Heap) (locs : List Loc) (ls : Array Slot), lv_has ls 3 [(0, .ref h), (1, .int x1), (2, .int x2)] → va_P D vwCl (wM0 cy h a rs u) H → va_D A (wM0 cy h a rs u) → va_S A s.heap H locs → Ok (k4 (x1, x2)) K → kW p l e rmX10_begun s m args below meth c H locs (va_Qi (fun r (_ : Unit) => K r) (fun _ => kPost D A (wM0 cy h a rs u)) A) A 4 ls [])
     (x2 : Int32) (s0 : Int32) (s1 : Int32) (H : Heap) (locs : List Loc) (ls : Array Slot) (hl : lv_has ls 3 [(0, .ref h), (2, .int x2)]) (hP : va_P D vwCl (wM0 cy h a rs u) H) (hD : va_D A (wM0 cy h a rs u)) (hS : va_S A s.heap H locs) (h1 : Ok (fX10_begun_b31 k4 x2 s0 s1 u) K) :
    kW p l e rmX10_begun s m args below meth c H locs (va_Qi (fun r (_ : Unit) => K r) (fun _ => kPost D A (wM0 cy h a rs u)) A) A 31 ls [.int s1, .int s0] := by
  obtain ⟨hx, hb, hr, hml, hown, hts, hlocks, hK, hA⟩ := id E
  unfold fX10_begun_b31 at h1
  refine lv_iadd hx hb dX10_begun_31 ?_
  refine lv_istore_n (lv' := [(1, .int (s0 + s1)), (0, .ref h), (2, .int x2)]) hx hb dX10_begun_32 rfl hl (by decide) rfl (fun ls hl => ?_)
  refine lv_iinc (v := x2 + 1) (lv' := [(2, .int (x2 + 1)), (1, .int (s0 + s1)), (0, .ref h)]) hx hb dX10_begun_33 hl (k := 2) rfl rfl (by decide) rfl (fun ls hl => ?_)
  refine lv_goto (tgt := 4) hx hb dX10_begun_36 (by decide) ?_
  exact hk4 (s0 + s1) (x2 + 1) H locs ls (lv_sub hl [2, 1, 0] rfl) hP hD hS h1
def fX10_begun_b4 (k4 : Int32 × Int32 → Option (Int32)) (x1 : Int32) (x2 : Int32) (u : Nat → Int32) : Option (Int32) :=
  (if (u 13) ≤ x2 then some x1 else bnd (fX10_ofCar x2 5 u) (fun r19 => (if r19 = (-1) then fX10_begun_b31 k4 x2 x1 0 u else fX10_begun_b31 k4 x2 x1 1 u)))
set_option maxHeartbeats 4000000 in
set_option maxRecDepth 100000 in
theorem tX10_begun_b4 {p : Program} {l : Launch} {e : Env} {s : State} {m : MethodId} {args : Array Value} {below : List Frame} {meth : Method} {c : Code} {D : va_G} {cy : Nat → ClassId} {A : Nat → Prop} {h : Nat} {a : Nat} {rs : List Value} (K : Int32 → Prop) (E : mE D cy RX10 cX10_begun 3 (some .int) wsX10_begun A p s m args meth c) (u : Nat → Int32)
    (k4 : Int32 × Int32 → Option (Int32)) (hk4 : ∀ (x1 : Int32) (x2 : Int32) (H : Heap) (locs : List Loc) (ls : Array Slot), lv_has ls 3 [(0, .ref h), (1, .int x1), (2, .int x2)] → va_P D vwCl (wM0 cy h a rs u) H → va_D A (wM0 cy h a rs u) → va_S A s.heap H locs → Ok (k4 (x1, x2)) K → kW p l e rmX10_begun s m args below meth c H locs (va_Qi (fun r (_ : Unit) => K r) (fun _ => kPost D A (wM0 cy h a rs u)) A) A 4 ls [])
     (x1 : Int32) (x2 : Int32) (H : Heap) (locs : List Loc) (ls : Array Slot) (hl : lv_has ls 3 [(0, .ref h), (1, .int x1), (2, .int x2)]) (hP : va_P D vwCl (wM0 cy h a rs u) H) (hD : va_D A (wM0 cy h a rs u)) (hS : va_S A s.heap H locs) (h1 : Ok (fX10_begun_b4 k4 x1 x2 u) K) :
    kW p l e rmX10_begun s m args below meth c H locs (va_Qi (fun r (_ : Unit) => K r) (fun _ => kPost D A (wM0 cy h a rs u)) A) A 4 ls [] := by
  obtain ⟨hx, hb, hr, hml, hown, hts, hlocks, hK, hA⟩ := id E
  unfold fX10_begun_b4 at h1
  refine lv_iload_n hx hb dX10_begun_4 rfl (lv_at hl 2 rfl) ?_
  refine lv_aload_n hx hb dX10_begun_5 rfl (lv_at hl 0 rfl) ?_
  refine k_get (v := .ref a) (C := RX10) (T := TX10) (N := 23) hx hb hts inX10_begun_X10 hown hK hP 0 (wM0_a0 _ _ _ _ _) rfl 0 (by decide) lkX10_begun_7 (m0Fs_0 _ _) dX10_begun_6 ?_
  refine lv_bipush (v := 13) hx hb dX10_begun_9 rfl ?_
  refine k_iald (k := 13) hx hb hK hP 1 (wM0_a1 _ _ _ _ _) rfl rfl dX10_begun_11 ?_
  refine lv_icmp_ge (tgt := 39) hx hb dX10_begun_12 (by decide) (fun c12 => ?_) (fun c12 => ?_)
  · replace h1 := Ok.pos c12 h1
    refine lv_iload_n hx hb dX10_begun_39 rfl (lv_at hl 1 rfl) ?_
    exact kret_r hx hb hr hlocks hP hD hS h1 dX10_begun_40
  · replace h1 := Ok.neg c12 h1
    refine lv_iload_n hx hb dX10_begun_15 rfl (lv_at hl 1 rfl) ?_
    refine lv_aload_n hx hb dX10_begun_16 rfl (lv_at hl 0 rfl) ?_
    refine lv_iload_n hx hb dX10_begun_17 rfl (lv_at hl 2 rfl) ?_
    refine lv_iconst (v := 5) hx hb dX10_begun_18 rfl ?_
    refine kc_rV0 (b := h) (As := [.int x2, .int 5]) (rest := [.int x1]) h1 ⟨hx, hb, hml, hown, hts⟩ (cX10_ofCarM l D cy h a rs H.size u x2 5) (cwV 2 hts gX10_begun_X10_ofCar rfl rfl rfl hdX10_ofCar ⟨Nat.le_of_ble_eq_true rfl, Nat.le_of_ble_eq_true rfl⟩) hK hP hD hS hA (q0 := 0) rfl rfl rfl hl.1 rfl (Nat.le_of_ble_eq_true rfl) dX10_begun_19 ⟨Nat.zero_le _, Nat.zero_le _⟩ (fun r19 H locs h1 hP hS => ?_)
    refine lv_iconst (v := (-1)) hx hb dX10_begun_22 rfl ?_
    refine lv_icmp_ne (tgt := 30) hx hb dX10_begun_23 (by decide) (fun c23 => ?_) (fun c23 => ?_)
    · replace h1 := Ok.neg c23 h1
      refine lv_iconst (v := 1) hx hb dX10_begun_30 rfl ?_
      exact tX10_begun_b31 K E u k4 hk4 x2 x1 1 H locs ls (lv_sub hl [0, 2] rfl) hP hD hS h1
    · replace h1 := Ok.pos c23 h1
      refine lv_iconst (v := 0) hx hb dX10_begun_26 rfl ?_
      refine lv_goto (tgt := 31) hx hb dX10_begun_27 (by decide) ?_
      exact tX10_begun_b31 K E u k4 hk4 x2 x1 0 H locs ls (lv_sub hl [0, 2] rfl) hP hD hS h1
theorem tX10_begun_l4 {p : Program} {l : Launch} {e : Env} {s : State} {m : MethodId} {args : Array Value} {below : List Frame} {meth : Method} {c : Code} {D : va_G} {cy : Nat → ClassId} {A : Nat → Prop} {h : Nat} {a : Nat} {rs : List Value} (K : Int32 → Prop) (E : mE D cy RX10 cX10_begun 3 (some .int) wsX10_begun A p s m args meth c) (u : Nat → Int32) : ∀ (n9 : Nat) (x1 : Int32) (x2 : Int32) (H : Heap) (locs : List Loc) (ls : Array Slot), lv_has ls 3 [(0, .ref h), (1, .int x1), (2, .int x2)] → va_P D vwCl (wM0 cy h a rs u) H → va_D A (wM0 cy h a rs u) → va_S A s.heap H locs → Ok (lop (fun y z => fX10_begun_b4 y z.1 z.2 u) n9 (x1, x2)) K → kW p l e rmX10_begun s m args below meth c H locs (va_Qi (fun r (_ : Unit) => K r) (fun _ => kPost D A (wM0 cy h a rs u)) A) A 4 ls [] := by
  intro n9
  induction n9 with
  | zero =>
    intro x1 x2 H locs ls hl hP hD hS h1
    exact h1.no
  | succ n9 ih =>
    intro x1 x2 H locs ls hl hP hD hS h1
    exact tX10_begun_b4 K E u (lop (fun y z => fX10_begun_b4 y z.1 z.2 u) n9) (fun x1 x2 H locs ls hl hP hD hS h1 => ih x1 x2 H locs ls hl hP hD hS h1) x1 x2 H locs ls hl hP hD hS h1
def fX10_begun_b0 (u : Nat → Int32) : Option (Int32) :=
  lop (fun y z => fX10_begun_b4 y z.1 z.2 u) LF (0, 0)
set_option maxHeartbeats 4000000 in
set_option maxRecDepth 100000 in
theorem tX10_begun_b0 {p : Program} {l : Launch} {e : Env} {s : State} {m : MethodId} {args : Array Value} {below : List Frame} {meth : Method} {c : Code} {D : va_G} {cy : Nat → ClassId} {A : Nat → Prop} {h : Nat} {a : Nat} {rs : List Value} (K : Int32 → Prop) (E : mE D cy RX10 cX10_begun 3 (some .int) wsX10_begun A p s m args meth c) (u : Nat → Int32)
     (H : Heap) (locs : List Loc) (ls : Array Slot) (hl : lv_has ls 3 [(0, .ref h)]) (hP : va_P D vwCl (wM0 cy h a rs u) H) (hD : va_D A (wM0 cy h a rs u)) (hS : va_S A s.heap H locs) (h1 : Ok (fX10_begun_b0 u) K) :
    kW p l e rmX10_begun s m args below meth c H locs (va_Qi (fun r (_ : Unit) => K r) (fun _ => kPost D A (wM0 cy h a rs u)) A) A 0 ls [] := by
  obtain ⟨hx, hb, hr, hml, hown, hts, hlocks, hK, hA⟩ := id E
  unfold fX10_begun_b0 at h1
  refine lv_iconst (v := 0) hx hb dX10_begun_0 rfl ?_
  refine lv_istore_n (lv' := [(1, .int 0), (0, .ref h)]) hx hb dX10_begun_1 rfl hl (by decide) rfl (fun ls hl => ?_)
  refine lv_iconst (v := 0) hx hb dX10_begun_2 rfl ?_
  refine lv_istore_n (lv' := [(2, .int 0), (1, .int 0), (0, .ref h)]) hx hb dX10_begun_3 rfl hl (by decide) rfl (fun ls hl => ?_)
  exact tX10_begun_l4 K E u LF 0 0 H locs ls (lv_sub hl [2, 1, 0] rfl) hP hD hS h1
def fX10_begun (u : Nat → Int32) : Option (Int32) := fX10_begun_b0 u
set_option maxHeartbeats 4000000 in
set_option maxRecDepth 100000 in
theorem cX10_begunM (l : Launch) (D : va_G) (cy : Nat → ClassId) (h : Nat) (a : Nat) (rs : List Value) (sz : Nat) (u : Nat → Int32) : ∀ (K : Int32 → Prop), Ok (fX10_begun u) K → Met l yX10_begun wsX10_begun rmX10_begun (va_Pc [.ref h] (kPre D cy sz (wM0 cy h a rs u))) (va_Qi (fun r (_ : Unit) => K r) (fun _ => kPost D (va_A (wM0 cy h a rs u) sz) (wM0 cy h a rs u)) (va_A (wM0 cy h a rs u) sz)) 0 0 (va_A (wM0 cy h a rs u) sz) := by
  intro K h1
  refine Met.ofW (cc := cX10_begun) (maxL := 3) (ret := (some .int)) (by decide) rfl ?_
  intro p e s m args below meth c s₁ B hml hv
  obtain ⟨rfl, hsz, hP, hK, hD0⟩ := hv
  subst hsz
  have E : mE D cy RX10 cX10_begun 3 (some .int) wsX10_begun (va_A (wM0 cy h a rs u) s.heap.size) p s m _ meth c := ⟨B.exec, B.bytes, B.returns, hml, findClass_of_methodNamed B.named, atoms_spec (ws := wsX10_begun) B.pre, B.notSynchronized, hK, fun q h => Or.inr h⟩
  have hl := lv_entry ([.ref h]) (n := 3) (Nat.le_of_ble_eq_true rfl)
  rw [lg_entry_eq]
  generalize (lg_sl ([.ref h]) ++ List.replicate (3 - (lg_sl ([.ref h])).length) Slot.unset).toArray = ls at hl ⊢
  exact tX10_begun_b0 K E u _ _ _ hl hP hD0.self va_S.rf h1
-- X10_isEasy
abbrev rmX10_isEasy : Room := { frames := 4, cells := 0, slots := 0, locals := 85 }
def fX10_isEasy_b0 (x1 : Int32) (u : Nat → Int32) : Option (Int32) :=
  bnd (fX10_slopeNow u) (fun r1 => bnd (fX10_ofKind x1 0 u) (fun r7 => (if r7 < r1 then some 0 else bnd (fX10_lipNow u) (fun r14 => bnd (fX10_ofKind x1 1 u) (fun r20 => (if r20 < r14 then some 0 else some 1))))))
set_option maxHeartbeats 4000000 in
set_option maxRecDepth 100000 in
theorem tX10_isEasy_b0 {p : Program} {l : Launch} {e : Env} {s : State} {m : MethodId} {args : Array Value} {below : List Frame} {meth : Method} {c : Code} {D : va_G} {cy : Nat → ClassId} {A : Nat → Prop} {h : Nat} {a : Nat} {rs : List Value} (K : Int32 → Prop) (E : mE D cy RX10 cX10_isEasy 2 (some .boolean) wsX10_isEasy A p s m args meth c) (u : Nat → Int32)
     (x1 : Int32) (H : Heap) (locs : List Loc) (ls : Array Slot) (hl : lv_has ls 2 [(0, .ref h), (1, .int x1)]) (hP : va_P D vwCl (wM0 cy h a rs u) H) (hD : va_D A (wM0 cy h a rs u)) (hS : va_S A s.heap H locs) (h1 : Ok (fX10_isEasy_b0 x1 u) K) :
    kW p l e rmX10_isEasy s m args below meth c H locs (va_Qi (fun r (_ : Unit) => K r) (fun _ => kPost D A (wM0 cy h a rs u)) A) A 0 ls [] := by
  obtain ⟨hx, hb, hr, hml, hown, hts, hlocks, hK, hA⟩ := id E
  unfold fX10_isEasy_b0 at h1
  refine lv_aload_n hx hb dX10_isEasy_0 rfl (lv_at hl 0 rfl) ?_
  refine kc_rV0 (b := h) (As := []) (rest := []) h1 ⟨hx, hb, hml, hown, hts⟩ (cX10_slopeNowM l D cy h a rs H.size u) (cwV 0 hts gX10_isEasy_X10_slopeNow rfl rfl rfl hdX10_slopeNow ⟨Nat.le_of_ble_eq_true rfl, Nat.le_of_ble_eq_true rfl⟩) hK hP hD hS hA (q0 := 0) rfl rfl rfl hl.1 rfl (Nat.le_of_ble_eq_true rfl) dX10_isEasy_1 ⟨Nat.zero_le _, Nat.zero_le _⟩ (fun r1 H locs h1 hP hS => ?_)
  refine lv_aload_n hx hb dX10_isEasy_4 rfl (lv_at hl 0 rfl) ?_
  refine lv_iload_n hx hb dX10_isEasy_5 rfl (lv_at hl 1 rfl) ?_
  refine lv_iconst (v := 0) hx hb dX10_isEasy_6 rfl ?_
  refine kc_rV0 (b := h) (As := [.int x1, .int 0]) (rest := [.int r1]) h1 ⟨hx, hb, hml, hown, hts⟩ (cX10_ofKindM l D cy h a rs H.size u x1 0) (cwV 2 hts gX10_isEasy_X10_ofKind rfl rfl rfl hdX10_ofKind ⟨Nat.le_of_ble_eq_true rfl, Nat.le_of_ble_eq_true rfl⟩) hK hP hD hS hA (q0 := 0) rfl rfl rfl hl.1 rfl (Nat.le_of_ble_eq_true rfl) dX10_isEasy_7 ⟨Nat.zero_le _, Nat.zero_le _⟩ (fun r7 H locs h1 hP hS => ?_)
  refine lv_icmp_gt (tgt := 30) hx hb dX10_isEasy_10 (by decide) (fun c10 => ?_) (fun c10 => ?_)
  · replace h1 := Ok.pos c10 h1
    refine lv_iconst (v := 0) hx hb dX10_isEasy_30 rfl ?_
    exact kret_rz hx hb hr rfl hlocks hP hD hS h1 dX10_isEasy_31
  · replace h1 := Ok.neg c10 h1
    refine lv_aload_n hx hb dX10_isEasy_13 rfl (lv_at hl 0 rfl) ?_
    refine kc_rV0 (b := h) (As := []) (rest := []) h1 ⟨hx, hb, hml, hown, hts⟩ (cX10_lipNowM l D cy h a rs H.size u) (cwV 0 hts gX10_isEasy_X10_lipNow rfl rfl rfl hdX10_lipNow ⟨Nat.le_of_ble_eq_true rfl, Nat.le_of_ble_eq_true rfl⟩) hK hP hD hS hA (q0 := 0) rfl rfl rfl hl.1 rfl (Nat.le_of_ble_eq_true rfl) dX10_isEasy_14 ⟨Nat.zero_le _, Nat.zero_le _⟩ (fun r14 H locs h1 hP hS => ?_)
    refine lv_aload_n hx hb dX10_isEasy_17 rfl (lv_at hl 0 rfl) ?_
    refine lv_iload_n hx hb dX10_isEasy_18 rfl (lv_at hl 1 rfl) ?_
    refine lv_iconst (v := 1) hx hb dX10_isEasy_19 rfl ?_
    refine kc_rV0 (b := h) (As := [.int x1, .int 1]) (rest := [.int r14]) h1 ⟨hx, hb, hml, hown, hts⟩ (cX10_ofKindM l D cy h a rs H.size u x1 1) (cwV 2 hts gX10_isEasy_X10_ofKind rfl rfl rfl hdX10_ofKind ⟨Nat.le_of_ble_eq_true rfl, Nat.le_of_ble_eq_true rfl⟩) hK hP hD hS hA (q0 := 0) rfl rfl rfl hl.1 rfl (Nat.le_of_ble_eq_true rfl) dX10_isEasy_20 ⟨Nat.zero_le _, Nat.zero_le _⟩ (fun r20 H locs h1 hP hS => ?_)
    refine lv_icmp_gt (tgt := 30) hx hb dX10_isEasy_23 (by decide) (fun c23 => ?_) (fun c23 => ?_)
    · replace h1 := Ok.pos c23 h1
      refine lv_iconst (v := 0) hx hb dX10_isEasy_30 rfl ?_
      exact kret_rz hx hb hr rfl hlocks hP hD hS h1 dX10_isEasy_31
    · replace h1 := Ok.neg c23 h1
      refine lv_iconst (v := 1) hx hb dX10_isEasy_26 rfl ?_
      refine lv_goto (tgt := 31) hx hb dX10_isEasy_27 (by decide) ?_
      exact kret_rz hx hb hr rfl hlocks hP hD hS h1 dX10_isEasy_31
def fX10_isEasy (p1 : Int32) (u : Nat → Int32) : Option (Int32) := fX10_isEasy_b0 p1 u
set_option maxHeartbeats 4000000 in
set_option maxRecDepth 100000 in
theorem cX10_isEasyM (l : Launch) (D : va_G) (cy : Nat → ClassId) (h : Nat) (a : Nat) (rs : List Value) (sz : Nat) (u : Nat → Int32) (p1 : Int32) : ∀ (K : Int32 → Prop), Ok (fX10_isEasy p1 u) K → Met l yX10_isEasy wsX10_isEasy rmX10_isEasy (va_Pc [.ref h, .int p1] (kPre D cy sz (wM0 cy h a rs u))) (va_Qi (fun r (_ : Unit) => K r) (fun _ => kPost D (va_A (wM0 cy h a rs u) sz) (wM0 cy h a rs u)) (va_A (wM0 cy h a rs u) sz)) 0 0 (va_A (wM0 cy h a rs u) sz) := by
  intro K h1
  refine Met.ofW (cc := cX10_isEasy) (maxL := 2) (ret := (some .boolean)) (by decide) rfl ?_
  intro p e s m args below meth c s₁ B hml hv
  obtain ⟨rfl, hsz, hP, hK, hD0⟩ := hv
  subst hsz
  have E : mE D cy RX10 cX10_isEasy 2 (some .boolean) wsX10_isEasy (va_A (wM0 cy h a rs u) s.heap.size) p s m _ meth c := ⟨B.exec, B.bytes, B.returns, hml, findClass_of_methodNamed B.named, atoms_spec (ws := wsX10_isEasy) B.pre, B.notSynchronized, hK, fun q h => Or.inr h⟩
  have hl := lv_entry ([.ref h, .int p1]) (n := 2) (Nat.le_of_ble_eq_true rfl)
  rw [lg_entry_eq]
  generalize (lg_sl ([.ref h, .int p1]) ++ List.replicate (2 - (lg_sl ([.ref h, .int p1])).length) Slot.unset).toArray = ls at hl ⊢
  exact tX10_isEasy_b0 K E u p1 _ _ _ hl hP hD0.self va_S.rf h1
-- X10_moveToFront
theorem inX10_moveToFront_X10 : ∀ w ∈ u_ws RX10 TX10 23, w ∈ wsX10_moveToFront := k_lays 7 rfl
theorem lkX10_moveToFront_7 : Cond.fieldLink RX10 7 "FerryRampModel" "state" "[I" ∈ wsX10_moveToFront := List.mem_of_getElem? (i := 1) rfl
abbrev rmX10_moveToFront : Room := { frames := 1, cells := 0, slots := 0, locals := 22 }
def fX10_moveToFront_b8 (k8 : Int32 × Int32 × Int32 × (Nat → Int32) → Option (Int32 × (Nat → Int32))) (x1 : Int32) (x2 : Int32) (x3 : Int32) (u : Nat → Int32) : Option (Int32 × (Nat → Int32)) :=
  (if x3 ≤ 0 then some (x2, upd u 41 x1) else grd (inb ((41 + x3) - 1) 561) (grd (inb (41 + x3) 561) (k8 (x1, x2, x3 + (-1), upd u (ix (41 + x3)) (u (ix ((41 + x3) - 1)))))))
set_option maxHeartbeats 4000000 in
set_option maxRecDepth 100000 in
theorem tX10_moveToFront_b8 {p : Program} {l : Launch} {e : Env} {s : State} {m : MethodId} {args : Array Value} {below : List Frame} {meth : Method} {c : Code} {D : va_G} {cy : Nat → ClassId} {A : Nat → Prop} {h : Nat} {a : Nat} {rs : List Value} (K : Int32 × (Nat → Int32) → Prop) (E : mE D cy RX10 cX10_moveToFront 4 (some .int) wsX10_moveToFront A p s m args meth c)
    (k8 : Int32 × Int32 × Int32 × (Nat → Int32) → Option (Int32 × (Nat → Int32))) (hk8 : ∀ (x1 : Int32) (x2 : Int32) (x3 : Int32) (u : Nat → Int32) (H : Heap) (locs : List Loc) (ls : Array Slot), lv_has ls 4 [(0, .ref h), (1, .int x1), (2, .int x2), (3, .int x3)] → va_P D vwCl (wM0 cy h a rs u) H → va_D A (wM0 cy h a rs u) → va_S A s.heap H locs → Ok (k8 (x1, x2, x3, u)) K → kW p l e rmX10_moveToFront s m args below meth c H locs (va_Qi (fun r q => K (r, q)) (fun q => kPost D A (wM0 cy h a rs q)) A) A 8 ls [])
     (x1 : Int32) (x2 : Int32) (x3 : Int32) (u : Nat → Int32) (H : Heap) (locs : List Loc) (ls : Array Slot) (hl : lv_has ls 4 [(0, .ref h), (1, .int x1), (2, .int x2), (3, .int x3)]) (hP : va_P D vwCl (wM0 cy h a rs u) H) (hD : va_D A (wM0 cy h a rs u)) (hS : va_S A s.heap H locs) (h1 : Ok (fX10_moveToFront_b8 k8 x1 x2 x3 u) K) :
    kW p l e rmX10_moveToFront s m args below meth c H locs (va_Qi (fun r q => K (r, q)) (fun q => kPost D A (wM0 cy h a rs q)) A) A 8 ls [] := by
  obtain ⟨hx, hb, hr, hml, hown, hts, hlocks, hK, hA⟩ := id E
  unfold fX10_moveToFront_b8 at h1
  refine lv_iload_n hx hb dX10_moveToFront_8 rfl (lv_at hl 3 rfl) ?_
  refine lv_if_le (tgt := 38) hx hb dX10_moveToFront_9 (by decide) (fun c9 => ?_) (fun c9 => ?_)
  · replace h1 := Ok.pos c9 h1
    refine lv_aload_n hx hb dX10_moveToFront_38 rfl (lv_at hl 0 rfl) ?_
    refine k_get (v := .ref a) (C := RX10) (T := TX10) (N := 23) hx hb hts inX10_moveToFront_X10 hown hK hP 0 (wM0_a0 _ _ _ _ _) rfl 0 (by decide) lkX10_moveToFront_7 (m0Fs_0 _ _) dX10_moveToFront_39 ?_
    refine lv_bipush (v := 41) hx hb dX10_moveToFront_42 rfl ?_
    refine lv_iload_n hx hb dX10_moveToFront_44 rfl (lv_at hl 1 rfl) ?_
    refine k_iast (k := 41) (ws' := wM0 cy h a rs (upd u 41 x1)) hx hb hK hP hD hS 1 (wM0_a1 _ _ _ _ _) rfl rfl (wM0_upd _ _ _ _ _ _ _) dX10_moveToFront_45 (fun H locs hP hD hS => ?_)
    refine lv_iload_n hx hb dX10_moveToFront_46 rfl (lv_at hl 2 rfl) ?_
    exact kret_i hx hb hr hlocks hP hD hS h1 dX10_moveToFront_47
  · replace h1 := Ok.neg c9 h1
    refine lv_aload_n hx hb dX10_moveToFront_12 rfl (lv_at hl 0 rfl) ?_
    refine k_get (v := .ref a) (C := RX10) (T := TX10) (N := 23) hx hb hts inX10_moveToFront_X10 hown hK hP 0 (wM0_a0 _ _ _ _ _) rfl 0 (by decide) lkX10_moveToFront_7 (m0Fs_0 _ _) dX10_moveToFront_13 ?_
    refine lv_bipush (v := 41) hx hb dX10_moveToFront_16 rfl ?_
    refine lv_iload_n hx hb dX10_moveToFront_18 rfl (lv_at hl 3 rfl) ?_
    refine lv_iadd hx hb dX10_moveToFront_19 ?_
    refine lv_aload_n hx hb dX10_moveToFront_20 rfl (lv_at hl 0 rfl) ?_
    refine k_get (v := .ref a) (C := RX10) (T := TX10) (N := 23) hx hb hts inX10_moveToFront_X10 hown hK hP 0 (wM0_a0 _ _ _ _ _) rfl 0 (by decide) lkX10_moveToFront_7 (m0Fs_0 _ _) dX10_moveToFront_21 ?_
    refine lv_bipush (v := 41) hx hb dX10_moveToFront_24 rfl ?_
    refine lv_iload_n hx hb dX10_moveToFront_26 rfl (lv_at hl 3 rfl) ?_
    refine lv_iadd hx hb dX10_moveToFront_27 ?_
    refine lv_iconst (v := 1) hx hb dX10_moveToFront_28 rfl ?_
    refine lv_isub hx hb dX10_moveToFront_29 ?_
    have g30 := h1.grd1
    replace h1 := h1.grd2
    refine k_iald (k := (ix ((41 + x3) - 1))) hx hb hK hP 1 (wM0_a1 _ _ _ _ _) g30 rfl dX10_moveToFront_30 ?_
    have g31 := h1.grd1
    replace h1 := h1.grd2
    refine k_iast (k := (ix (41 + x3))) (ws' := wM0 cy h a rs (upd u (ix (41 + x3)) (u (ix ((41 + x3) - 1))))) hx hb hK hP hD hS 1 (wM0_a1 _ _ _ _ _) g31 rfl (wM0_upd _ _ _ _ _ _ _) dX10_moveToFront_31 (fun H locs hP hD hS => ?_)
    refine lv_iinc (v := x3 + (-1)) (lv' := [(3, .int (x3 + (-1))), (0, .ref h), (1, .int x1), (2, .int x2)]) hx hb dX10_moveToFront_32 hl (k := 3) rfl rfl (by decide) rfl (fun ls hl => ?_)
    refine lv_goto (tgt := 8) hx hb dX10_moveToFront_35 (by decide) ?_
    exact hk8 x1 x2 (x3 + (-1)) (upd u (ix (41 + x3)) (u (ix ((41 + x3) - 1)))) H locs ls (lv_sub hl [1, 2, 3, 0] rfl) hP hD hS h1
theorem tX10_moveToFront_l8 {p : Program} {l : Launch} {e : Env} {s : State} {m : MethodId} {args : Array Value} {below : List Frame} {meth : Method} {c : Code} {D : va_G} {cy : Nat → ClassId} {A : Nat → Prop} {h : Nat} {a : Nat} {rs : List Value} (K : Int32 × (Nat → Int32) → Prop) (E : mE D cy RX10 cX10_moveToFront 4 (some .int) wsX10_moveToFront A p s m args meth c) : ∀ (n9 : Nat) (x1 : Int32) (x2 : Int32) (x3 : Int32) (u : Nat → Int32) (H : Heap) (locs : List Loc) (ls : Array Slot), lv_has ls 4 [(0, .ref h), (1, .int x1), (2, .int x2), (3, .int x3)] → va_P D vwCl (wM0 cy h a rs u) H → va_D A (wM0 cy h a rs u) → va_S A s.heap H locs → Ok (lop (fun y z => fX10_moveToFront_b8 y z.1 z.2.1 z.2.2.1 z.2.2.2) n9 (x1, x2, x3, u)) K → kW p l e rmX10_moveToFront s m args below meth c H locs (va_Qi (fun r q => K (r, q)) (fun q => kPost D A (wM0 cy h a rs q)) A) A 8 ls [] := by
  intro n9
  induction n9 with
  | zero =>
    intro x1 x2 x3 u H locs ls hl hP hD hS h1
    exact h1.no
  | succ n9 ih =>
    intro x1 x2 x3 u H locs ls hl hP hD hS h1
    exact tX10_moveToFront_b8 K E (lop (fun y z => fX10_moveToFront_b8 y z.1 z.2.1 z.2.2.1 z.2.2.2) n9) (fun x1 x2 x3 u H locs ls hl hP hD hS h1 => ih x1 x2 x3 u H locs ls hl hP hD hS h1) x1 x2 x3 u H locs ls hl hP hD hS h1
def fX10_moveToFront_b0 (x1 : Int32) (u : Nat → Int32) : Option (Int32 × (Nat → Int32)) :=
  bnd (fX10_placeOf x1 u) (fun r2 => lop (fun y z => fX10_moveToFront_b8 y z.1 z.2.1 z.2.2.1 z.2.2.2) LF (x1, r2, r2, u))
set_option maxHeartbeats 4000000 in
set_option maxRecDepth 100000 in
theorem tX10_moveToFront_b0 {p : Program} {l : Launch} {e : Env} {s : State} {m : MethodId} {args : Array Value} {below : List Frame} {meth : Method} {c : Code} {D : va_G} {cy : Nat → ClassId} {A : Nat → Prop} {h : Nat} {a : Nat} {rs : List Value} (K : Int32 × (Nat → Int32) → Prop) (E : mE D cy RX10 cX10_moveToFront 4 (some .int) wsX10_moveToFront A p s m args meth c)
     (x1 : Int32) (u : Nat → Int32) (H : Heap) (locs : List Loc) (ls : Array Slot) (hl : lv_has ls 4 [(0, .ref h), (1, .int x1)]) (hP : va_P D vwCl (wM0 cy h a rs u) H) (hD : va_D A (wM0 cy h a rs u)) (hS : va_S A s.heap H locs) (h1 : Ok (fX10_moveToFront_b0 x1 u) K) :
    kW p l e rmX10_moveToFront s m args below meth c H locs (va_Qi (fun r q => K (r, q)) (fun q => kPost D A (wM0 cy h a rs q)) A) A 0 ls [] := by
  obtain ⟨hx, hb, hr, hml, hown, hts, hlocks, hK, hA⟩ := id E
  unfold fX10_moveToFront_b0 at h1
  refine lv_aload_n hx hb dX10_moveToFront_0 rfl (lv_at hl 0 rfl) ?_
  refine lv_iload_n hx hb dX10_moveToFront_1 rfl (lv_at hl 1 rfl) ?_
  refine kc_rV0 (b := h) (As := [.int x1]) (rest := []) h1 ⟨hx, hb, hml, hown, hts⟩ (cX10_placeOfM l D cy h a rs H.size u x1) (cwV 1 hts gX10_moveToFront_X10_placeOf rfl rfl rfl hdX10_placeOf ⟨Nat.le_of_ble_eq_true rfl, Nat.le_of_ble_eq_true rfl⟩) hK hP hD hS hA (q0 := 0) rfl rfl rfl hl.1 rfl (Nat.le_of_ble_eq_true rfl) dX10_moveToFront_2 ⟨Nat.zero_le _, Nat.zero_le _⟩ (fun r2 H locs h1 hP hS => ?_)
  refine lv_istore_n (lv' := [(2, .int r2), (0, .ref h), (1, .int x1)]) hx hb dX10_moveToFront_5 rfl hl (by decide) rfl (fun ls hl => ?_)
  refine lv_iload_n hx hb dX10_moveToFront_6 rfl (lv_at hl 0 rfl) ?_
  refine lv_istore_n (lv' := [(3, .int r2), (2, .int r2), (0, .ref h), (1, .int x1)]) hx hb dX10_moveToFront_7 rfl hl (by decide) rfl (fun ls hl => ?_)
  exact tX10_moveToFront_l8 K E LF x1 r2 r2 u H locs ls (lv_sub hl [2, 3, 1, 0] rfl) hP hD hS h1
def fX10_moveToFront (p1 : Int32) (u : Nat → Int32) : Option (Int32 × (Nat → Int32)) := fX10_moveToFront_b0 p1 u
set_option maxHeartbeats 4000000 in
set_option maxRecDepth 100000 in
theorem cX10_moveToFrontM (l : Launch) (D : va_G) (cy : Nat → ClassId) (h : Nat) (a : Nat) (rs : List Value) (sz : Nat) (u : Nat → Int32) (p1 : Int32) : ∀ (K : Int32 → (Nat → Int32) → Prop), Ok (fX10_moveToFront p1 u) (fun q => K q.1 q.2) → Met l yX10_moveToFront wsX10_moveToFront rmX10_moveToFront (va_Pc [.ref h, .int p1] (kPre D cy sz (wM0 cy h a rs u))) (va_Qi K (fun q => kPost D (va_A (wM0 cy h a rs u) sz) (wM0 cy h a rs q)) (va_A (wM0 cy h a rs u) sz)) 0 0 (va_A (wM0 cy h a rs u) sz) := by
  intro K h1
  refine Met.ofW (cc := cX10_moveToFront) (maxL := 4) (ret := (some .int)) (by decide) rfl ?_
  intro p e s m args below meth c s₁ B hml hv
  obtain ⟨rfl, hsz, hP, hK, hD0⟩ := hv
  subst hsz
  have E : mE D cy RX10 cX10_moveToFront 4 (some .int) wsX10_moveToFront (va_A (wM0 cy h a rs u) s.heap.size) p s m _ meth c := ⟨B.exec, B.bytes, B.returns, hml, findClass_of_methodNamed B.named, atoms_spec (ws := wsX10_moveToFront) B.pre, B.notSynchronized, hK, fun q h => Or.inr h⟩
  have hl := lv_entry ([.ref h, .int p1]) (n := 4) (Nat.le_of_ble_eq_true rfl)
  rw [lg_entry_eq]
  generalize (lg_sl ([.ref h, .int p1]) ++ List.replicate (4 - (lg_sl ([.ref h, .int p1])).length) Slot.unset).toArray = ls at hl ⊢
  exact tX10_moveToFront_b0 (fun q => K q.1 q.2) E p1 u _ _ _ hl hP hD0.self va_S.rf h1
