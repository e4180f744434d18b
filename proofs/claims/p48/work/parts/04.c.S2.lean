-- X8_isFreeSomewhere
theorem inX8_isFreeSomewhere_X8 : ∀ w ∈ u_ws RX8 TX8 13, w ∈ wsX8_isFreeSomewhere := k_lays 3 rfl
theorem lkX8_isFreeSomewhere_19 : Cond.fieldLink RX8 19 "FerryRamp$State" "settings" "[I" ∈ wsX8_isFreeSomewhere := List.mem_of_getElem? (i := 1) rfl
theorem lkX8_isFreeSomewhere_44 : Cond.fieldLink RX8 44 "FerryRamp$State" "taken" "[I" ∈ wsX8_isFreeSomewhere := List.mem_of_getElem? (i := 2) rfl
abbrev rmX8_isFreeSomewhere : Room := { frames := 0, cells := 0, slots := 0, locals := 0 }
def fX8_isFreeSomewhere_b2 (k2 : Int32 × Int32 → Option (Int32)) (x1 : Int32) (x2 : Int32) (u : KS) : Option (Int32) :=
  (if 3 ≤ x2 then some 0 else grd (inb x2 3) ((if ((sT u 6) - (sN u (ix x2))) < x1 then k2 (x1, x2 + 1) else some 1)))
set_option maxHeartbeats 4000000 in
set_option maxRecDepth 100000 in
theorem tX8_isFreeSomewhere_b2 {p : Program} {l : Launch} {e : Env} {s : State} {m : MethodId} {args : Array Value} {below : List Frame} {meth : Method} {c : Code} {D : va_G} {cy : Nat → ClassId} {A : Nat → Prop} {h : Nat} {a : Nat → Nat} (K : Int32 → Prop) (E : mE D cy RX8 cX8_isFreeSomewhere 3 (some .boolean) wsX8_isFreeSomewhere A p s m args meth c) (u : KS)
    (k2 : Int32 × Int32 → Option (Int32)) (hk2 : ∀ (x1 : Int32) (x2 : Int32) (H : Heap) (locs : List Loc) (ls : Array Slot), lv_has ls 3 [(0, .ref h), (1, .int x1), (2, .int x2)] → va_P D kCl (wS cy h a u) H → va_D A (wS cy h a u) → va_S A s.heap H locs → Ok (k2 (x1, x2)) K → kW p l e rmX8_isFreeSomewhere s m args below meth c H locs (va_Qi (fun r (_ : Unit) => K r) (fun _ => kPost D A (wS cy h a u)) A) A 2 ls [])
     (x1 : Int32) (x2 : Int32) (H : Heap) (locs : List Loc) (ls : Array Slot) (hl : lv_has ls 3 [(0, .ref h), (1, .int x1), (2, .int x2)]) (hP : va_P D kCl (wS cy h a u) H) (hD : va_D A (wS cy h a u)) (hS : va_S A s.heap H locs) (h1 : Ok (fX8_isFreeSomewhere_b2 k2 x1 x2 u) K) :
    kW p l e rmX8_isFreeSomewhere s m args below meth c H locs (va_Qi (fun r (_ : Unit) => K r) (fun _ => kPost D A (wS cy h a u)) A) A 2 ls [] := by
  obtain ⟨hx, hb, hr, hml, hown, hts, hlocks, hK, hA⟩ := id E
  unfold fX8_isFreeSomewhere_b2 at h1
  refine lv_iload_n hx hb dX8_isFreeSomewhere_2 rfl (lv_at hl 2 rfl) ?_
  refine lv_iconst (v := 3) hx hb dX8_isFreeSomewhere_3 rfl ?_
  refine lv_icmp_ge (tgt := 33) hx hb dX8_isFreeSomewhere_4 (by decide) (fun c4 => ?_) (fun c4 => ?_)
  · replace h1 := Ok.pos c4 h1
    refine lv_iconst (v := 0) hx hb dX8_isFreeSomewhere_33 rfl ?_
    exact kret_rz hx hb hr rfl hlocks hP hD hS h1 dX8_isFreeSomewhere_34
  · replace h1 := Ok.neg c4 h1
    refine lv_aload_n hx hb dX8_isFreeSomewhere_7 rfl (lv_at hl 0 rfl) ?_
    refine k_get (v := .ref (a 1)) (C := RX8) (T := TX8) (N := 13) hx hb hts inX8_isFreeSomewhere_X8 hown hK hP 0 (wS_a0 _ _ _ _) rfl 1 (by decide) lkX8_isFreeSomewhere_19 (sFs_1 _ _) dX8_isFreeSomewhere_8 ?_
    refine lv_bipush (v := 6) hx hb dX8_isFreeSomewhere_11 rfl ?_
    refine k_iald (k := 6) hx hb hK hP 2 (wS_a2 _ _ _ _) rfl rfl dX8_isFreeSomewhere_13 ?_
    refine lv_aload_n hx hb dX8_isFreeSomewhere_14 rfl (lv_at hl 0 rfl) ?_
    refine k_get (v := .ref (a 8)) (C := RX8) (T := TX8) (N := 13) hx hb hts inX8_isFreeSomewhere_X8 hown hK hP 0 (wS_a0 _ _ _ _) rfl 8 (by decide) lkX8_isFreeSomewhere_44 (sFs_8 _ _) dX8_isFreeSomewhere_15 ?_
    refine lv_iload_n hx hb dX8_isFreeSomewhere_18 rfl (lv_at hl 2 rfl) ?_
    have g19 := h1.grd1
    replace h1 := h1.grd2
    refine k_iald (k := (ix x2)) hx hb hK hP 9 (wS_a9 _ _ _ _) g19 rfl dX8_isFreeSomewhere_19 ?_
    refine lv_isub hx hb dX8_isFreeSomewhere_20 ?_
    refine lv_iload_n hx hb dX8_isFreeSomewhere_21 rfl (lv_at hl 1 rfl) ?_
    refine lv_icmp_lt (tgt := 27) hx hb dX8_isFreeSomewhere_22 (by decide) (fun c22 => ?_) (fun c22 => ?_)
    · replace h1 := Ok.pos c22 h1
      refine lv_iinc (v := x2 + 1) (lv' := [(2, .int (x2 + 1)), (0, .ref h), (1, .int x1)]) hx hb dX8_isFreeSomewhere_27 hl (k := 2) rfl rfl (by decide) rfl (fun ls hl => ?_)
      refine lv_goto (tgt := 2) hx hb dX8_isFreeSomewhere_30 (by decide) ?_
      exact hk2 x1 (x2 + 1) H locs ls (lv_sub hl [1, 2, 0] rfl) hP hD hS h1
    · replace h1 := Ok.neg c22 h1
      refine lv_iconst (v := 1) hx hb dX8_isFreeSomewhere_25 rfl ?_
      exact kret_rz hx hb hr rfl hlocks hP hD hS h1 dX8_isFreeSomewhere_26
theorem tX8_isFreeSomewhere_l2 {p : Program} {l : Launch} {e : Env} {s : State} {m : MethodId} {args : Array Value} {below : List Frame} {meth : Method} {c : Code} {D : va_G} {cy : Nat → ClassId} {A : Nat → Prop} {h : Nat} {a : Nat → Nat} (K : Int32 → Prop) (E : mE D cy RX8 cX8_isFreeSomewhere 3 (some .boolean) wsX8_isFreeSomewhere A p s m args meth c) (u : KS) : ∀ (n9 : Nat) (x1 : Int32) (x2 : Int32) (H : Heap) (locs : List Loc) (ls : Array Slot), lv_has ls 3 [(0, .ref h), (1, .int x1), (2, .int x2)] → va_P D kCl (wS cy h a u) H → va_D A (wS cy h a u) → va_S A s.heap H locs → Ok (lop (fun y z => fX8_isFreeSomewhere_b2 y z.1 z.2 u) n9 (x1, x2)) K → kW p l e rmX8_isFreeSomewhere s m args below meth c H locs (va_Qi (fun r (_ : Unit) => K r) (fun _ => kPost D A (wS cy h a u)) A) A 2 ls [] := by
  intro n9
  induction n9 with
  | zero =>
    intro x1 x2 H locs ls hl hP hD hS h1
    exact h1.no
  | succ n9 ih =>
    intro x1 x2 H locs ls hl hP hD hS h1
    exact tX8_isFreeSomewhere_b2 K E u (lop (fun y z => fX8_isFreeSomewhere_b2 y z.1 z.2 u) n9) (fun x1 x2 H locs ls hl hP hD hS h1 => ih x1 x2 H locs ls hl hP hD hS h1) x1 x2 H locs ls hl hP hD hS h1
def fX8_isFreeSomewhere_b0 (x1 : Int32) (u : KS) : Option (Int32) :=
  lop (fun y z => fX8_isFreeSomewhere_b2 y z.1 z.2 u) LF (x1, 0)
set_option maxHeartbeats 4000000 in
set_option maxRecDepth 100000 in
theorem tX8_isFreeSomewhere_b0 {p : Program} {l : Launch} {e : Env} {s : State} {m : MethodId} {args : Array Value} {below : List Frame} {meth : Method} {c : Code} {D : va_G} {cy : Nat → ClassId} {A : Nat → Prop} {h : Nat} {a : Nat → Nat} (K : Int32 → Prop) (E : mE D cy RX8 cX8_isFreeSomewhere 3 (some .boolean) wsX8_isFreeSomewhere A p s m args meth c) (u : KS)
     (x1 : Int32) (H : Heap) (locs : List Loc) (ls : Array Slot) (hl : lv_has ls 3 [(0, .ref h), (1, .int x1)]) (hP : va_P D kCl (wS cy h a u) H) (hD : va_D A (wS cy h a u)) (hS : va_S A s.heap H locs) (h1 : Ok (fX8_isFreeSomewhere_b0 x1 u) K) :
    kW p l e rmX8_isFreeSomewhere s m args below meth c H locs (va_Qi (fun r (_ : Unit) => K r) (fun _ => kPost D A (wS cy h a u)) A) A 0 ls [] := by
  obtain ⟨hx, hb, hr, hml, hown, hts, hlocks, hK, hA⟩ := id E
  unfold fX8_isFreeSomewhere_b0 at h1
  refine lv_iconst (v := 0) hx hb dX8_isFreeSomewhere_0 rfl ?_
  refine lv_istore_n (lv' := [(2, .int 0), (0, .ref h), (1, .int x1)]) hx hb dX8_isFreeSomewhere_1 rfl hl (by decide) rfl (fun ls hl => ?_)
  exact tX8_isFreeSomewhere_l2 K E u LF x1 0 H locs ls (lv_sub hl [1, 2, 0] rfl) hP hD hS h1
def fX8_isFreeSomewhere (p1 : Int32) (u : KS) : Option (Int32) := fX8_isFreeSomewhere_b0 p1 u
set_option maxHeartbeats 4000000 in
set_option maxRecDepth 100000 in
theorem cX8_isFreeSomewhereM (l : Launch) (D : va_G) (cy : Nat → ClassId) (h : Nat) (a : Nat → Nat) (sz : Nat) (u : KS) (p1 : Int32) : ∀ (K : Int32 → Prop), Ok (fX8_isFreeSomewhere p1 u) K → Met l yX8_isFreeSomewhere wsX8_isFreeSomewhere rmX8_isFreeSomewhere (va_Pc [.ref h, .int p1] (kPre D cy sz (wS cy h a u))) (va_Qi (fun r (_ : Unit) => K r) (fun _ => kPost D (va_A (wS cy h a u) sz) (wS cy h a u)) (va_A (wS cy h a u) sz)) 0 0 (va_A (wS cy h a u) sz) := by
  intro K h1
  refine Met.ofW (cc := cX8_isFreeSomewhere) (maxL := 3) (ret := (some .boolean)) (by decide) rfl ?_
  intro p e s m args below meth c s₁ B hml hv
  obtain ⟨rfl, hsz, hP, hK, hD0⟩ := hv
  subst hsz
  have E : mE D cy RX8 cX8_isFreeSomewhere 3 (some .boolean) wsX8_isFreeSomewhere (va_A (wS cy h a u) s.heap.size) p s m _ meth c := ⟨B.exec, B.bytes, B.returns, hml, findClass_of_methodNamed B.named, atoms_spec (ws := wsX8_isFreeSomewhere) B.pre, B.notSynchronized, hK, fun q h => Or.inr h⟩
  have hl := lv_entry ([.ref h, .int p1]) (n := 3) (Nat.le_of_ble_eq_true rfl)
  rw [lg_entry_eq]
  generalize (lg_sl ([.ref h, .int p1]) ++ List.replicate (3 - (lg_sl ([.ref h, .int p1])).length) Slot.unset).toArray = ls at hl ⊢
  exact tX8_isFreeSomewhere_b0 K E u p1 _ _ _ hl hP hD0.self va_S.rf h1
-- X8_reasonFor
theorem inX8_reasonFor_X8 : ∀ w ∈ u_ws RX8 TX8 13, w ∈ wsX8_reasonFor := k_lays 26 rfl
theorem lkX8_reasonFor_11 : Cond.fieldLink RX8 11 "FerryRamp$State" "counts" "[I" ∈ wsX8_reasonFor := List.mem_of_getElem? (i := 1) rfl
theorem hdX8_isFreeSomewhere : yX8_isFreeSomewhere.cls = RX8 ∧ yX8_isFreeSomewhere.cls ≠ "java/lang/invoke/MethodHandle" ∧ yX8_isFreeSomewhere.cls ≠ "java/lang/invoke/VarHandle" ∧ (parseMethodDescriptor yX8_isFreeSomewhere.desc).map (fun d => d.parameters.length) = some 1 := by decide +kernel
theorem lkX8_reasonFor_19 : Cond.fieldLink RX8 19 "FerryRamp$State" "settings" "[I" ∈ wsX8_reasonFor := List.mem_of_getElem? (i := 2) rfl
theorem hdX8_suitingLane : yX8_suitingLane.cls = RX8 ∧ yX8_suitingLane.cls ≠ "java/lang/invoke/MethodHandle" ∧ yX8_suitingLane.cls ≠ "java/lang/invoke/VarHandle" ∧ (parseMethodDescriptor yX8_suitingLane.desc).map (fun d => d.parameters.length) = some 2 := by decide +kernel
theorem lkX8_reasonFor_56 : Cond.fieldLink RX8 56 "FerryRamp$State" "slope" "I" ∈ wsX8_reasonFor := List.mem_of_getElem? (i := 3) rfl
theorem lkX8_reasonFor_59 : Cond.fieldLink RX8 59 "FerryRamp$State" "lip" "I" ∈ wsX8_reasonFor := List.mem_of_getElem? (i := 4) rfl
abbrev rmX8_reasonFor : Room := { frames := 1, cells := 0, slots := 0, locals := 28 }
def fX8_reasonFor_b0 (x1 : Int32) (u : KS) : Option (Int32) :=
  (if (sC u 16) = 0 then some 1 else (if (sC u 8) = (-1) then bnd (fX8_carFact x1 0 u) (fun r28 => bnd (fX8_carFact x1 1 u) (fun r35 => bnd (fX8_kindFact r28 2 u) (fun r42 => bnd (fX8_isFreeSomewhere r42 u) (fun r50 => (if r50 = 0 then some 3 else (if ((sC u 7) + r35) ≤ (sT u 7) then bnd (fX8_suitingLane r42 r35 u) (fun r83 => (if r83 = (-1) then some 5 else bnd (fX8_kindFact r28 0 u) (fun r99 => (if (sp u) ≤ r99 then bnd (fX8_kindFact r28 1 u) (fun r115 => (if (si u) ≤ r115 then some 0 else some 7)) else some 6)))) else some 4)))))) else some 2))
set_option maxHeartbeats 4000000 in
set_option maxRecDepth 100000 in
theorem tX8_reasonFor_b0 {p : Program} {l : Launch} {e : Env} {s : State} {m : MethodId} {args : Array Value} {below : List Frame} {meth : Method} {c : Code} {D : va_G} {cy : Nat → ClassId} {A : Nat → Prop} {h : Nat} {a : Nat → Nat} (K : Int32 → Prop) (E : mE D cy RX8 cX8_reasonFor 5 (some .int) wsX8_reasonFor A p s m args meth c) (u : KS)
     (x1 : Int32) (H : Heap) (locs : List Loc) (ls : Array Slot) (hl : lv_has ls 5 [(0, .ref h), (1, .int x1)]) (hP : va_P D kCl (wS cy h a u) H) (hD : va_D A (wS cy h a u)) (hS : va_S A s.heap H locs) (h1 : Ok (fX8_reasonFor_b0 x1 u) K) :
    kW p l e rmX8_reasonFor s m args below meth c H locs (va_Qi (fun r (_ : Unit) => K r) (fun _ => kPost D A (wS cy h a u)) A) A 0 ls [] := by
  obtain ⟨hx, hb, hr, hml, hown, hts, hlocks, hK, hA⟩ := id E
  unfold fX8_reasonFor_b0 at h1
  refine lv_aload_n hx hb dX8_reasonFor_0 rfl (lv_at hl 0 rfl) ?_
  refine k_get (v := .ref (a 0)) (C := RX8) (T := TX8) (N := 13) hx hb hts inX8_reasonFor_X8 hown hK hP 0 (wS_a0 _ _ _ _) rfl 0 (by decide) lkX8_reasonFor_11 (sFs_0 _ _) dX8_reasonFor_1 ?_
  refine lv_bipush (v := 16) hx hb dX8_reasonFor_4 rfl ?_
  refine k_iald (k := 16) hx hb hK hP 1 (wS_a1 _ _ _ _) rfl rfl dX8_reasonFor_6 ?_
  refine lv_if_ne (tgt := 12) hx hb dX8_reasonFor_7 (by decide) (fun c7 => ?_) (fun c7 => ?_)
  · replace h1 := Ok.neg c7 h1
    refine lv_aload_n hx hb dX8_reasonFor_12 rfl (lv_at hl 0 rfl) ?_
    refine k_get (v := .ref (a 0)) (C := RX8) (T := TX8) (N := 13) hx hb hts inX8_reasonFor_X8 hown hK hP 0 (wS_a0 _ _ _ _) rfl 0 (by decide) lkX8_reasonFor_11 (sFs_0 _ _) dX8_reasonFor_13 ?_
    refine lv_bipush (v := 8) hx hb dX8_reasonFor_16 rfl ?_
    refine k_iald (k := 8) hx hb hK hP 1 (wS_a1 _ _ _ _) rfl rfl dX8_reasonFor_18 ?_
    refine lv_iconst (v := (-1)) hx hb dX8_reasonFor_19 rfl ?_
    refine lv_icmp_eq (tgt := 25) hx hb dX8_reasonFor_20 (by decide) (fun c20 => ?_) (fun c20 => ?_)
    · replace h1 := Ok.pos c20 h1
      refine lv_aload_n hx hb dX8_reasonFor_25 rfl (lv_at hl 0 rfl) ?_
      refine lv_iload_n hx hb dX8_reasonFor_26 rfl (lv_at hl 1 rfl) ?_
      refine lv_iconst (v := 0) hx hb dX8_reasonFor_27 rfl ?_
      refine kc_rV0 (b := h) (As := [.int x1, .int 0]) (rest := []) h1 ⟨hx, hb, hml, hown, hts⟩ (cX8_carFactM l D cy h a H.size u x1 0) (cwV 2 hts gX8_reasonFor_X8_carFact rfl rfl rfl hdX8_carFact ⟨Nat.le_of_ble_eq_true rfl, Nat.le_of_ble_eq_true rfl⟩) hK hP hD hS hA (q0 := 0) rfl rfl rfl hl.1 rfl (Nat.le_of_ble_eq_true rfl) dX8_reasonFor_28 ⟨Nat.zero_le _, Nat.zero_le _⟩ (fun r28 H locs h1 hP hS => ?_)
      refine lv_istore_n (lv' := [(2, .int r28), (0, .ref h), (1, .int x1)]) hx hb dX8_reasonFor_31 rfl hl (by decide) rfl (fun ls hl => ?_)
      refine lv_aload_n hx hb dX8_reasonFor_32 rfl (lv_at hl 1 rfl) ?_
      refine lv_iload_n hx hb dX8_reasonFor_33 rfl (lv_at hl 2 rfl) ?_
      refine lv_iconst (v := 1) hx hb dX8_reasonFor_34 rfl ?_
      refine kc_rV0 (b := h) (As := [.int x1, .int 1]) (rest := []) h1 ⟨hx, hb, hml, hown, hts⟩ (cX8_carFactM l D cy h a H.size u x1 1) (cwV 2 hts gX8_reasonFor_X8_carFact rfl rfl rfl hdX8_carFact ⟨Nat.le_of_ble_eq_true rfl, Nat.le_of_ble_eq_true rfl⟩) hK hP hD hS hA (q0 := 0) rfl rfl rfl hl.1 rfl (Nat.le_of_ble_eq_true rfl) dX8_reasonFor_35 ⟨Nat.zero_le _, Nat.zero_le _⟩ (fun r35 H locs h1 hP hS => ?_)
      refine lv_istore_n (lv' := [(3, .int r35), (2, .int r28), (0, .ref h), (1, .int x1)]) hx hb dX8_reasonFor_38 rfl hl (by decide) rfl (fun ls hl => ?_)
      refine lv_aload_n hx hb dX8_reasonFor_39 rfl (lv_at hl 2 rfl) ?_
      refine lv_iload_n hx hb dX8_reasonFor_40 rfl (lv_at hl 1 rfl) ?_
      refine lv_iconst (v := 2) hx hb dX8_reasonFor_41 rfl ?_
      refine kc_rV0 (b := h) (As := [.int r28, .int 2]) (rest := []) h1 ⟨hx, hb, hml, hown, hts⟩ (cX8_kindFactM l D cy h a H.size u r28 2) (cwV 2 hts gX8_reasonFor_X8_kindFact rfl rfl rfl hdX8_kindFact ⟨Nat.le_of_ble_eq_true rfl, Nat.le_of_ble_eq_true rfl⟩) hK hP hD hS hA (q0 := 0) rfl rfl rfl hl.1 rfl (Nat.le_of_ble_eq_true rfl) dX8_reasonFor_42 ⟨Nat.zero_le _, Nat.zero_le _⟩ (fun r42 H locs h1 hP hS => ?_)
      refine lv_istore (lv' := [(4, .int r42), (3, .int r35), (2, .int r28), (0, .ref h), (1, .int x1)]) hx hb dX8_reasonFor_45 hl (by decide) rfl (fun ls hl => ?_)
      refine lv_aload_n hx hb dX8_reasonFor_47 rfl (lv_at hl 3 rfl) ?_
      refine lv_iload hx hb dX8_reasonFor_48 (lv_at hl 0 rfl) ?_
      refine kc_rV0 (b := h) (As := [.int r42]) (rest := []) h1 ⟨hx, hb, hml, hown, hts⟩ (cX8_isFreeSomewhereM l D cy h a H.size u r42) (cwV 1 hts gX8_reasonFor_X8_isFreeSomewhere rfl rfl rfl hdX8_isFreeSomewhere ⟨Nat.le_of_ble_eq_true rfl, Nat.le_of_ble_eq_true rfl⟩) hK hP hD hS hA (q0 := 0) rfl rfl rfl hl.1 rfl (Nat.le_of_ble_eq_true rfl) dX8_reasonFor_50 ⟨Nat.zero_le _, Nat.zero_le _⟩ (fun r50 H locs h1 hP hS => ?_)
      refine lv_if_ne (tgt := 58) hx hb dX8_reasonFor_53 (by decide) (fun c53 => ?_) (fun c53 => ?_)
      · replace h1 := Ok.neg c53 h1
        refine lv_aload_n hx hb dX8_reasonFor_58 rfl (lv_at hl 3 rfl) ?_
        refine k_get (v := .ref (a 0)) (C := RX8) (T := TX8) (N := 13) hx hb hts inX8_reasonFor_X8 hown hK hP 0 (wS_a0 _ _ _ _) rfl 0 (by decide) lkX8_reasonFor_11 (sFs_0 _ _) dX8_reasonFor_59 ?_
        refine lv_bipush (v := 7) hx hb dX8_reasonFor_62 rfl ?_
        refine k_iald (k := 7) hx hb hK hP 1 (wS_a1 _ _ _ _) rfl rfl dX8_reasonFor_64 ?_
        refine lv_iload_n hx hb dX8_reasonFor_65 rfl (lv_at hl 1 rfl) ?_
        refine lv_iadd hx hb dX8_reasonFor_66 ?_
        refine lv_aload_n hx hb dX8_reasonFor_67 rfl (lv_at hl 3 rfl) ?_
        refine k_get (v := .ref (a 1)) (C := RX8) (T := TX8) (N := 13) hx hb hts inX8_reasonFor_X8 hown hK hP 0 (wS_a0 _ _ _ _) rfl 1 (by decide) lkX8_reasonFor_19 (sFs_1 _ _) dX8_reasonFor_68 ?_
        refine lv_bipush (v := 7) hx hb dX8_reasonFor_71 rfl ?_
        refine k_iald (k := 7) hx hb hK hP 2 (wS_a2 _ _ _ _) rfl rfl dX8_reasonFor_73 ?_
        refine lv_icmp_le (tgt := 79) hx hb dX8_reasonFor_74 (by decide) (fun c74 => ?_) (fun c74 => ?_)
        · replace h1 := Ok.pos c74 h1
          refine lv_aload_n hx hb dX8_reasonFor_79 rfl (lv_at hl 3 rfl) ?_
          refine lv_iload hx hb dX8_reasonFor_80 (lv_at hl 0 rfl) ?_
          refine lv_iload_n hx hb dX8_reasonFor_82 rfl (lv_at hl 1 rfl) ?_
          refine kc_rV0 (b := h) (As := [.int r42, .int r35]) (rest := []) h1 ⟨hx, hb, hml, hown, hts⟩ (cX8_suitingLaneM l D cy h a H.size u r42 r35) (cwV 2 hts gX8_reasonFor_X8_suitingLane rfl rfl rfl hdX8_suitingLane ⟨Nat.le_of_ble_eq_true rfl, Nat.le_of_ble_eq_true rfl⟩) hK hP hD hS hA (q0 := 0) rfl rfl rfl hl.1 rfl (Nat.le_of_ble_eq_true rfl) dX8_reasonFor_83 ⟨Nat.zero_le _, Nat.zero_le _⟩ (fun r83 H locs h1 hP hS => ?_)
          refine lv_iconst (v := (-1)) hx hb dX8_reasonFor_86 rfl ?_
          refine lv_icmp_ne (tgt := 92) hx hb dX8_reasonFor_87 (by decide) (fun c87 => ?_) (fun c87 => ?_)
          · replace h1 := Ok.neg c87 h1
            refine lv_aload_n hx hb dX8_reasonFor_92 rfl (lv_at hl 3 rfl) ?_
            refine k_get (v := .int (sp u)) (C := RX8) (T := TX8) (N := 13) hx hb hts inX8_reasonFor_X8 hown hK hP 0 (wS_a0 _ _ _ _) rfl 11 (by decide) lkX8_reasonFor_56 (sFs_11 _ _) dX8_reasonFor_93 ?_
            refine lv_aload_n hx hb dX8_reasonFor_96 rfl (lv_at hl 3 rfl) ?_
            refine lv_iload_n hx hb dX8_reasonFor_97 rfl (lv_at hl 2 rfl) ?_
            refine lv_iconst (v := 0) hx hb dX8_reasonFor_98 rfl ?_
            refine kc_rV0 (b := h) (As := [.int r28, .int 0]) (rest := [.int (sp u)]) h1 ⟨hx, hb, hml, hown, hts⟩ (cX8_kindFactM l D cy h a H.size u r28 0) (cwV 2 hts gX8_reasonFor_X8_kindFact rfl rfl rfl hdX8_kindFact ⟨Nat.le_of_ble_eq_true rfl, Nat.le_of_ble_eq_true rfl⟩) hK hP hD hS hA (q0 := 0) rfl rfl rfl hl.1 rfl (Nat.le_of_ble_eq_true rfl) dX8_reasonFor_99 ⟨Nat.zero_le _, Nat.zero_le _⟩ (fun r99 H locs h1 hP hS => ?_)
            refine lv_icmp_le (tgt := 108) hx hb dX8_reasonFor_102 (by decide) (fun c102 => ?_) (fun c102 => ?_)
            · replace h1 := Ok.pos c102 h1
              refine lv_aload_n hx hb dX8_reasonFor_108 rfl (lv_at hl 3 rfl) ?_
              refine k_get (v := .int (si u)) (C := RX8) (T := TX8) (N := 13) hx hb hts inX8_reasonFor_X8 hown hK hP 0 (wS_a0 _ _ _ _) rfl 12 (by decide) lkX8_reasonFor_59 (sFs_12 _ _) dX8_reasonFor_109 ?_
              refine lv_aload_n hx hb dX8_reasonFor_112 rfl (lv_at hl 3 rfl) ?_
              refine lv_iload_n hx hb dX8_reasonFor_113 rfl (lv_at hl 2 rfl) ?_
              refine lv_iconst (v := 1) hx hb dX8_reasonFor_114 rfl ?_
              refine kc_rV0 (b := h) (As := [.int r28, .int 1]) (rest := [.int (si u)]) h1 ⟨hx, hb, hml, hown, hts⟩ (cX8_kindFactM l D cy h a H.size u r28 1) (cwV 2 hts gX8_reasonFor_X8_kindFact rfl rfl rfl hdX8_kindFact ⟨Nat.le_of_ble_eq_true rfl, Nat.le_of_ble_eq_true rfl⟩) hK hP hD hS hA (q0 := 0) rfl rfl rfl hl.1 rfl (Nat.le_of_ble_eq_true rfl) dX8_reasonFor_115 ⟨Nat.zero_le _, Nat.zero_le _⟩ (fun r115 H locs h1 hP hS => ?_)
              refine lv_icmp_le (tgt := 126) hx hb dX8_reasonFor_118 (by decide) (fun c118 => ?_) (fun c118 => ?_)
              · replace h1 := Ok.pos c118 h1
                refine lv_iconst (v := 0) hx hb dX8_reasonFor_126 rfl ?_
                exact kret_r hx hb hr hlocks hP hD hS h1 dX8_reasonFor_127
              · replace h1 := Ok.neg c118 h1
                refine lv_bipush (v := 7) hx hb dX8_reasonFor_121 rfl ?_
                refine lv_goto (tgt := 127) hx hb dX8_reasonFor_123 (by decide) ?_
                exact kret_r hx hb hr hlocks hP hD hS h1 dX8_reasonFor_127
            · replace h1 := Ok.neg c102 h1
              refine lv_bipush (v := 6) hx hb dX8_reasonFor_105 rfl ?_
              exact kret_r hx hb hr hlocks hP hD hS h1 dX8_reasonFor_107
          · replace h1 := Ok.pos c87 h1
            refine lv_iconst (v := 5) hx hb dX8_reasonFor_90 rfl ?_
            exact kret_r hx hb hr hlocks hP hD hS h1 dX8_reasonFor_91
        · replace h1 := Ok.neg c74 h1
          refine lv_iconst (v := 4) hx hb dX8_reasonFor_77 rfl ?_
          exact kret_r hx hb hr hlocks hP hD hS h1 dX8_reasonFor_78
      · replace h1 := Ok.pos c53 h1
        refine lv_iconst (v := 3) hx hb dX8_reasonFor_56 rfl ?_
        exact kret_r hx hb hr hlocks hP hD hS h1 dX8_reasonFor_57
    · replace h1 := Ok.neg c20 h1
      refine lv_iconst (v := 2) hx hb dX8_reasonFor_23 rfl ?_
      exact kret_r hx hb hr hlocks hP hD hS h1 dX8_reasonFor_24
  · replace h1 := Ok.pos c7 h1
    refine lv_iconst (v := 1) hx hb dX8_reasonFor_10 rfl ?_
    exact kret_r hx hb hr hlocks hP hD hS h1 dX8_reasonFor_11
def fX8_reasonFor (p1 : Int32) (u : KS) : Option (Int32) := fX8_reasonFor_b0 p1 u
set_option maxHeartbeats 4000000 in
set_option maxRecDepth 100000 in
theorem cX8_reasonForM (l : Launch) (D : va_G) (cy : Nat → ClassId) (h : Nat) (a : Nat → Nat) (sz : Nat) (u : KS) (p1 : Int32) : ∀ (K : Int32 → Prop), Ok (fX8_reasonFor p1 u) K → Met l yX8_reasonFor wsX8_reasonFor rmX8_reasonFor (va_Pc [.ref h, .int p1] (kPre D cy sz (wS cy h a u))) (va_Qi (fun r (_ : Unit) => K r) (fun _ => kPost D (va_A (wS cy h a u) sz) (wS cy h a u)) (va_A (wS cy h a u) sz)) 0 0 (va_A (wS cy h a u) sz) := by
  intro K h1
  refine Met.ofW (cc := cX8_reasonFor) (maxL := 5) (ret := (some .int)) (by decide) rfl ?_
  intro p e s m args below meth c s₁ B hml hv
  obtain ⟨rfl, hsz, hP, hK, hD0⟩ := hv
  subst hsz
  have E : mE D cy RX8 cX8_reasonFor 5 (some .int) wsX8_reasonFor (va_A (wS cy h a u) s.heap.size) p s m _ meth c := ⟨B.exec, B.bytes, B.returns, hml, findClass_of_methodNamed B.named, atoms_spec (ws := wsX8_reasonFor) B.pre, B.notSynchronized, hK, fun q h => Or.inr h⟩
  have hl := lv_entry ([.ref h, .int p1]) (n := 5) (Nat.le_of_ble_eq_true rfl)
  rw [lg_entry_eq]
  generalize (lg_sl ([.ref h, .int p1]) ++ List.replicate (5 - (lg_sl ([.ref h, .int p1])).length) Slot.unset).toArray = ls at hl ⊢
  exact tX8_reasonFor_b0 K E u p1 _ _ _ hl hP hD0.self va_S.rf h1
-- X8_addCar
theorem inX8_addCar_X8 : ∀ w ∈ u_ws RX8 TX8 13, w ∈ wsX8_addCar := k_lays 9 rfl
theorem lkX8_addCar_11 : Cond.fieldLink RX8 11 "FerryRamp$State" "counts" "[I" ∈ wsX8_addCar := List.mem_of_getElem? (i := 1) rfl
theorem hdX8_setCarFact : yX8_setCarFact.cls = RX8 ∧ yX8_setCarFact.cls ≠ "java/lang/invoke/MethodHandle" ∧ yX8_setCarFact.cls ≠ "java/lang/invoke/VarHandle" ∧ (parseMethodDescriptor yX8_setCarFact.desc).map (fun d => d.parameters.length) = some 3 := by decide +kernel
theorem lkX8_addCar_32 : Cond.fieldLink RX8 32 "FerryRamp$State" "queue" "[I" ∈ wsX8_addCar := List.mem_of_getElem? (i := 2) rfl
abbrev rmX8_addCar : Room := { frames := 1, cells := 0, slots := 0, locals := 24 }
def fX8_addCar_b0 (x1 : Int32) (x2 : Int32) (u : KS) : Option (Int32 × KS) :=
  (if (sC u 3) < 0 then some ((-1), u) else (if 60 ≤ (sC u 3) then some ((-1), u) else (if (sC u 1) < 0 then some ((-1), u) else (if (sC u 1) < 20 then bnd (fX8_setCarFact (sC u 3) 0 x1 u) (fun u43 => bnd (fX8_setCarFact (sC u 3) 1 x2 u43) (fun u50 => bnd (fX8_setCarFact (sC u 3) 2 0 u50) (fun u57 => bnd (fX8_setCarFact (sC u 3) 3 (-1) u57) (fun u64 => bnd (fX8_setCarFact (sC u 3) 4 (sC u64 0) u64) (fun u76 => bnd (fX8_setCarFact (sC u 3) 5 (-1) u76) (fun u83 => bnd (fX8_setCarFact (sC u 3) 6 (-1) u83) (fun u91 => grd (inb (sC u 1) 20) (some (sC u 3, wC (wC (wQ u91 (ix (sC u 1)) (sC u 3)) 3 ((sC (wQ u91 (ix (sC u 1)) (sC u 3)) 3) + 1)) 1 ((sC (wC (wQ u91 (ix (sC u 1)) (sC u 3)) 3 ((sC (wQ u91 (ix (sC u 1)) (sC u 3)) 3) + 1)) 1) + 1)))))))))) else some ((-1), u)))))
set_option maxHeartbeats 4000000 in
set_option maxRecDepth 100000 in
theorem tX8_addCar_b0 {p : Program} {l : Launch} {e : Env} {s : State} {m : MethodId} {args : Array Value} {below : List Frame} {meth : Method} {c : Code} {D : va_G} {cy : Nat → ClassId} {A : Nat → Prop} {h : Nat} {a : Nat → Nat} (K : Int32 × KS → Prop) (E : mE D cy RX8 cX8_addCar 5 (some .int) wsX8_addCar A p s m args meth c)
     (x1 : Int32) (x2 : Int32) (u : KS) (H : Heap) (locs : List Loc) (ls : Array Slot) (hl : lv_has ls 5 [(0, .ref h), (1, .int x1), (2, .int x2)]) (hP : va_P D kCl (wS cy h a u) H) (hD : va_D A (wS cy h a u)) (hS : va_S A s.heap H locs) (h1 : Ok (fX8_addCar_b0 x1 x2 u) K) :
    kW p l e rmX8_addCar s m args below meth c H locs (va_Qi (fun r q => K (r, q)) (fun q => kPost D A (wS cy h a q)) A) A 0 ls [] := by
  obtain ⟨hx, hb, hr, hml, hown, hts, hlocks, hK, hA⟩ := id E
  unfold fX8_addCar_b0 at h1
  refine lv_aload_n hx hb dX8_addCar_0 rfl (lv_at hl 0 rfl) ?_
  refine k_get (v := .ref (a 0)) (C := RX8) (T := TX8) (N := 13) hx hb hts inX8_addCar_X8 hown hK hP 0 (wS_a0 _ _ _ _) rfl 0 (by decide) lkX8_addCar_11 (sFs_0 _ _) dX8_addCar_1 ?_
  refine lv_iconst (v := 3) hx hb dX8_addCar_4 rfl ?_
  refine k_iald (k := 3) hx hb hK hP 1 (wS_a1 _ _ _ _) rfl rfl dX8_addCar_5 ?_
  refine lv_istore_n (lv' := [(3, .int (sC u 3)), (0, .ref h), (1, .int x1), (2, .int x2)]) hx hb dX8_addCar_6 rfl hl (by decide) rfl (fun ls hl => ?_)
  refine lv_aload_n hx hb dX8_addCar_7 rfl (lv_at hl 1 rfl) ?_
  refine k_get (v := .ref (a 0)) (C := RX8) (T := TX8) (N := 13) hx hb hts inX8_addCar_X8 hown hK hP 0 (wS_a0 _ _ _ _) rfl 0 (by decide) lkX8_addCar_11 (sFs_0 _ _) dX8_addCar_8 ?_
  refine lv_iconst (v := 1) hx hb dX8_addCar_11 rfl ?_
  refine k_iald (k := 1) hx hb hK hP 1 (wS_a1 _ _ _ _) rfl rfl dX8_addCar_12 ?_
  refine lv_istore (lv' := [(4, .int (sC u 1)), (3, .int (sC u 3)), (0, .ref h), (1, .int x1), (2, .int x2)]) hx hb dX8_addCar_13 hl (by decide) rfl (fun ls hl => ?_)
  refine lv_iload_n hx hb dX8_addCar_15 rfl (lv_at hl 1 rfl) ?_
  refine lv_if_lt (tgt := 37) hx hb dX8_addCar_16 (by decide) (fun c16 => ?_) (fun c16 => ?_)
  · replace h1 := Ok.pos c16 h1
    refine lv_iconst (v := (-1)) hx hb dX8_addCar_37 rfl ?_
    exact kret_i hx hb hr hlocks hP hD hS h1 dX8_addCar_38
  · replace h1 := Ok.neg c16 h1
    refine lv_iload_n hx hb dX8_addCar_19 rfl (lv_at hl 1 rfl) ?_
    refine lv_bipush (v := 60) hx hb dX8_addCar_20 rfl ?_
    refine lv_icmp_ge (tgt := 37) hx hb dX8_addCar_22 (by decide) (fun c22 => ?_) (fun c22 => ?_)
    · replace h1 := Ok.pos c22 h1
      refine lv_iconst (v := (-1)) hx hb dX8_addCar_37 rfl ?_
      exact kret_i hx hb hr hlocks hP hD hS h1 dX8_addCar_38
    · replace h1 := Ok.neg c22 h1
      refine lv_iload hx hb dX8_addCar_25 (lv_at hl 0 rfl) ?_
      refine lv_if_lt (tgt := 37) hx hb dX8_addCar_27 (by decide) (fun c27 => ?_) (fun c27 => ?_)
      · replace h1 := Ok.pos c27 h1
        refine lv_iconst (v := (-1)) hx hb dX8_addCar_37 rfl ?_
        exact kret_i hx hb hr hlocks hP hD hS h1 dX8_addCar_38
      · replace h1 := Ok.neg c27 h1
        refine lv_iload hx hb dX8_addCar_30 (lv_at hl 0 rfl) ?_
        refine lv_bipush (v := 20) hx hb dX8_addCar_32 rfl ?_
        refine lv_icmp_lt (tgt := 39) hx hb dX8_addCar_34 (by decide) (fun c34 => ?_) (fun c34 => ?_)
        · replace h1 := Ok.pos c34 h1
          refine lv_aload_n hx hb dX8_addCar_39 rfl (lv_at hl 2 rfl) ?_
          refine lv_iload_n hx hb dX8_addCar_40 rfl (lv_at hl 1 rfl) ?_
          refine lv_iconst (v := 0) hx hb dX8_addCar_41 rfl ?_
          refine lv_iload_n hx hb dX8_addCar_42 rfl (lv_at hl 3 rfl) ?_
          refine kc_vV0 (b := h) (As := [.int (sC u 3), .int 0, .int x1]) (rest := []) h1 ⟨hx, hb, hml, hown, hts⟩ (cX8_setCarFactM l D cy h a H.size u (sC u 3) 0 x1) (cwV 3 hts gX8_addCar_X8_setCarFact rfl rfl rfl hdX8_setCarFact ⟨Nat.le_of_ble_eq_true rfl, Nat.le_of_ble_eq_true rfl⟩) hK hP hD hS hA (q0 := 0) rfl rfl rfl hl.1 rfl (Nat.le_of_ble_eq_true rfl) dX8_addCar_43 ⟨Nat.zero_le _, Nat.zero_le _⟩ (fun u43 H locs h1 hP hD hS => ?_)
          refine lv_aload_n hx hb dX8_addCar_46 rfl (lv_at hl 2 rfl) ?_
          refine lv_iload_n hx hb dX8_addCar_47 rfl (lv_at hl 1 rfl) ?_
          refine lv_iconst (v := 1) hx hb dX8_addCar_48 rfl ?_
          refine lv_iload_n hx hb dX8_addCar_49 rfl (lv_at hl 4 rfl) ?_
          refine kc_vV0 (b := h) (As := [.int (sC u 3), .int 1, .int x2]) (rest := []) h1 ⟨hx, hb, hml, hown, hts⟩ (cX8_setCarFactM l D cy h a H.size u43 (sC u 3) 1 x2) (cwV 3 hts gX8_addCar_X8_setCarFact rfl rfl rfl hdX8_setCarFact ⟨Nat.le_of_ble_eq_true rfl, Nat.le_of_ble_eq_true rfl⟩) hK hP hD hS hA (q0 := 0) rfl rfl rfl hl.1 rfl (Nat.le_of_ble_eq_true rfl) dX8_addCar_50 ⟨Nat.zero_le _, Nat.zero_le _⟩ (fun u50 H locs h1 hP hD hS => ?_)
          refine lv_aload_n hx hb dX8_addCar_53 rfl (lv_at hl 2 rfl) ?_
          refine lv_iload_n hx hb dX8_addCar_54 rfl (lv_at hl 1 rfl) ?_
          refine lv_iconst (v := 2) hx hb dX8_addCar_55 rfl ?_
          refine lv_iconst (v := 0) hx hb dX8_addCar_56 rfl ?_
          refine kc_vV0 (b := h) (As := [.int (sC u 3), .int 2, .int 0]) (rest := []) h1 ⟨hx, hb, hml, hown, hts⟩ (cX8_setCarFactM l D cy h a H.size u50 (sC u 3) 2 0) (cwV 3 hts gX8_addCar_X8_setCarFact rfl rfl rfl hdX8_setCarFact ⟨Nat.le_of_ble_eq_true rfl, Nat.le_of_ble_eq_true rfl⟩) hK hP hD hS hA (q0 := 0) rfl rfl rfl hl.1 rfl (Nat.le_of_ble_eq_true rfl) dX8_addCar_57 ⟨Nat.zero_le _, Nat.zero_le _⟩ (fun u57 H locs h1 hP hD hS => ?_)
          refine lv_aload_n hx hb dX8_addCar_60 rfl (lv_at hl 2 rfl) ?_
          refine lv_iload_n hx hb dX8_addCar_61 rfl (lv_at hl 1 rfl) ?_
          refine lv_iconst (v := 3) hx hb dX8_addCar_62 rfl ?_
          refine lv_iconst (v := (-1)) hx hb dX8_addCar_63 rfl ?_
          refine kc_vV0 (b := h) (As := [.int (sC u 3), .int 3, .int (-1)]) (rest := []) h1 ⟨hx, hb, hml, hown, hts⟩ (cX8_setCarFactM l D cy h a H.size u57 (sC u 3) 3 (-1)) (cwV 3 hts gX8_addCar_X8_setCarFact rfl rfl rfl hdX8_setCarFact ⟨Nat.le_of_ble_eq_true rfl, Nat.le_of_ble_eq_true rfl⟩) hK hP hD hS hA (q0 := 0) rfl rfl rfl hl.1 rfl (Nat.le_of_ble_eq_true rfl) dX8_addCar_64 ⟨Nat.zero_le _, Nat.zero_le _⟩ (fun u64 H locs h1 hP hD hS => ?_)
          refine lv_aload_n hx hb dX8_addCar_67 rfl (lv_at hl 2 rfl) ?_
          refine lv_iload_n hx hb dX8_addCar_68 rfl (lv_at hl 1 rfl) ?_
          refine lv_iconst (v := 4) hx hb dX8_addCar_69 rfl ?_
          refine lv_aload_n hx hb dX8_addCar_70 rfl (lv_at hl 2 rfl) ?_
          refine k_get (v := .ref (a 0)) (C := RX8) (T := TX8) (N := 13) hx hb hts inX8_addCar_X8 hown hK hP 0 (wS_a0 _ _ _ _) rfl 0 (by decide) lkX8_addCar_11 (sFs_0 _ _) dX8_addCar_71 ?_
          refine lv_iconst (v := 0) hx hb dX8_addCar_74 rfl ?_
          refine k_iald (k := 0) hx hb hK hP 1 (wS_a1 _ _ _ _) rfl rfl dX8_addCar_75 ?_
          refine kc_vV0 (b := h) (As := [.int (sC u 3), .int 4, .int (sC u64 0)]) (rest := []) h1 ⟨hx, hb, hml, hown, hts⟩ (cX8_setCarFactM l D cy h a H.size u64 (sC u 3) 4 (sC u64 0)) (cwV 3 hts gX8_addCar_X8_setCarFact rfl rfl rfl hdX8_setCarFact ⟨Nat.le_of_ble_eq_true rfl, Nat.le_of_ble_eq_true rfl⟩) hK hP hD hS hA (q0 := 0) rfl rfl rfl hl.1 rfl (Nat.le_of_ble_eq_true rfl) dX8_addCar_76 ⟨Nat.zero_le _, Nat.zero_le _⟩ (fun u76 H locs h1 hP hD hS => ?_)
          refine lv_aload_n hx hb dX8_addCar_79 rfl (lv_at hl 2 rfl) ?_
          refine lv_iload_n hx hb dX8_addCar_80 rfl (lv_at hl 1 rfl) ?_
          refine lv_iconst (v := 5) hx hb dX8_addCar_81 rfl ?_
          refine lv_iconst (v := (-1)) hx hb dX8_addCar_82 rfl ?_
          refine kc_vV0 (b := h) (As := [.int (sC u 3), .int 5, .int (-1)]) (rest := []) h1 ⟨hx, hb, hml, hown, hts⟩ (cX8_setCarFactM l D cy h a H.size u76 (sC u 3) 5 (-1)) (cwV 3 hts gX8_addCar_X8_setCarFact rfl rfl rfl hdX8_setCarFact ⟨Nat.le_of_ble_eq_true rfl, Nat.le_of_ble_eq_true rfl⟩) hK hP hD hS hA (q0 := 0) rfl rfl rfl hl.1 rfl (Nat.le_of_ble_eq_true rfl) dX8_addCar_83 ⟨Nat.zero_le _, Nat.zero_le _⟩ (fun u83 H locs h1 hP hD hS => ?_)
          refine lv_aload_n hx hb dX8_addCar_86 rfl (lv_at hl 2 rfl) ?_
          refine lv_iload_n hx hb dX8_addCar_87 rfl (lv_at hl 1 rfl) ?_
          refine lv_bipush (v := 6) hx hb dX8_addCar_88 rfl ?_
          refine lv_iconst (v := (-1)) hx hb dX8_addCar_90 rfl ?_
          refine kc_vV0 (b := h) (As := [.int (sC u 3), .int 6, .int (-1)]) (rest := []) h1 ⟨hx, hb, hml, hown, hts⟩ (cX8_setCarFactM l D cy h a H.size u83 (sC u 3) 6 (-1)) (cwV 3 hts gX8_addCar_X8_setCarFact rfl rfl rfl hdX8_setCarFact ⟨Nat.le_of_ble_eq_true rfl, Nat.le_of_ble_eq_true rfl⟩) hK hP hD hS hA (q0 := 0) rfl rfl rfl hl.1 rfl (Nat.le_of_ble_eq_true rfl) dX8_addCar_91 ⟨Nat.zero_le _, Nat.zero_le _⟩ (fun u91 H locs h1 hP hD hS => ?_)
          refine lv_aload_n hx hb dX8_addCar_94 rfl (lv_at hl 2 rfl) ?_
          refine k_get (v := .ref (a 4)) (C := RX8) (T := TX8) (N := 13) hx hb hts inX8_addCar_X8 hown hK hP 0 (wS_a0 _ _ _ _) rfl 4 (by decide) lkX8_addCar_32 (sFs_4 _ _) dX8_addCar_95 ?_
          refine lv_iload hx hb dX8_addCar_98 (lv_at hl 0 rfl) ?_
          refine lv_iload_n hx hb dX8_addCar_100 rfl (lv_at hl 1 rfl) ?_
          have g101 := h1.grd1
          replace h1 := h1.grd2
          refine k_iast (k := (ix (sC u 1))) (ws' := wS cy h a (wQ u91 (ix (sC u 1)) (sC u 3))) hx hb hK hP hD hS 5 (wS_a5 _ _ _ _) g101 rfl (wS_wQ _ _ _ _ _ _) dX8_addCar_101 (fun H locs hP hD hS => ?_)
          refine lv_aload_n hx hb dX8_addCar_102 rfl (lv_at hl 2 rfl) ?_
          refine k_get (v := .ref (a 0)) (C := RX8) (T := TX8) (N := 13) hx hb hts inX8_addCar_X8 hown hK hP 0 (wS_a0 _ _ _ _) rfl 0 (by decide) lkX8_addCar_11 (sFs_0 _ _) dX8_addCar_103 ?_
          refine lv_iconst (v := 3) hx hb dX8_addCar_106 rfl ?_
          refine lv_dup2_11 hx hb dX8_addCar_107 rfl rfl ?_
          refine k_iald (k := 3) hx hb hK hP 1 (wS_a1 _ _ _ _) rfl rfl dX8_addCar_108 ?_
          refine lv_iconst (v := 1) hx hb dX8_addCar_109 rfl ?_
          refine lv_iadd hx hb dX8_addCar_110 ?_
          refine k_iast (k := 3) (ws' := wS cy h a (wC (wQ u91 (ix (sC u 1)) (sC u 3)) 3 ((sC (wQ u91 (ix (sC u 1)) (sC u 3)) 3) + 1))) hx hb hK hP hD hS 1 (wS_a1 _ _ _ _) rfl rfl (wS_wC _ _ _ _ _ _) dX8_addCar_111 (fun H locs hP hD hS => ?_)
          refine lv_aload_n hx hb dX8_addCar_112 rfl (lv_at hl 2 rfl) ?_
          refine k_get (v := .ref (a 0)) (C := RX8) (T := TX8) (N := 13) hx hb hts inX8_addCar_X8 hown hK hP 0 (wS_a0 _ _ _ _) rfl 0 (by decide) lkX8_addCar_11 (sFs_0 _ _) dX8_addCar_113 ?_
          refine lv_iconst (v := 1) hx hb dX8_addCar_116 rfl ?_
          refine lv_dup2_11 hx hb dX8_addCar_117 rfl rfl ?_
          refine k_iald (k := 1) hx hb hK hP 1 (wS_a1 _ _ _ _) rfl rfl dX8_addCar_118 ?_
          refine lv_iconst (v := 1) hx hb dX8_addCar_119 rfl ?_
          refine lv_iadd hx hb dX8_addCar_120 ?_
          refine k_iast (k := 1) (ws' := wS cy h a (wC (wC (wQ u91 (ix (sC u 1)) (sC u 3)) 3 ((sC (wQ u91 (ix (sC u 1)) (sC u 3)) 3) + 1)) 1 ((sC (wC (wQ u91 (ix (sC u 1)) (sC u 3)) 3 ((sC (wQ u91 (ix (sC u 1)) (sC u 3)) 3) + 1)) 1) + 1))) hx hb hK hP hD hS 1 (wS_a1 _ _ _ _) rfl rfl (wS_wC _ _ _ _ _ _) dX8_addCar_121 (fun H locs hP hD hS => ?_)
          refine lv_iload_n hx hb dX8_addCar_122 rfl (lv_at hl 1 rfl) ?_
          exact kret_i hx hb hr hlocks hP hD hS h1 dX8_addCar_123
        · replace h1 := Ok.neg c34 h1
          refine lv_iconst (v := (-1)) hx hb dX8_addCar_37 rfl ?_
          exact kret_i hx hb hr hlocks hP hD hS h1 dX8_addCar_38
def fX8_addCar (p1 : Int32) (p2 : Int32) (u : KS) : Option (Int32 × KS) := fX8_addCar_b0 p1 p2 u
set_option maxHeartbeats 4000000 in
set_option maxRecDepth 100000 in
theorem cX8_addCarM (l : Launch) (D : va_G) (cy : Nat → ClassId) (h : Nat) (a : Nat → Nat) (sz : Nat) (u : KS) (p1 : Int32) (p2 : Int32) : ∀ (K : Int32 → KS → Prop), Ok (fX8_addCar p1 p2 u) (fun q => K q.1 q.2) → Met l yX8_addCar wsX8_addCar rmX8_addCar (va_Pc [.ref h, .int p1, .int p2] (kPre D cy sz (wS cy h a u))) (va_Qi K (fun q => kPost D (va_A (wS cy h a u) sz) (wS cy h a q)) (va_A (wS cy h a u) sz)) 0 0 (va_A (wS cy h a u) sz) := by
  intro K h1
  refine Met.ofW (cc := cX8_addCar) (maxL := 5) (ret := (some .int)) (by decide) rfl ?_
  intro p e s m args below meth c s₁ B hml hv
  obtain ⟨rfl, hsz, hP, hK, hD0⟩ := hv
  subst hsz
  have E : mE D cy RX8 cX8_addCar 5 (some .int) wsX8_addCar (va_A (wS cy h a u) s.heap.size) p s m _ meth c := ⟨B.exec, B.bytes, B.returns, hml, findClass_of_methodNamed B.named, atoms_spec (ws := wsX8_addCar) B.pre, B.notSynchronized, hK, fun q h => Or.inr h⟩
  have hl := lv_entry ([.ref h, .int p1, .int p2]) (n := 5) (Nat.le_of_ble_eq_true rfl)
  rw [lg_entry_eq]
  generalize (lg_sl ([.ref h, .int p1, .int p2]) ++ List.replicate (5 - (lg_sl ([.ref h, .int p1, .int p2])).length) Slot.unset).toArray = ls at hl ⊢
  exact tX8_addCar_b0 (fun q => K q.1 q.2) E p1 p2 u _ _ _ hl hP hD0.self va_S.rf h1
-- X8_takeFromQueue
theorem inX8_takeFromQueue_X8 : ∀ w ∈ u_ws RX8 TX8 13, w ∈ wsX8_takeFromQueue := k_lays 3 rfl
theorem lkX8_takeFromQueue_11 : Cond.fieldLink RX8 11 "FerryRamp$State" "counts" "[I" ∈ wsX8_takeFromQueue := List.mem_of_getElem? (i := 1) rfl
theorem lkX8_takeFromQueue_32 : Cond.fieldLink RX8 32 "FerryRamp$State" "queue" "[I" ∈ wsX8_takeFromQueue := List.mem_of_getElem? (i := 2) rfl
abbrev rmX8_takeFromQueue : Room := { frames := 0, cells := 0, slots := 0, locals := 0 }
def fX8_takeFromQueue_b27 (k27 : Int32 × Int32 × KS → Option (KS)) (x2 : Int32) (x3 : Int32) (u : KS) : Option (KS) :=
  (if x2 ≤ x3 then some (wC u 1 x2) else grd (inb (x3 + 1) 20) (grd (inb x3 20) (k27 (x2, x3 + 1, wQ u (ix x3) (sQ u (ix (x3 + 1)))))))
set_option maxHeartbeats 4000000 in
set_option maxRecDepth 100000 in
theorem tX8_takeFromQueue_b27 {p : Program} {l : Launch} {e : Env} {s : State} {m : MethodId} {args : Array Value} {below : List Frame} {meth : Method} {c : Code} {D : va_G} {cy : Nat → ClassId} {A : Nat → Prop} {h : Nat} {a : Nat → Nat} (K : KS → Prop) (E : mE D cy RX8 cX8_takeFromQueue 4 none wsX8_takeFromQueue A p s m args meth c)
    (k27 : Int32 × Int32 × KS → Option (KS)) (hk27 : ∀ (x2 : Int32) (x3 : Int32) (u : KS) (H : Heap) (locs : List Loc) (ls : Array Slot), lv_has ls 4 [(0, .ref h), (2, .int x2), (3, .int x3)] → va_P D kCl (wS cy h a u) H → va_D A (wS cy h a u) → va_S A s.heap H locs → Ok (k27 (x2, x3, u)) K → kW p l e rmX8_takeFromQueue s m args below meth c H locs (va_Qv K (fun q => kPost D A (wS cy h a q)) A) A 27 ls [])
     (x2 : Int32) (x3 : Int32) (u : KS) (H : Heap) (locs : List Loc) (ls : Array Slot) (hl : lv_has ls 4 [(0, .ref h), (2, .int x2), (3, .int x3)]) (hP : va_P D kCl (wS cy h a u) H) (hD : va_D A (wS cy h a u)) (hS : va_S A s.heap H locs) (h1 : Ok (fX8_takeFromQueue_b27 k27 x2 x3 u) K) :
    kW p l e rmX8_takeFromQueue s m args below meth c H locs (va_Qv K (fun q => kPost D A (wS cy h a q)) A) A 27 ls [] := by
  obtain ⟨hx, hb, hr, hml, hown, hts, hlocks, hK, hA⟩ := id E
  unfold fX8_takeFromQueue_b27 at h1
  refine lv_iload_n hx hb dX8_takeFromQueue_27 rfl (lv_at hl 2 rfl) ?_
  refine lv_iload_n hx hb dX8_takeFromQueue_28 rfl (lv_at hl 1 rfl) ?_
  refine lv_icmp_ge (tgt := 52) hx hb dX8_takeFromQueue_29 (by decide) (fun c29 => ?_) (fun c29 => ?_)
  · replace h1 := Ok.pos c29 h1
    refine lv_aload_n hx hb dX8_takeFromQueue_52 rfl (lv_at hl 0 rfl) ?_
    refine k_get (v := .ref (a 0)) (C := RX8) (T := TX8) (N := 13) hx hb hts inX8_takeFromQueue_X8 hown hK hP 0 (wS_a0 _ _ _ _) rfl 0 (by decide) lkX8_takeFromQueue_11 (sFs_0 _ _) dX8_takeFromQueue_53 ?_
    refine lv_iconst (v := 1) hx hb dX8_takeFromQueue_56 rfl ?_
    refine lv_iload_n hx hb dX8_takeFromQueue_57 rfl (lv_at hl 1 rfl) ?_
    refine k_iast (k := 1) (ws' := wS cy h a (wC u 1 x2)) hx hb hK hP hD hS 1 (wS_a1 _ _ _ _) rfl rfl (wS_wC _ _ _ _ _ _) dX8_takeFromQueue_58 (fun H locs hP hD hS => ?_)
    exact kret_v hx hb hr hlocks hP hD hS h1 dX8_takeFromQueue_59
  · replace h1 := Ok.neg c29 h1
    refine lv_aload_n hx hb dX8_takeFromQueue_32 rfl (lv_at hl 0 rfl) ?_
    refine k_get (v := .ref (a 4)) (C := RX8) (T := TX8) (N := 13) hx hb hts inX8_takeFromQueue_X8 hown hK hP 0 (wS_a0 _ _ _ _) rfl 4 (by decide) lkX8_takeFromQueue_32 (sFs_4 _ _) dX8_takeFromQueue_33 ?_
    refine lv_iload_n hx hb dX8_takeFromQueue_36 rfl (lv_at hl 2 rfl) ?_
    refine lv_aload_n hx hb dX8_takeFromQueue_37 rfl (lv_at hl 0 rfl) ?_
    refine k_get (v := .ref (a 4)) (C := RX8) (T := TX8) (N := 13) hx hb hts inX8_takeFromQueue_X8 hown hK hP 0 (wS_a0 _ _ _ _) rfl 4 (by decide) lkX8_takeFromQueue_32 (sFs_4 _ _) dX8_takeFromQueue_38 ?_
    refine lv_iload_n hx hb dX8_takeFromQueue_41 rfl (lv_at hl 2 rfl) ?_
    refine lv_iconst (v := 1) hx hb dX8_takeFromQueue_42 rfl ?_
    refine lv_iadd hx hb dX8_takeFromQueue_43 ?_
    have g44 := h1.grd1
    replace h1 := h1.grd2
    refine k_iald (k := (ix (x3 + 1))) hx hb hK hP 5 (wS_a5 _ _ _ _) g44 rfl dX8_takeFromQueue_44 ?_
    have g45 := h1.grd1
    replace h1 := h1.grd2
    refine k_iast (k := (ix x3)) (ws' := wS cy h a (wQ u (ix x3) (sQ u (ix (x3 + 1))))) hx hb hK hP hD hS 5 (wS_a5 _ _ _ _) g45 rfl (wS_wQ _ _ _ _ _ _) dX8_takeFromQueue_45 (fun H locs hP hD hS => ?_)
    refine lv_iinc (v := x3 + 1) (lv' := [(3, .int (x3 + 1)), (0, .ref h), (2, .int x2)]) hx hb dX8_takeFromQueue_46 hl (k := 2) rfl rfl (by decide) rfl (fun ls hl => ?_)
    refine lv_goto (tgt := 27) hx hb dX8_takeFromQueue_49 (by decide) ?_
    exact hk27 x2 (x3 + 1) (wQ u (ix x3) (sQ u (ix (x3 + 1)))) H locs ls (lv_sub hl [1, 2, 0] rfl) hP hD hS h1
theorem tX8_takeFromQueue_l27 {p : Program} {l : Launch} {e : Env} {s : State} {m : MethodId} {args : Array Value} {below : List Frame} {meth : Method} {c : Code} {D : va_G} {cy : Nat → ClassId} {A : Nat → Prop} {h : Nat} {a : Nat → Nat} (K : KS → Prop) (E : mE D cy RX8 cX8_takeFromQueue 4 none wsX8_takeFromQueue A p s m args meth c) : ∀ (n9 : Nat) (x2 : Int32) (x3 : Int32) (u : KS) (H : Heap) (locs : List Loc) (ls : Array Slot), lv_has ls 4 [(0, .ref h), (2, .int x2), (3, .int x3)] → va_P D kCl (wS cy h a u) H → va_D A (wS cy h a u) → va_S A s.heap H locs → Ok (lop (fun y z => fX8_takeFromQueue_b27 y z.1 z.2.1 z.2.2) n9 (x2, x3, u)) K → kW p l e rmX8_takeFromQueue s m args below meth c H locs (va_Qv K (fun q => kPost D A (wS cy h a q)) A) A 27 ls [] := by
  intro n9
  induction n9 with
  | zero =>
    intro x2 x3 u H locs ls hl hP hD hS h1
    exact h1.no
  | succ n9 ih =>
    intro x2 x3 u H locs ls hl hP hD hS h1
    exact tX8_takeFromQueue_b27 K E (lop (fun y z => fX8_takeFromQueue_b27 y z.1 z.2.1 z.2.2) n9) (fun x2 x3 u H locs ls hl hP hD hS h1 => ih x2 x3 u H locs ls hl hP hD hS h1) x2 x3 u H locs ls hl hP hD hS h1
def fX8_takeFromQueue_b0 (x1 : Int32) (u : KS) : Option (KS) :=
  (if x1 < 0 then some u else (if ((sC u 1) - 1) < x1 then some u else (if ((sC u 1) - 1) < 20 then lop (fun y z => fX8_takeFromQueue_b27 y z.1 z.2.1 z.2.2) LF ((sC u 1) - 1, x1, u) else some u)))
set_option maxHeartbeats 4000000 in
set_option maxRecDepth 100000 in
theorem tX8_takeFromQueue_b0 {p : Program} {l : Launch} {e : Env} {s : State} {m : MethodId} {args : Array Value} {below : List Frame} {meth : Method} {c : Code} {D : va_G} {cy : Nat → ClassId} {A : Nat → Prop} {h : Nat} {a : Nat → Nat} (K : KS → Prop) (E : mE D cy RX8 cX8_takeFromQueue 4 none wsX8_takeFromQueue A p s m args meth c)
     (x1 : Int32) (u : KS) (H : Heap) (locs : List Loc) (ls : Array Slot) (hl : lv_has ls 4 [(0, .ref h), (1, .int x1)]) (hP : va_P D kCl (wS cy h a u) H) (hD : va_D A (wS cy h a u)) (hS : va_S A s.heap H locs) (h1 : Ok (fX8_takeFromQueue_b0 x1 u) K) :
    kW p l e rmX8_takeFromQueue s m args below meth c H locs (va_Qv K (fun q => kPost D A (wS cy h a q)) A) A 0 ls [] := by
  obtain ⟨hx, hb, hr, hml, hown, hts, hlocks, hK, hA⟩ := id E
  unfold fX8_takeFromQueue_b0 at h1
  refine lv_aload_n hx hb dX8_takeFromQueue_0 rfl (lv_at hl 0 rfl) ?_
  refine k_get (v := .ref (a 0)) (C := RX8) (T := TX8) (N := 13) hx hb hts inX8_takeFromQueue_X8 hown hK hP 0 (wS_a0 _ _ _ _) rfl 0 (by decide) lkX8_takeFromQueue_11 (sFs_0 _ _) dX8_takeFromQueue_1 ?_
  refine lv_iconst (v := 1) hx hb dX8_takeFromQueue_4 rfl ?_
  refine k_iald (k := 1) hx hb hK hP 1 (wS_a1 _ _ _ _) rfl rfl dX8_takeFromQueue_5 ?_
  refine lv_iconst (v := 1) hx hb dX8_takeFromQueue_6 rfl ?_
  refine lv_isub hx hb dX8_takeFromQueue_7 ?_
  refine lv_istore_n (lv' := [(2, .int ((sC u 1) - 1)), (0, .ref h), (1, .int x1)]) hx hb dX8_takeFromQueue_8 rfl hl (by decide) rfl (fun ls hl => ?_)
  refine lv_iload_n hx hb dX8_takeFromQueue_9 rfl (lv_at hl 2 rfl) ?_
  refine lv_if_lt (tgt := 24) hx hb dX8_takeFromQueue_10 (by decide) (fun c10 => ?_) (fun c10 => ?_)
  · replace h1 := Ok.pos c10 h1
    exact kret_v hx hb hr hlocks hP hD hS h1 dX8_takeFromQueue_24
  · replace h1 := Ok.neg c10 h1
    refine lv_iload_n hx hb dX8_takeFromQueue_13 rfl (lv_at hl 2 rfl) ?_
    refine lv_iload_n hx hb dX8_takeFromQueue_14 rfl (lv_at hl 0 rfl) ?_
    refine lv_icmp_gt (tgt := 24) hx hb dX8_takeFromQueue_15 (by decide) (fun c15 => ?_) (fun c15 => ?_)
    · replace h1 := Ok.pos c15 h1
      exact kret_v hx hb hr hlocks hP hD hS h1 dX8_takeFromQueue_24
    · replace h1 := Ok.neg c15 h1
      refine lv_iload_n hx hb dX8_takeFromQueue_18 rfl (lv_at hl 0 rfl) ?_
      refine lv_bipush (v := 20) hx hb dX8_takeFromQueue_19 rfl ?_
      refine lv_icmp_lt (tgt := 25) hx hb dX8_takeFromQueue_21 (by decide) (fun c21 => ?_) (fun c21 => ?_)
      · replace h1 := Ok.pos c21 h1
        refine lv_iload_n hx hb dX8_takeFromQueue_25 rfl (lv_at hl 2 rfl) ?_
        refine lv_istore_n (lv' := [(3, .int x1), (2, .int ((sC u 1) - 1)), (0, .ref h), (1, .int x1)]) hx hb dX8_takeFromQueue_26 rfl hl (by decide) rfl (fun ls hl => ?_)
        exact tX8_takeFromQueue_l27 K E LF ((sC u 1) - 1) x1 u H locs ls (lv_sub hl [2, 1, 0] rfl) hP hD hS h1
      · replace h1 := Ok.neg c21 h1
        exact kret_v hx hb hr hlocks hP hD hS h1 dX8_takeFromQueue_24
def fX8_takeFromQueue (p1 : Int32) (u : KS) : Option (KS) := fX8_takeFromQueue_b0 p1 u
set_option maxHeartbeats 4000000 in
set_option maxRecDepth 100000 in
theorem cX8_takeFromQueueM (l : Launch) (D : va_G) (cy : Nat → ClassId) (h : Nat) (a : Nat → Nat) (sz : Nat) (u : KS) (p1 : Int32) : ∀ (K : KS → Prop), Ok (fX8_takeFromQueue p1 u) K → Met l yX8_takeFromQueue wsX8_takeFromQueue rmX8_takeFromQueue (va_Pc [.ref h, .int p1] (kPre D cy sz (wS cy h a u))) (va_Qv K (fun q => kPost D (va_A (wS cy h a u) sz) (wS cy h a q)) (va_A (wS cy h a u) sz)) 0 0 (va_A (wS cy h a u) sz) := by
  intro K h1
  refine Met.ofW (cc := cX8_takeFromQueue) (maxL := 4) (ret := none) (by decide) rfl ?_
  intro p e s m args below meth c s₁ B hml hv
  obtain ⟨rfl, hsz, hP, hK, hD0⟩ := hv
  subst hsz
  have E : mE D cy RX8 cX8_takeFromQueue 4 none wsX8_takeFromQueue (va_A (wS cy h a u) s.heap.size) p s m _ meth c := ⟨B.exec, B.bytes, B.returns, hml, findClass_of_methodNamed B.named, atoms_spec (ws := wsX8_takeFromQueue) B.pre, B.notSynchronized, hK, fun q h => Or.inr h⟩
  have hl := lv_entry ([.ref h, .int p1]) (n := 4) (Nat.le_of_ble_eq_true rfl)
  rw [lg_entry_eq]
  generalize (lg_sl ([.ref h, .int p1]) ++ List.replicate (4 - (lg_sl ([.ref h, .int p1])).length) Slot.unset).toArray = ls at hl ⊢
  exact tX8_takeFromQueue_b0 K E p1 u _ _ _ hl hP hD0.self va_S.rf h1
-- X8_bringToFront
theorem inX8_bringToFront_X8 : ∀ w ∈ u_ws RX8 TX8 13, w ∈ wsX8_bringToFront := k_lays 3 rfl
theorem lkX8_bringToFront_11 : Cond.fieldLink RX8 11 "FerryRamp$State" "counts" "[I" ∈ wsX8_bringToFront := List.mem_of_getElem? (i := 1) rfl
theorem lkX8_bringToFront_32 : Cond.fieldLink RX8 32 "FerryRamp$State" "queue" "[I" ∈ wsX8_bringToFront := List.mem_of_getElem? (i := 2) rfl
abbrev rmX8_bringToFront : Room := { frames := 0, cells := 0, slots := 0, locals := 0 }
def fX8_bringToFront_b30 (k30 : Int32 × Int32 × KS → Option (KS)) (x2 : Int32) (x3 : Int32) (u : KS) : Option (KS) :=
  (if x3 ≤ 0 then some (wQ u 0 x2) else grd (inb (x3 - 1) 20) (grd (inb x3 20) (k30 (x2, x3 + (-1), wQ u (ix x3) (sQ u (ix (x3 - 1)))))))
set_option maxHeartbeats 4000000 in
set_option maxRecDepth 100000 in
theorem tX8_bringToFront_b30 {p : Program} {l : Launch} {e : Env} {s : State} {m : MethodId} {args : Array Value} {below : List Frame} {meth : Method} {c : Code} {D : va_G} {cy : Nat → ClassId} {A : Nat → Prop} {h : Nat} {a : Nat → Nat} (K : KS → Prop) (E : mE D cy RX8 cX8_bringToFront 4 none wsX8_bringToFront A p s m args meth c)
    (k30 : Int32 × Int32 × KS → Option (KS)) (hk30 : ∀ (x2 : Int32) (x3 : Int32) (u : KS) (H : Heap) (locs : List Loc) (ls : Array Slot), lv_has ls 4 [(0, .ref h), (2, .int x2), (3, .int x3)] → va_P D kCl (wS cy h a u) H → va_D A (wS cy h a u) → va_S A s.heap H locs → Ok (k30 (x2, x3, u)) K → kW p l e rmX8_bringToFront s m args below meth c H locs (va_Qv K (fun q => kPost D A (wS cy h a q)) A) A 30 ls [])
     (x2 : Int32) (x3 : Int32) (u : KS) (H : Heap) (locs : List Loc) (ls : Array Slot) (hl : lv_has ls 4 [(0, .ref h), (2, .int x2), (3, .int x3)]) (hP : va_P D kCl (wS cy h a u) H) (hD : va_D A (wS cy h a u)) (hS : va_S A s.heap H locs) (h1 : Ok (fX8_bringToFront_b30 k30 x2 x3 u) K) :
    kW p l e rmX8_bringToFront s m args below meth c H locs (va_Qv K (fun q => kPost D A (wS cy h a q)) A) A 30 ls [] := by
  obtain ⟨hx, hb, hr, hml, hown, hts, hlocks, hK, hA⟩ := id E
  unfold fX8_bringToFront_b30 at h1
  refine lv_iload_n hx hb dX8_bringToFront_30 rfl (lv_at hl 2 rfl) ?_
  refine lv_if_le (tgt := 54) hx hb dX8_bringToFront_31 (by decide) (fun c31 => ?_) (fun c31 => ?_)
  · replace h1 := Ok.pos c31 h1
    refine lv_aload_n hx hb dX8_bringToFront_54 rfl (lv_at hl 0 rfl) ?_
    refine k_get (v := .ref (a 4)) (C := RX8) (T := TX8) (N := 13) hx hb hts inX8_bringToFront_X8 hown hK hP 0 (wS_a0 _ _ _ _) rfl 4 (by decide) lkX8_bringToFront_32 (sFs_4 _ _) dX8_bringToFront_55 ?_
    refine lv_iconst (v := 0) hx hb dX8_bringToFront_58 rfl ?_
    refine lv_iload_n hx hb dX8_bringToFront_59 rfl (lv_at hl 1 rfl) ?_
    refine k_iast (k := 0) (ws' := wS cy h a (wQ u 0 x2)) hx hb hK hP hD hS 5 (wS_a5 _ _ _ _) rfl rfl (wS_wQ _ _ _ _ _ _) dX8_bringToFront_60 (fun H locs hP hD hS => ?_)
    exact kret_v hx hb hr hlocks hP hD hS h1 dX8_bringToFront_61
  · replace h1 := Ok.neg c31 h1
    refine lv_aload_n hx hb dX8_bringToFront_34 rfl (lv_at hl 0 rfl) ?_
    refine k_get (v := .ref (a 4)) (C := RX8) (T := TX8) (N := 13) hx hb hts inX8_bringToFront_X8 hown hK hP 0 (wS_a0 _ _ _ _) rfl 4 (by decide) lkX8_bringToFront_32 (sFs_4 _ _) dX8_bringToFront_35 ?_
    refine lv_iload_n hx hb dX8_bringToFront_38 rfl (lv_at hl 2 rfl) ?_
    refine lv_aload_n hx hb dX8_bringToFront_39 rfl (lv_at hl 0 rfl) ?_
    refine k_get (v := .ref (a 4)) (C := RX8) (T := TX8) (N := 13) hx hb hts inX8_bringToFront_X8 hown hK hP 0 (wS_a0 _ _ _ _) rfl 4 (by decide) lkX8_bringToFront_32 (sFs_4 _ _) dX8_bringToFront_40 ?_
    refine lv_iload_n hx hb dX8_bringToFront_43 rfl (lv_at hl 2 rfl) ?_
    refine lv_iconst (v := 1) hx hb dX8_bringToFront_44 rfl ?_
    refine lv_isub hx hb dX8_bringToFront_45 ?_
    have g46 := h1.grd1
    replace h1 := h1.grd2
    refine k_iald (k := (ix (x3 - 1))) hx hb hK hP 5 (wS_a5 _ _ _ _) g46 rfl dX8_bringToFront_46 ?_
    have g47 := h1.grd1
    replace h1 := h1.grd2
    refine k_iast (k := (ix x3)) (ws' := wS cy h a (wQ u (ix x3) (sQ u (ix (x3 - 1))))) hx hb hK hP hD hS 5 (wS_a5 _ _ _ _) g47 rfl (wS_wQ _ _ _ _ _ _) dX8_bringToFront_47 (fun H locs hP hD hS => ?_)
    refine lv_iinc (v := x3 + (-1)) (lv' := [(3, .int (x3 + (-1))), (0, .ref h), (2, .int x2)]) hx hb dX8_bringToFront_48 hl (k := 2) rfl rfl (by decide) rfl (fun ls hl => ?_)
    refine lv_goto (tgt := 30) hx hb dX8_bringToFront_51 (by decide) ?_
    exact hk30 x2 (x3 + (-1)) (wQ u (ix x3) (sQ u (ix (x3 - 1)))) H locs ls (lv_sub hl [1, 2, 0] rfl) hP hD hS h1
theorem tX8_bringToFront_l30 {p : Program} {l : Launch} {e : Env} {s : State} {m : MethodId} {args : Array Value} {below : List Frame} {meth : Method} {c : Code} {D : va_G} {cy : Nat → ClassId} {A : Nat → Prop} {h : Nat} {a : Nat → Nat} (K : KS → Prop) (E : mE D cy RX8 cX8_bringToFront 4 none wsX8_bringToFront A p s m args meth c) : ∀ (n9 : Nat) (x2 : Int32) (x3 : Int32) (u : KS) (H : Heap) (locs : List Loc) (ls : Array Slot), lv_has ls 4 [(0, .ref h), (2, .int x2), (3, .int x3)] → va_P D kCl (wS cy h a u) H → va_D A (wS cy h a u) → va_S A s.heap H locs → Ok (lop (fun y z => fX8_bringToFront_b30 y z.1 z.2.1 z.2.2) n9 (x2, x3, u)) K → kW p l e rmX8_bringToFront s m args below meth c H locs (va_Qv K (fun q => kPost D A (wS cy h a q)) A) A 30 ls [] := by
  intro n9
  induction n9 with
  | zero =>
    intro x2 x3 u H locs ls hl hP hD hS h1
    exact h1.no
  | succ n9 ih =>
    intro x2 x3 u H locs ls hl hP hD hS h1
    exact tX8_bringToFront_b30 K E (lop (fun y z => fX8_bringToFront_b30 y z.1 z.2.1 z.2.2) n9) (fun x2 x3 u H locs ls hl hP hD hS h1 => ih x2 x3 u H locs ls hl hP hD hS h1) x2 x3 u H locs ls hl hP hD hS h1
def fX8_bringToFront_b0 (x1 : Int32) (u : KS) : Option (KS) :=
  (if x1 < 0 then some u else (if (sC u 1) ≤ x1 then some u else (if x1 < 20 then grd (inb x1 20) (lop (fun y z => fX8_bringToFront_b30 y z.1 z.2.1 z.2.2) LF (sQ u (ix x1), x1, u)) else some u)))
set_option maxHeartbeats 4000000 in
set_option maxRecDepth 100000 in
theorem tX8_bringToFront_b0 {p : Program} {l : Launch} {e : Env} {s : State} {m : MethodId} {args : Array Value} {below : List Frame} {meth : Method} {c : Code} {D : va_G} {cy : Nat → ClassId} {A : Nat → Prop} {h : Nat} {a : Nat → Nat} (K : KS → Prop) (E : mE D cy RX8 cX8_bringToFront 4 none wsX8_bringToFront A p s m args meth c)
     (x1 : Int32) (u : KS) (H : Heap) (locs : List Loc) (ls : Array Slot) (hl : lv_has ls 4 [(0, .ref h), (1, .int x1)]) (hP : va_P D kCl (wS cy h a u) H) (hD : va_D A (wS cy h a u)) (hS : va_S A s.heap H locs) (h1 : Ok (fX8_bringToFront_b0 x1 u) K) :
    kW p l e rmX8_bringToFront s m args below meth c H locs (va_Qv K (fun q => kPost D A (wS cy h a q)) A) A 0 ls [] := by
  obtain ⟨hx, hb, hr, hml, hown, hts, hlocks, hK, hA⟩ := id E
  unfold fX8_bringToFront_b0 at h1
  refine lv_iload_n hx hb dX8_bringToFront_0 rfl (lv_at hl 1 rfl) ?_
  refine lv_if_lt (tgt := 20) hx hb dX8_bringToFront_1 (by decide) (fun c1 => ?_) (fun c1 => ?_)
  · replace h1 := Ok.pos c1 h1
    exact kret_v hx hb hr hlocks hP hD hS h1 dX8_bringToFront_20
  · replace h1 := Ok.neg c1 h1
    refine lv_iload_n hx hb dX8_bringToFront_4 rfl (lv_at hl 1 rfl) ?_
    refine lv_aload_n hx hb dX8_bringToFront_5 rfl (lv_at hl 0 rfl) ?_
    refine k_get (v := .ref (a 0)) (C := RX8) (T := TX8) (N := 13) hx hb hts inX8_bringToFront_X8 hown hK hP 0 (wS_a0 _ _ _ _) rfl 0 (by decide) lkX8_bringToFront_11 (sFs_0 _ _) dX8_bringToFront_6 ?_
    refine lv_iconst (v := 1) hx hb dX8_bringToFront_9 rfl ?_
    refine k_iald (k := 1) hx hb hK hP 1 (wS_a1 _ _ _ _) rfl rfl dX8_bringToFront_10 ?_
    refine lv_icmp_ge (tgt := 20) hx hb dX8_bringToFront_11 (by decide) (fun c11 => ?_) (fun c11 => ?_)
    · replace h1 := Ok.pos c11 h1
      exact kret_v hx hb hr hlocks hP hD hS h1 dX8_bringToFront_20
    · replace h1 := Ok.neg c11 h1
      refine lv_iload_n hx hb dX8_bringToFront_14 rfl (lv_at hl 1 rfl) ?_
      refine lv_bipush (v := 20) hx hb dX8_bringToFront_15 rfl ?_
      refine lv_icmp_lt (tgt := 21) hx hb dX8_bringToFront_17 (by decide) (fun c17 => ?_) (fun c17 => ?_)
      · replace h1 := Ok.pos c17 h1
        refine lv_aload_n hx hb dX8_bringToFront_21 rfl (lv_at hl 0 rfl) ?_
        refine k_get (v := .ref (a 4)) (C := RX8) (T := TX8) (N := 13) hx hb hts inX8_bringToFront_X8 hown hK hP 0 (wS_a0 _ _ _ _) rfl 4 (by decide) lkX8_bringToFront_32 (sFs_4 _ _) dX8_bringToFront_22 ?_
        refine lv_iload_n hx hb dX8_bringToFront_25 rfl (lv_at hl 1 rfl) ?_
        have g26 := h1.grd1
        replace h1 := h1.grd2
        refine k_iald (k := (ix x1)) hx hb hK hP 5 (wS_a5 _ _ _ _) g26 rfl dX8_bringToFront_26 ?_
        refine lv_istore_n (lv' := [(2, .int (sQ u (ix x1))), (0, .ref h), (1, .int x1)]) hx hb dX8_bringToFront_27 rfl hl (by decide) rfl (fun ls hl => ?_)
        refine lv_iload_n hx hb dX8_bringToFront_28 rfl (lv_at hl 2 rfl) ?_
        refine lv_istore_n (lv' := [(3, .int x1), (2, .int (sQ u (ix x1))), (0, .ref h), (1, .int x1)]) hx hb dX8_bringToFront_29 rfl hl (by decide) rfl (fun ls hl => ?_)
        exact tX8_bringToFront_l30 K E LF (sQ u (ix x1)) x1 u H locs ls (lv_sub hl [2, 1, 0] rfl) hP hD hS h1
      · replace h1 := Ok.neg c17 h1
        exact kret_v hx hb hr hlocks hP hD hS h1 dX8_bringToFront_20
def fX8_bringToFront (p1 : Int32) (u : KS) : Option (KS) := fX8_bringToFront_b0 p1 u
set_option maxHeartbeats 4000000 in
set_option maxRecDepth 100000 in
theorem cX8_bringToFrontM (l : Launch) (D : va_G) (cy : Nat → ClassId) (h : Nat) (a : Nat → Nat) (sz : Nat) (u : KS) (p1 : Int32) : ∀ (K : KS → Prop), Ok (fX8_bringToFront p1 u) K → Met l yX8_bringToFront wsX8_bringToFront rmX8_bringToFront (va_Pc [.ref h, .int p1] (kPre D cy sz (wS cy h a u))) (va_Qv K (fun q => kPost D (va_A (wS cy h a u) sz) (wS cy h a q)) (va_A (wS cy h a u) sz)) 0 0 (va_A (wS cy h a u) sz) := by
  intro K h1
  refine Met.ofW (cc := cX8_bringToFront) (maxL := 4) (ret := none) (by decide) rfl ?_
  intro p e s m args below meth c s₁ B hml hv
  obtain ⟨rfl, hsz, hP, hK, hD0⟩ := hv
  subst hsz
  have E : mE D cy RX8 cX8_bringToFront 4 none wsX8_bringToFront (va_A (wS cy h a u) s.heap.size) p s m _ meth c := ⟨B.exec, B.bytes, B.returns, hml, findClass_of_methodNamed B.named, atoms_spec (ws := wsX8_bringToFront) B.pre, B.notSynchronized, hK, fun q h => Or.inr h⟩
  have hl := lv_entry ([.ref h, .int p1]) (n := 4) (Nat.le_of_ble_eq_true rfl)
  rw [lg_entry_eq]
  generalize (lg_sl ([.ref h, .int p1]) ++ List.replicate (4 - (lg_sl ([.ref h, .int p1])).length) Slot.unset).toArray = ls at hl ⊢
  exact tX8_bringToFront_b0 K E p1 u _ _ _ hl hP hD0.self va_S.rf h1
-- X8_pullEnd
theorem inX8_pullEnd_X8 : ∀ w ∈ u_ws RX8 TX8 13, w ∈ wsX8_pullEnd := k_lays 14 rfl
theorem lkX8_pullEnd_59 : Cond.fieldLink RX8 59 "FerryRamp$State" "lip" "I" ∈ wsX8_pullEnd := List.mem_of_getElem? (i := 1) rfl
theorem lkX8_pullEnd_19 : Cond.fieldLink RX8 19 "FerryRamp$State" "settings" "[I" ∈ wsX8_pullEnd := List.mem_of_getElem? (i := 2) rfl
theorem lkX8_pullEnd_11 : Cond.fieldLink RX8 11 "FerryRamp$State" "counts" "[I" ∈ wsX8_pullEnd := List.mem_of_getElem? (i := 3) rfl
theorem lkX8_pullEnd_52 : Cond.fieldLink RX8 52 "FerryRamp$State" "deck" "I" ∈ wsX8_pullEnd := List.mem_of_getElem? (i := 4) rfl
abbrev rmX8_pullEnd : Room := { frames := 2, cells := 0, slots := 0, locals := 41 }
def fX8_pullEnd_b55 (s1 : Int32) (s2 : Int32) (s3 : Int32) (u : KS) : Option (KS) :=
  grd (inb s1 17) (bnd (fX8_measureRamp (wC u (ix s1) (s2 + s3))) (fun u58 => (if (si u58) = 0 then some (wC u58 5 0) else some u58)))
set_option maxHeartbeats 4000000 in
set_option maxRecDepth 100000 in
theorem tX8_pullEnd_b55 {p : Program} {l : Launch} {e : Env} {s : State} {m : MethodId} {args : Array Value} {below : List Frame} {meth : Method} {c : Code} {D : va_G} {cy : Nat → ClassId} {A : Nat → Prop} {h : Nat} {a : Nat → Nat} (K : KS → Prop) (E : mE D cy RX8 cX8_pullEnd 2 none wsX8_pullEnd A p s m args meth c)
     (s1 : Int32) (s2 : Int32) (s3 : Int32) (u : KS) (H : Heap) (locs : List Loc) (ls : Array Slot) (hl : lv_has ls 2 [(0, .ref h)]) (hP : va_P D kCl (wS cy h a u) H) (hD : va_D A (wS cy h a u)) (hS : va_S A s.heap H locs) (h1 : Ok (fX8_pullEnd_b55 s1 s2 s3 u) K) :
    kW p l e rmX8_pullEnd s m args below meth c H locs (va_Qv K (fun q => kPost D A (wS cy h a q)) A) A 55 ls [.int s3, .int s2, .int s1, .ref (a 0)] := by
  obtain ⟨hx, hb, hr, hml, hown, hts, hlocks, hK, hA⟩ := id E
  unfold fX8_pullEnd_b55 at h1
  refine lv_iadd hx hb dX8_pullEnd_55 ?_
  have g56 := h1.grd1
  replace h1 := h1.grd2
  refine k_iast (k := (ix s1)) (ws' := wS cy h a (wC u (ix s1) (s2 + s3))) hx hb hK hP hD hS 1 (wS_a1 _ _ _ _) g56 rfl (wS_wC _ _ _ _ _ _) dX8_pullEnd_56 (fun H locs hP hD hS => ?_)
  refine lv_aload_n hx hb dX8_pullEnd_57 rfl (lv_at hl 0 rfl) ?_
  refine kc_vV0 (b := h) (As := []) (rest := []) h1 ⟨hx, hb, hml, hown, hts⟩ (cX8_measureRampM l D cy h a H.size (wC u (ix s1) (s2 + s3))) (cwV 0 hts gX8_pullEnd_X8_measureRamp rfl rfl rfl hdX8_measureRamp ⟨Nat.le_of_ble_eq_true rfl, Nat.le_of_ble_eq_true rfl⟩) hK hP hD hS hA (q0 := 0) rfl rfl rfl hl.1 rfl (Nat.le_of_ble_eq_true rfl) dX8_pullEnd_58 ⟨Nat.zero_le _, Nat.zero_le _⟩ (fun u58 H locs h1 hP hD hS => ?_)
  refine lv_aload_n hx hb dX8_pullEnd_61 rfl (lv_at hl 0 rfl) ?_
  refine k_get (v := .int (si u58)) (C := RX8) (T := TX8) (N := 13) hx hb hts inX8_pullEnd_X8 hown hK hP 0 (wS_a0 _ _ _ _) rfl 12 (by decide) lkX8_pullEnd_59 (sFs_12 _ _) dX8_pullEnd_62 ?_
  refine lv_if_ne (tgt := 75) hx hb dX8_pullEnd_65 (by decide) (fun c65 => ?_) (fun c65 => ?_)
  · replace h1 := Ok.neg c65 h1
    exact kret_v hx hb hr hlocks hP hD hS h1 dX8_pullEnd_75
  · replace h1 := Ok.pos c65 h1
    refine lv_aload_n hx hb dX8_pullEnd_68 rfl (lv_at hl 0 rfl) ?_
    refine k_get (v := .ref (a 0)) (C := RX8) (T := TX8) (N := 13) hx hb hts inX8_pullEnd_X8 hown hK hP 0 (wS_a0 _ _ _ _) rfl 0 (by decide) lkX8_pullEnd_11 (sFs_0 _ _) dX8_pullEnd_69 ?_
    refine lv_iconst (v := 5) hx hb dX8_pullEnd_72 rfl ?_
    refine lv_iconst (v := 0) hx hb dX8_pullEnd_73 rfl ?_
    refine k_iast (k := 5) (ws' := wS cy h a (wC u58 5 0)) hx hb hK hP hD hS 1 (wS_a1 _ _ _ _) rfl rfl (wS_wC _ _ _ _ _ _) dX8_pullEnd_74 (fun H locs hP hD hS => ?_)
    exact kret_v hx hb hr hlocks hP hD hS h1 dX8_pullEnd_75
def fX8_pullEnd_b28 (s0 : Int32) (u : KS) : Option (KS) :=
  (if (sd u) ≤ (sC u 4) then fX8_pullEnd_b55 4 (sC u 4) (-s0) u else fX8_pullEnd_b55 4 (sC u 4) s0 u)
set_option maxHeartbeats 4000000 in
set_option maxRecDepth 100000 in
theorem tX8_pullEnd_b28 {p : Program} {l : Launch} {e : Env} {s : State} {m : MethodId} {args : Array Value} {below : List Frame} {meth : Method} {c : Code} {D : va_G} {cy : Nat → ClassId} {A : Nat → Prop} {h : Nat} {a : Nat → Nat} (K : KS → Prop) (E : mE D cy RX8 cX8_pullEnd 2 none wsX8_pullEnd A p s m args meth c)
     (s0 : Int32) (u : KS) (H : Heap) (locs : List Loc) (ls : Array Slot) (hl : lv_has ls 2 [(0, .ref h)]) (hP : va_P D kCl (wS cy h a u) H) (hD : va_D A (wS cy h a u)) (hS : va_S A s.heap H locs) (h1 : Ok (fX8_pullEnd_b28 s0 u) K) :
    kW p l e rmX8_pullEnd s m args below meth c H locs (va_Qv K (fun q => kPost D A (wS cy h a q)) A) A 28 ls [.int s0] := by
  obtain ⟨hx, hb, hr, hml, hown, hts, hlocks, hK, hA⟩ := id E
  unfold fX8_pullEnd_b28 at h1
  refine lv_istore_n (lv' := [(1, .int s0), (0, .ref h)]) hx hb dX8_pullEnd_28 rfl hl (by decide) rfl (fun ls hl => ?_)
  refine lv_aload_n hx hb dX8_pullEnd_29 rfl (lv_at hl 1 rfl) ?_
  refine k_get (v := .ref (a 0)) (C := RX8) (T := TX8) (N := 13) hx hb hts inX8_pullEnd_X8 hown hK hP 0 (wS_a0 _ _ _ _) rfl 0 (by decide) lkX8_pullEnd_11 (sFs_0 _ _) dX8_pullEnd_30 ?_
  refine lv_iconst (v := 4) hx hb dX8_pullEnd_33 rfl ?_
  refine lv_dup2_11 hx hb dX8_pullEnd_34 rfl rfl ?_
  refine k_iald (k := 4) hx hb hK hP 1 (wS_a1 _ _ _ _) rfl rfl dX8_pullEnd_35 ?_
  refine lv_aload_n hx hb dX8_pullEnd_36 rfl (lv_at hl 1 rfl) ?_
  refine k_get (v := .ref (a 0)) (C := RX8) (T := TX8) (N := 13) hx hb hts inX8_pullEnd_X8 hown hK hP 0 (wS_a0 _ _ _ _) rfl 0 (by decide) lkX8_pullEnd_11 (sFs_0 _ _) dX8_pullEnd_37 ?_
  refine lv_iconst (v := 4) hx hb dX8_pullEnd_40 rfl ?_
  refine k_iald (k := 4) hx hb hK hP 1 (wS_a1 _ _ _ _) rfl rfl dX8_pullEnd_41 ?_
  refine lv_aload_n hx hb dX8_pullEnd_42 rfl (lv_at hl 1 rfl) ?_
  refine k_get (v := .int (sd u)) (C := RX8) (T := TX8) (N := 13) hx hb hts inX8_pullEnd_X8 hown hK hP 0 (wS_a0 _ _ _ _) rfl 10 (by decide) lkX8_pullEnd_52 (sFs_10 _ _) dX8_pullEnd_43 ?_
  refine lv_icmp_ge (tgt := 53) hx hb dX8_pullEnd_46 (by decide) (fun c46 => ?_) (fun c46 => ?_)
  · replace h1 := Ok.pos c46 h1
    refine lv_iload_n hx hb dX8_pullEnd_53 rfl (lv_at hl 0 rfl) ?_
    refine lv_ineg hx hb dX8_pullEnd_54 ?_
    exact tX8_pullEnd_b55 K E 4 (sC u 4) (-s0) u H locs ls (lv_sub hl [1] rfl) hP hD hS h1
  · replace h1 := Ok.neg c46 h1
    refine lv_iload_n hx hb dX8_pullEnd_49 rfl (lv_at hl 0 rfl) ?_
    refine lv_goto (tgt := 55) hx hb dX8_pullEnd_50 (by decide) ?_
    exact tX8_pullEnd_b55 K E 4 (sC u 4) s0 u H locs ls (lv_sub hl [1] rfl) hP hD hS h1
def fX8_pullEnd_b0 (u : KS) : Option (KS) :=
  (if (sT u 9) ≤ (si u) then fX8_pullEnd_b28 (sT u 9) u else fX8_pullEnd_b28 (si u) u)
set_option maxHeartbeats 4000000 in
set_option maxRecDepth 100000 in
theorem tX8_pullEnd_b0 {p : Program} {l : Launch} {e : Env} {s : State} {m : MethodId} {args : Array Value} {below : List Frame} {meth : Method} {c : Code} {D : va_G} {cy : Nat → ClassId} {A : Nat → Prop} {h : Nat} {a : Nat → Nat} (K : KS → Prop) (E : mE D cy RX8 cX8_pullEnd 2 none wsX8_pullEnd A p s m args meth c)
     (u : KS) (H : Heap) (locs : List Loc) (ls : Array Slot) (hl : lv_has ls 2 [(0, .ref h)]) (hP : va_P D kCl (wS cy h a u) H) (hD : va_D A (wS cy h a u)) (hS : va_S A s.heap H locs) (h1 : Ok (fX8_pullEnd_b0 u) K) :
    kW p l e rmX8_pullEnd s m args below meth c H locs (va_Qv K (fun q => kPost D A (wS cy h a q)) A) A 0 ls [] := by
  obtain ⟨hx, hb, hr, hml, hown, hts, hlocks, hK, hA⟩ := id E
  unfold fX8_pullEnd_b0 at h1
  refine lv_aload_n hx hb dX8_pullEnd_0 rfl (lv_at hl 0 rfl) ?_
  refine k_get (v := .int (si u)) (C := RX8) (T := TX8) (N := 13) hx hb hts inX8_pullEnd_X8 hown hK hP 0 (wS_a0 _ _ _ _) rfl 12 (by decide) lkX8_pullEnd_59 (sFs_12 _ _) dX8_pullEnd_1 ?_
  refine lv_aload_n hx hb dX8_pullEnd_4 rfl (lv_at hl 0 rfl) ?_
  refine k_get (v := .ref (a 1)) (C := RX8) (T := TX8) (N := 13) hx hb hts inX8_pullEnd_X8 hown hK hP 0 (wS_a0 _ _ _ _) rfl 1 (by decide) lkX8_pullEnd_19 (sFs_1 _ _) dX8_pullEnd_5 ?_
  refine lv_bipush (v := 9) hx hb dX8_pullEnd_8 rfl ?_
  refine k_iald (k := 9) hx hb hK hP 2 (wS_a2 _ _ _ _) rfl rfl dX8_pullEnd_10 ?_
  refine lv_icmp_ge (tgt := 21) hx hb dX8_pullEnd_11 (by decide) (fun c11 => ?_) (fun c11 => ?_)
  · replace h1 := Ok.pos c11 h1
    refine lv_aload_n hx hb dX8_pullEnd_21 rfl (lv_at hl 0 rfl) ?_
    refine k_get (v := .ref (a 1)) (C := RX8) (T := TX8) (N := 13) hx hb hts inX8_pullEnd_X8 hown hK hP 0 (wS_a0 _ _ _ _) rfl 1 (by decide) lkX8_pullEnd_19 (sFs_1 _ _) dX8_pullEnd_22 ?_
    refine lv_bipush (v := 9) hx hb dX8_pullEnd_25 rfl ?_
    refine k_iald (k := 9) hx hb hK hP 2 (wS_a2 _ _ _ _) rfl rfl dX8_pullEnd_27 ?_
    exact tX8_pullEnd_b28 K E (sT u 9) u H locs ls (lv_sub hl [0] rfl) hP hD hS h1
  · replace h1 := Ok.neg c11 h1
    refine lv_aload_n hx hb dX8_pullEnd_14 rfl (lv_at hl 0 rfl) ?_
    refine k_get (v := .int (si u)) (C := RX8) (T := TX8) (N := 13) hx hb hts inX8_pullEnd_X8 hown hK hP 0 (wS_a0 _ _ _ _) rfl 12 (by decide) lkX8_pullEnd_59 (sFs_12 _ _) dX8_pullEnd_15 ?_
    refine lv_goto (tgt := 28) hx hb dX8_pullEnd_18 (by decide) ?_
    exact tX8_pullEnd_b28 K E (si u) u H locs ls (lv_sub hl [0] rfl) hP hD hS h1
def fX8_pullEnd (u : KS) : Option (KS) := fX8_pullEnd_b0 u
set_option maxHeartbeats 4000000 in
set_option maxRecDepth 100000 in
theorem cX8_pullEndM (l : Launch) (D : va_G) (cy : Nat → ClassId) (h : Nat) (a : Nat → Nat) (sz : Nat) (u : KS) : ∀ (K : KS → Prop), Ok (fX8_pullEnd u) K → Met l yX8_pullEnd wsX8_pullEnd rmX8_pullEnd (va_Pc [.ref h] (kPre D cy sz (wS cy h a u))) (va_Qv K (fun q => kPost D (va_A (wS cy h a u) sz) (wS cy h a q)) (va_A (wS cy h a u) sz)) 0 0 (va_A (wS cy h a u) sz) := by
  intro K h1
  refine Met.ofW (cc := cX8_pullEnd) (maxL := 2) (ret := none) (by decide) rfl ?_
  intro p e s m args below meth c s₁ B hml hv
  obtain ⟨rfl, hsz, hP, hK, hD0⟩ := hv
  subst hsz
  have E : mE D cy RX8 cX8_pullEnd 2 none wsX8_pullEnd (va_A (wS cy h a u) s.heap.size) p s m _ meth c := ⟨B.exec, B.bytes, B.returns, hml, findClass_of_methodNamed B.named, atoms_spec (ws := wsX8_pullEnd) B.pre, B.notSynchronized, hK, fun q h => Or.inr h⟩
  have hl := lv_entry ([.ref h]) (n := 2) (Nat.le_of_ble_eq_true rfl)
  rw [lg_entry_eq]
  generalize (lg_sl ([.ref h]) ++ List.replicate (2 - (lg_sl ([.ref h])).length) Slot.unset).toArray = ls at hl ⊢
  exact tX8_pullEnd_b0 K E u _ _ _ hl hP hD0.self va_S.rf h1
-- X8_runWinch
theorem inX8_runWinch_X8 : ∀ w ∈ u_ws RX8 TX8 13, w ∈ wsX8_runWinch := k_lays 18 rfl
theorem lkX8_runWinch_11 : Cond.fieldLink RX8 11 "FerryRamp$State" "counts" "[I" ∈ wsX8_runWinch := List.mem_of_getElem? (i := 1) rfl
theorem hdX8_pullEnd : yX8_pullEnd.cls = RX8 ∧ yX8_pullEnd.cls ≠ "java/lang/invoke/MethodHandle" ∧ yX8_pullEnd.cls ≠ "java/lang/invoke/VarHandle" ∧ (parseMethodDescriptor yX8_pullEnd.desc).map (fun d => d.parameters.length) = some 0 := by decide +kernel
theorem lkX8_runWinch_59 : Cond.fieldLink RX8 59 "FerryRamp$State" "lip" "I" ∈ wsX8_runWinch := List.mem_of_getElem? (i := 2) rfl
theorem lkX8_runWinch_19 : Cond.fieldLink RX8 19 "FerryRamp$State" "settings" "[I" ∈ wsX8_runWinch := List.mem_of_getElem? (i := 3) rfl
abbrev rmX8_runWinch : Room := { frames := 3, cells := 0, slots := 0, locals := 62 }
def fX8_runWinch_b95 (u : KS) : Option (KS) :=
  (if (sC u 5) = 2 then bnd (fX8_pullEnd u) (fun u106 => some u106) else some u)
set_option maxHeartbeats 4000000 in
set_option maxRecDepth 100000 in
theorem tX8_runWinch_b95 {p : Program} {l : Launch} {e : Env} {s : State} {m : MethodId} {args : Array Value} {below : List Frame} {meth : Method} {c : Code} {D : va_G} {cy : Nat → ClassId} {A : Nat → Prop} {h : Nat} {a : Nat → Nat} (K : KS → Prop) (E : mE D cy RX8 cX8_runWinch 1 none wsX8_runWinch A p s m args meth c)
     (u : KS) (H : Heap) (locs : List Loc) (ls : Array Slot) (hl : lv_has ls 1 [(0, .ref h)]) (hP : va_P D kCl (wS cy h a u) H) (hD : va_D A (wS cy h a u)) (hS : va_S A s.heap H locs) (h1 : Ok (fX8_runWinch_b95 u) K) :
    kW p l e rmX8_runWinch s m args below meth c H locs (va_Qv K (fun q => kPost D A (wS cy h a q)) A) A 95 ls [] := by
  obtain ⟨hx, hb, hr, hml, hown, hts, hlocks, hK, hA⟩ := id E
  unfold fX8_runWinch_b95 at h1
  refine lv_aload_n hx hb dX8_runWinch_95 rfl (lv_at hl 0 rfl) ?_
  refine k_get (v := .ref (a 0)) (C := RX8) (T := TX8) (N := 13) hx hb hts inX8_runWinch_X8 hown hK hP 0 (wS_a0 _ _ _ _) rfl 0 (by decide) lkX8_runWinch_11 (sFs_0 _ _) dX8_runWinch_96 ?_
  refine lv_iconst (v := 5) hx hb dX8_runWinch_99 rfl ?_
  refine k_iald (k := 5) hx hb hK hP 1 (wS_a1 _ _ _ _) rfl rfl dX8_runWinch_100 ?_
  refine lv_iconst (v := 2) hx hb dX8_runWinch_101 rfl ?_
  refine lv_icmp_ne (tgt := 109) hx hb dX8_runWinch_102 (by decide) (fun c102 => ?_) (fun c102 => ?_)
  · replace h1 := Ok.neg c102 h1
    exact kret_v hx hb hr hlocks hP hD hS h1 dX8_runWinch_109
  · replace h1 := Ok.pos c102 h1
    refine lv_aload_n hx hb dX8_runWinch_105 rfl (lv_at hl 0 rfl) ?_
    refine kc_vV0 (b := h) (As := []) (rest := []) h1 ⟨hx, hb, hml, hown, hts⟩ (cX8_pullEndM l D cy h a H.size u) (cwV 0 hts gX8_runWinch_X8_pullEnd rfl rfl rfl hdX8_pullEnd ⟨Nat.le_of_ble_eq_true rfl, Nat.le_of_ble_eq_true rfl⟩) hK hP hD hS hA (q0 := 0) rfl rfl rfl hl.1 rfl (Nat.le_of_ble_eq_true rfl) dX8_runWinch_106 ⟨Nat.zero_le _, Nat.zero_le _⟩ (fun u106 H locs h1 hP hD hS => ?_)
    exact kret_v hx hb hr hlocks hP hD hS h1 dX8_runWinch_109
def fX8_runWinch_b68 (u : KS) : Option (KS) :=
  (if (sC u 5) = 1 then (if 0 < (sC u 6) then fX8_runWinch_b95 u else fX8_runWinch_b95 (wC u 5 2)) else fX8_runWinch_b95 u)
set_option maxHeartbeats 4000000 in
set_option maxRecDepth 100000 in
theorem tX8_runWinch_b68 {p : Program} {l : Launch} {e : Env} {s : State} {m : MethodId} {args : Array Value} {below : List Frame} {meth : Method} {c : Code} {D : va_G} {cy : Nat → ClassId} {A : Nat → Prop} {h : Nat} {a : Nat → Nat} (K : KS → Prop) (E : mE D cy RX8 cX8_runWinch 1 none wsX8_runWinch A p s m args meth c)
     (u : KS) (H : Heap) (locs : List Loc) (ls : Array Slot) (hl : lv_has ls 1 [(0, .ref h)]) (hP : va_P D kCl (wS cy h a u) H) (hD : va_D A (wS cy h a u)) (hS : va_S A s.heap H locs) (h1 : Ok (fX8_runWinch_b68 u) K) :
    kW p l e rmX8_runWinch s m args below meth c H locs (va_Qv K (fun q => kPost D A (wS cy h a q)) A) A 68 ls [] := by
  obtain ⟨hx, hb, hr, hml, hown, hts, hlocks, hK, hA⟩ := id E
  unfold fX8_runWinch_b68 at h1
  refine lv_aload_n hx hb dX8_runWinch_68 rfl (lv_at hl 0 rfl) ?_
  refine k_get (v := .ref (a 0)) (C := RX8) (T := TX8) (N := 13) hx hb hts inX8_runWinch_X8 hown hK hP 0 (wS_a0 _ _ _ _) rfl 0 (by decide) lkX8_runWinch_11 (sFs_0 _ _) dX8_runWinch_69 ?_
  refine lv_iconst (v := 5) hx hb dX8_runWinch_72 rfl ?_
  refine k_iald (k := 5) hx hb hK hP 1 (wS_a1 _ _ _ _) rfl rfl dX8_runWinch_73 ?_
  refine lv_iconst (v := 1) hx hb dX8_runWinch_74 rfl ?_
  refine lv_icmp_ne (tgt := 95) hx hb dX8_runWinch_75 (by decide) (fun c75 => ?_) (fun c75 => ?_)
  · replace h1 := Ok.neg c75 h1
    exact tX8_runWinch_b95 K E u H locs ls (lv_sub hl [0] rfl) hP hD hS h1
  · replace h1 := Ok.pos c75 h1
    refine lv_aload_n hx hb dX8_runWinch_78 rfl (lv_at hl 0 rfl) ?_
    refine k_get (v := .ref (a 0)) (C := RX8) (T := TX8) (N := 13) hx hb hts inX8_runWinch_X8 hown hK hP 0 (wS_a0 _ _ _ _) rfl 0 (by decide) lkX8_runWinch_11 (sFs_0 _ _) dX8_runWinch_79 ?_
    refine lv_bipush (v := 6) hx hb dX8_runWinch_82 rfl ?_
    refine k_iald (k := 6) hx hb hK hP 1 (wS_a1 _ _ _ _) rfl rfl dX8_runWinch_84 ?_
    refine lv_if_gt (tgt := 95) hx hb dX8_runWinch_85 (by decide) (fun c85 => ?_) (fun c85 => ?_)
    · replace h1 := Ok.pos c85 h1
      exact tX8_runWinch_b95 K E u H locs ls (lv_sub hl [0] rfl) hP hD hS h1
    · replace h1 := Ok.neg c85 h1
      refine lv_aload_n hx hb dX8_runWinch_88 rfl (lv_at hl 0 rfl) ?_
      refine k_get (v := .ref (a 0)) (C := RX8) (T := TX8) (N := 13) hx hb hts inX8_runWinch_X8 hown hK hP 0 (wS_a0 _ _ _ _) rfl 0 (by decide) lkX8_runWinch_11 (sFs_0 _ _) dX8_runWinch_89 ?_
      refine lv_iconst (v := 5) hx hb dX8_runWinch_92 rfl ?_
      refine lv_iconst (v := 2) hx hb dX8_runWinch_93 rfl ?_
      refine k_iast (k := 5) (ws' := wS cy h a (wC u 5 2)) hx hb hK hP hD hS 1 (wS_a1 _ _ _ _) rfl rfl (wS_wC _ _ _ _ _ _) dX8_runWinch_94 (fun H locs hP hD hS => ?_)
      exact tX8_runWinch_b95 K E (wC u 5 2) H locs ls (lv_sub hl [0] rfl) hP hD hS h1
def fX8_runWinch_b47 (u : KS) : Option (KS) :=
  (if (sC u 5) = 1 then fX8_runWinch_b68 (wC u 6 ((sC u 6) - 1)) else fX8_runWinch_b68 u)
set_option maxHeartbeats 4000000 in
set_option maxRecDepth 100000 in
theorem tX8_runWinch_b47 {p : Program} {l : Launch} {e : Env} {s : State} {m : MethodId} {args : Array Value} {below : List Frame} {meth : Method} {c : Code} {D : va_G} {cy : Nat → ClassId} {A : Nat → Prop} {h : Nat} {a : Nat → Nat} (K : KS → Prop) (E : mE D cy RX8 cX8_runWinch 1 none wsX8_runWinch A p s m args meth c)
     (u : KS) (H : Heap) (locs : List Loc) (ls : Array Slot) (hl : lv_has ls 1 [(0, .ref h)]) (hP : va_P D kCl (wS cy h a u) H) (hD : va_D A (wS cy h a u)) (hS : va_S A s.heap H locs) (h1 : Ok (fX8_runWinch_b47 u) K) :
    kW p l e rmX8_runWinch s m args below meth c H locs (va_Qv K (fun q => kPost D A (wS cy h a q)) A) A 47 ls [] := by
  obtain ⟨hx, hb, hr, hml, hown, hts, hlocks, hK, hA⟩ := id E
  unfold fX8_runWinch_b47 at h1
  refine lv_aload_n hx hb dX8_runWinch_47 rfl (lv_at hl 0 rfl) ?_
  refine k_get (v := .ref (a 0)) (C := RX8) (T := TX8) (N := 13) hx hb hts inX8_runWinch_X8 hown hK hP 0 (wS_a0 _ _ _ _) rfl 0 (by decide) lkX8_runWinch_11 (sFs_0 _ _) dX8_runWinch_48 ?_
  refine lv_iconst (v := 5) hx hb dX8_runWinch_51 rfl ?_
  refine k_iald (k := 5) hx hb hK hP 1 (wS_a1 _ _ _ _) rfl rfl dX8_runWinch_52 ?_
  refine lv_iconst (v := 1) hx hb dX8_runWinch_53 rfl ?_
  refine lv_icmp_ne (tgt := 68) hx hb dX8_runWinch_54 (by decide) (fun c54 => ?_) (fun c54 => ?_)
  · replace h1 := Ok.neg c54 h1
    exact tX8_runWinch_b68 K E u H locs ls (lv_sub hl [0] rfl) hP hD hS h1
  · replace h1 := Ok.pos c54 h1
    refine lv_aload_n hx hb dX8_runWinch_57 rfl (lv_at hl 0 rfl) ?_
    refine k_get (v := .ref (a 0)) (C := RX8) (T := TX8) (N := 13) hx hb hts inX8_runWinch_X8 hown hK hP 0 (wS_a0 _ _ _ _) rfl 0 (by decide) lkX8_runWinch_11 (sFs_0 _ _) dX8_runWinch_58 ?_
    refine lv_bipush (v := 6) hx hb dX8_runWinch_61 rfl ?_
    refine lv_dup2_11 hx hb dX8_runWinch_63 rfl rfl ?_
    refine k_iald (k := 6) hx hb hK hP 1 (wS_a1 _ _ _ _) rfl rfl dX8_runWinch_64 ?_
    refine lv_iconst (v := 1) hx hb dX8_runWinch_65 rfl ?_
    refine lv_isub hx hb dX8_runWinch_66 ?_
    refine k_iast (k := 6) (ws' := wS cy h a (wC u 6 ((sC u 6) - 1))) hx hb hK hP hD hS 1 (wS_a1 _ _ _ _) rfl rfl (wS_wC _ _ _ _ _ _) dX8_runWinch_67 (fun H locs hP hD hS => ?_)
    exact tX8_runWinch_b68 K E (wC u 6 ((sC u 6) - 1)) H locs ls (lv_sub hl [0] rfl) hP hD hS h1
def fX8_runWinch_b0 (u : KS) : Option (KS) :=
  (if (sC u 5) = 0 then (if (si u) ≤ (sT u 10) then fX8_runWinch_b47 u else fX8_runWinch_b68 (wC (wC u 5 1) 6 (sT (wC u 5 1) 11))) else fX8_runWinch_b47 u)
set_option maxHeartbeats 4000000 in
set_option maxRecDepth 100000 in
theorem tX8_runWinch_b0 {p : Program} {l : Launch} {e : Env} {s : State} {m : MethodId} {args : Array Value} {below : List Frame} {meth : Method} {c : Code} {D : va_G} {cy : Nat → ClassId} {A : Nat → Prop} {h : Nat} {a : Nat → Nat} (K : KS → Prop) (E : mE D cy RX8 cX8_runWinch 1 none wsX8_runWinch A p s m args meth c)
     (u : KS) (H : Heap) (locs : List Loc) (ls : Array Slot) (hl : lv_has ls 1 [(0, .ref h)]) (hP : va_P D kCl (wS cy h a u) H) (hD : va_D A (wS cy h a u)) (hS : va_S A s.heap H locs) (h1 : Ok (fX8_runWinch_b0 u) K) :
    kW p l e rmX8_runWinch s m args below meth c H locs (va_Qv K (fun q => kPost D A (wS cy h a q)) A) A 0 ls [] := by
  obtain ⟨hx, hb, hr, hml, hown, hts, hlocks, hK, hA⟩ := id E
  unfold fX8_runWinch_b0 at h1
  refine lv_aload_n hx hb dX8_runWinch_0 rfl (lv_at hl 0 rfl) ?_
  refine k_get (v := .ref (a 0)) (C := RX8) (T := TX8) (N := 13) hx hb hts inX8_runWinch_X8 hown hK hP 0 (wS_a0 _ _ _ _) rfl 0 (by decide) lkX8_runWinch_11 (sFs_0 _ _) dX8_runWinch_1 ?_
  refine lv_iconst (v := 5) hx hb dX8_runWinch_4 rfl ?_
  refine k_iald (k := 5) hx hb hK hP 1 (wS_a1 _ _ _ _) rfl rfl dX8_runWinch_5 ?_
  refine lv_if_ne (tgt := 47) hx hb dX8_runWinch_6 (by decide) (fun c6 => ?_) (fun c6 => ?_)
  · replace h1 := Ok.neg c6 h1
    exact tX8_runWinch_b47 K E u H locs ls (lv_sub hl [0] rfl) hP hD hS h1
  · replace h1 := Ok.pos c6 h1
    refine lv_aload_n hx hb dX8_runWinch_9 rfl (lv_at hl 0 rfl) ?_
    refine k_get (v := .int (si u)) (C := RX8) (T := TX8) (N := 13) hx hb hts inX8_runWinch_X8 hown hK hP 0 (wS_a0 _ _ _ _) rfl 12 (by decide) lkX8_runWinch_59 (sFs_12 _ _) dX8_runWinch_10 ?_
    refine lv_aload_n hx hb dX8_runWinch_13 rfl (lv_at hl 0 rfl) ?_
    refine k_get (v := .ref (a 1)) (C := RX8) (T := TX8) (N := 13) hx hb hts inX8_runWinch_X8 hown hK hP 0 (wS_a0 _ _ _ _) rfl 1 (by decide) lkX8_runWinch_19 (sFs_1 _ _) dX8_runWinch_14 ?_
    refine lv_bipush (v := 10) hx hb dX8_runWinch_17 rfl ?_
    refine k_iald (k := 10) hx hb hK hP 2 (wS_a2 _ _ _ _) rfl rfl dX8_runWinch_19 ?_
    refine lv_icmp_le (tgt := 47) hx hb dX8_runWinch_20 (by decide) (fun c20 => ?_) (fun c20 => ?_)
    · replace h1 := Ok.pos c20 h1
      exact tX8_runWinch_b47 K E u H locs ls (lv_sub hl [0] rfl) hP hD hS h1
    · replace h1 := Ok.neg c20 h1
      refine lv_aload_n hx hb dX8_runWinch_23 rfl (lv_at hl 0 rfl) ?_
      refine k_get (v := .ref (a 0)) (C := RX8) (T := TX8) (N := 13) hx hb hts inX8_runWinch_X8 hown hK hP 0 (wS_a0 _ _ _ _) rfl 0 (by decide) lkX8_runWinch_11 (sFs_0 _ _) dX8_runWinch_24 ?_
      refine lv_iconst (v := 5) hx hb dX8_runWinch_27 rfl ?_
      refine lv_iconst (v := 1) hx hb dX8_runWinch_28 rfl ?_
      refine k_iast (k := 5) (ws' := wS cy h a (wC u 5 1)) hx hb hK hP hD hS 1 (wS_a1 _ _ _ _) rfl rfl (wS_wC _ _ _ _ _ _) dX8_runWinch_29 (fun H locs hP hD hS => ?_)
      refine lv_aload_n hx hb dX8_runWinch_30 rfl (lv_at hl 0 rfl) ?_
      refine k_get (v := .ref (a 0)) (C := RX8) (T := TX8) (N := 13) hx hb hts inX8_runWinch_X8 hown hK hP 0 (wS_a0 _ _ _ _) rfl 0 (by decide) lkX8_runWinch_11 (sFs_0 _ _) dX8_runWinch_31 ?_
      refine lv_bipush (v := 6) hx hb dX8_runWinch_34 rfl ?_
      refine lv_aload_n hx hb dX8_runWinch_36 rfl (lv_at hl 0 rfl) ?_
      refine k_get (v := .ref (a 1)) (C := RX8) (T := TX8) (N := 13) hx hb hts inX8_runWinch_X8 hown hK hP 0 (wS_a0 _ _ _ _) rfl 1 (by decide) lkX8_runWinch_19 (sFs_1 _ _) dX8_runWinch_37 ?_
      refine lv_bipush (v := 11) hx hb dX8_runWinch_40 rfl ?_
      refine k_iald (k := 11) hx hb hK hP 2 (wS_a2 _ _ _ _) rfl rfl dX8_runWinch_42 ?_
      refine k_iast (k := 6) (ws' := wS cy h a (wC (wC u 5 1) 6 (sT (wC u 5 1) 11))) hx hb hK hP hD hS 1 (wS_a1 _ _ _ _) rfl rfl (wS_wC _ _ _ _ _ _) dX8_runWinch_43 (fun H locs hP hD hS => ?_)
      refine lv_goto (tgt := 68) hx hb dX8_runWinch_44 (by decide) ?_
      exact tX8_runWinch_b68 K E (wC (wC u 5 1) 6 (sT (wC u 5 1) 11)) H locs ls (lv_sub hl [0] rfl) hP hD hS h1
def fX8_runWinch (u : KS) : Option (KS) := fX8_runWinch_b0 u
set_option maxHeartbeats 4000000 in
set_option maxRecDepth 100000 in
theorem cX8_runWinchM (l : Launch) (D : va_G) (cy : Nat → ClassId) (h : Nat) (a : Nat → Nat) (sz : Nat) (u : KS) : ∀ (K : KS → Prop), Ok (fX8_runWinch u) K → Met l yX8_runWinch wsX8_runWinch rmX8_runWinch (va_Pc [.ref h] (kPre D cy sz (wS cy h a u))) (va_Qv K (fun q => kPost D (va_A (wS cy h a u) sz) (wS cy h a q)) (va_A (wS cy h a u) sz)) 0 0 (va_A (wS cy h a u) sz) := by
  intro K h1
  refine Met.ofW (cc := cX8_runWinch) (maxL := 1) (ret := none) (by decide) rfl ?_
  intro p e s m args below meth c s₁ B hml hv
  obtain ⟨rfl, hsz, hP, hK, hD0⟩ := hv
  subst hsz
  have E : mE D cy RX8 cX8_runWinch 1 none wsX8_runWinch (va_A (wS cy h a u) s.heap.size) p s m _ meth c := ⟨B.exec, B.bytes, B.returns, hml, findClass_of_methodNamed B.named, atoms_spec (ws := wsX8_runWinch) B.pre, B.notSynchronized, hK, fun q h => Or.inr h⟩
  have hl := lv_entry ([.ref h]) (n := 1) (Nat.le_of_ble_eq_true rfl)
  rw [lg_entry_eq]
  generalize (lg_sl ([.ref h]) ++ List.replicate (1 - (lg_sl ([.ref h])).length) Slot.unset).toArray = ls at hl ⊢
  exact tX8_runWinch_b0 K E u _ _ _ hl hP hD0.self va_S.rf h1
-- X8_putOnDeck
theorem inX8_putOnDeck_X8 : ∀ w ∈ u_ws RX8 TX8 13, w ∈ wsX8_putOnDeck := k_lays 14 rfl
theorem lkX8_putOnDeck_38 : Cond.fieldLink RX8 38 "FerryRamp$State" "deckCars" "[I" ∈ wsX8_putOnDeck := List.mem_of_getElem? (i := 1) rfl
theorem lkX8_putOnDeck_35 : Cond.fieldLink RX8 35 "FerryRamp$State" "onDeck" "[I" ∈ wsX8_putOnDeck := List.mem_of_getElem? (i := 2) rfl
theorem lkX8_putOnDeck_11 : Cond.fieldLink RX8 11 "FerryRamp$State" "counts" "[I" ∈ wsX8_putOnDeck := List.mem_of_getElem? (i := 3) rfl
abbrev rmX8_putOnDeck : Room := { frames := 1, cells := 0, slots := 0, locals := 24 }
def fX8_putOnDeck_b0 (x1 : Int32) (u : KS) : Option (KS) :=
  bnd (fX8_carFact x1 3 u) (fun r3 => (if r3 < 0 then some u else (if 3 ≤ r3 then some u else grd (inb r3 3) ((if (sD u (ix r3)) < 0 then some u else grd (inb r3 3) ((if (sD u (ix r3)) < 30 then grd (inb r3 3) (grd (inb ((r3 * 30) + (sD u (ix r3))) 90) (grd (inb r3 3) (grd (inb r3 3) (bnd (fX8_setCarFact x1 2 2 (wD (wO u (ix ((r3 * 30) + (sD u (ix r3)))) x1) (ix r3) ((sD (wO u (ix ((r3 * 30) + (sD u (ix r3)))) x1) (ix r3)) + 1))) (fun u68 => bnd (fX8_setCarFact x1 6 (sC u68 0) u68) (fun u81 => bnd (fX8_carFact x1 1 u81) (fun r95 => some (wC (wC (wC (wC (wC u81 7 ((sC u81 7) + r95)) 2 ((sC (wC u81 7 ((sC u81 7) + r95)) 2) + 1)) 13 ((sC (wC (wC u81 7 ((sC u81 7) + r95)) 2 ((sC (wC u81 7 ((sC u81 7) + r95)) 2) + 1)) 13) + 1)) 8 (-1)) 9 0)))))))) else some u)))))))
set_option maxHeartbeats 4000000 in
set_option maxRecDepth 100000 in
theorem tX8_putOnDeck_b0 {p : Program} {l : Launch} {e : Env} {s : State} {m : MethodId} {args : Array Value} {below : List Frame} {meth : Method} {c : Code} {D : va_G} {cy : Nat → ClassId} {A : Nat → Prop} {h : Nat} {a : Nat → Nat} (K : KS → Prop) (E : mE D cy RX8 cX8_putOnDeck 3 none wsX8_putOnDeck A p s m args meth c)
     (x1 : Int32) (u : KS) (H : Heap) (locs : List Loc) (ls : Array Slot) (hl : lv_has ls 3 [(0, .ref h), (1, .int x1)]) (hP : va_P D kCl (wS cy h a u) H) (hD : va_D A (wS cy h a u)) (hS : va_S A s.heap H locs) (h1 : Ok (fX8_putOnDeck_b0 x1 u) K) :
    kW p l e rmX8_putOnDeck s m args below meth c H locs (va_Qv K (fun q => kPost D A (wS cy h a q)) A) A 0 ls [] := by
  obtain ⟨hx, hb, hr, hml, hown, hts, hlocks, hK, hA⟩ := id E
  unfold fX8_putOnDeck_b0 at h1
  refine lv_aload_n hx hb dX8_putOnDeck_0 rfl (lv_at hl 0 rfl) ?_
  refine lv_iload_n hx hb dX8_putOnDeck_1 rfl (lv_at hl 1 rfl) ?_
  refine lv_iconst (v := 3) hx hb dX8_putOnDeck_2 rfl ?_
  refine kc_rV0 (b := h) (As := [.int x1, .int 3]) (rest := []) h1 ⟨hx, hb, hml, hown, hts⟩ (cX8_carFactM l D cy h a H.size u x1 3) (cwV 2 hts gX8_putOnDeck_X8_carFact rfl rfl rfl hdX8_carFact ⟨Nat.le_of_ble_eq_true rfl, Nat.le_of_ble_eq_true rfl⟩) hK hP hD hS hA (q0 := 0) rfl rfl rfl hl.1 rfl (Nat.le_of_ble_eq_true rfl) dX8_putOnDeck_3 ⟨Nat.zero_le _, Nat.zero_le _⟩ (fun r3 H locs h1 hP hS => ?_)
  refine lv_istore_n (lv' := [(2, .int r3), (0, .ref h), (1, .int x1)]) hx hb dX8_putOnDeck_6 rfl hl (by decide) rfl (fun ls hl => ?_)
  refine lv_iload_n hx hb dX8_putOnDeck_7 rfl (lv_at hl 0 rfl) ?_
  refine lv_if_lt (tgt := 36) hx hb dX8_putOnDeck_8 (by decide) (fun c8 => ?_) (fun c8 => ?_)
  · replace h1 := Ok.pos c8 h1
    exact kret_v hx hb hr hlocks hP hD hS h1 dX8_putOnDeck_36
  · replace h1 := Ok.neg c8 h1
    refine lv_iload_n hx hb dX8_putOnDeck_11 rfl (lv_at hl 0 rfl) ?_
    refine lv_iconst (v := 3) hx hb dX8_putOnDeck_12 rfl ?_
    refine lv_icmp_ge (tgt := 36) hx hb dX8_putOnDeck_13 (by decide) (fun c13 => ?_) (fun c13 => ?_)
    · replace h1 := Ok.pos c13 h1
      exact kret_v hx hb hr hlocks hP hD hS h1 dX8_putOnDeck_36
    · replace h1 := Ok.neg c13 h1
      refine lv_aload_n hx hb dX8_putOnDeck_16 rfl (lv_at hl 1 rfl) ?_
      refine k_get (v := .ref (a 6)) (C := RX8) (T := TX8) (N := 13) hx hb hts inX8_putOnDeck_X8 hown hK hP 0 (wS_a0 _ _ _ _) rfl 6 (by decide) lkX8_putOnDeck_38 (sFs_6 _ _) dX8_putOnDeck_17 ?_
      refine lv_iload_n hx hb dX8_putOnDeck_20 rfl (lv_at hl 0 rfl) ?_
      have g21 := h1.grd1
      replace h1 := h1.grd2
      refine k_iald (k := (ix r3)) hx hb hK hP 7 (wS_a7 _ _ _ _) g21 rfl dX8_putOnDeck_21 ?_
      refine lv_if_lt (tgt := 36) hx hb dX8_putOnDeck_22 (by decide) (fun c22 => ?_) (fun c22 => ?_)
      · replace h1 := Ok.pos c22 h1
        exact kret_v hx hb hr hlocks hP hD hS h1 dX8_putOnDeck_36
      · replace h1 := Ok.neg c22 h1
        refine lv_aload_n hx hb dX8_putOnDeck_25 rfl (lv_at hl 1 rfl) ?_
        refine k_get (v := .ref (a 6)) (C := RX8) (T := TX8) (N := 13) hx hb hts inX8_putOnDeck_X8 hown hK hP 0 (wS_a0 _ _ _ _) rfl 6 (by decide) lkX8_putOnDeck_38 (sFs_6 _ _) dX8_putOnDeck_26 ?_
        refine lv_iload_n hx hb dX8_putOnDeck_29 rfl (lv_at hl 0 rfl) ?_
        have g30 := h1.grd1
        replace h1 := h1.grd2
        refine k_iald (k := (ix r3)) hx hb hK hP 7 (wS_a7 _ _ _ _) g30 rfl dX8_putOnDeck_30 ?_
        refine lv_bipush (v := 30) hx hb dX8_putOnDeck_31 rfl ?_
        refine lv_icmp_lt (tgt := 37) hx hb dX8_putOnDeck_33 (by decide) (fun c33 => ?_) (fun c33 => ?_)
        · replace h1 := Ok.pos c33 h1
          refine lv_aload_n hx hb dX8_putOnDeck_37 rfl (lv_at hl 1 rfl) ?_
          refine k_get (v := .ref (a 5)) (C := RX8) (T := TX8) (N := 13) hx hb hts inX8_putOnDeck_X8 hown hK hP 0 (wS_a0 _ _ _ _) rfl 5 (by decide) lkX8_putOnDeck_35 (sFs_5 _ _) dX8_putOnDeck_38 ?_
          refine lv_iload_n hx hb dX8_putOnDeck_41 rfl (lv_at hl 0 rfl) ?_
          refine lv_bipush (v := 30) hx hb dX8_putOnDeck_42 rfl ?_
          refine lv_imul hx hb dX8_putOnDeck_44 ?_
          refine lv_aload_n hx hb dX8_putOnDeck_45 rfl (lv_at hl 1 rfl) ?_
          refine k_get (v := .ref (a 6)) (C := RX8) (T := TX8) (N := 13) hx hb hts inX8_putOnDeck_X8 hown hK hP 0 (wS_a0 _ _ _ _) rfl 6 (by decide) lkX8_putOnDeck_38 (sFs_6 _ _) dX8_putOnDeck_46 ?_
          refine lv_iload_n hx hb dX8_putOnDeck_49 rfl (lv_at hl 0 rfl) ?_
          have g50 := h1.grd1
          replace h1 := h1.grd2
          refine k_iald (k := (ix r3)) hx hb hK hP 7 (wS_a7 _ _ _ _) g50 rfl dX8_putOnDeck_50 ?_
          refine lv_iadd hx hb dX8_putOnDeck_51 ?_
          refine lv_iload_n hx hb dX8_putOnDeck_52 rfl (lv_at hl 2 rfl) ?_
          have g53 := h1.grd1
          replace h1 := h1.grd2
          refine k_iast (k := (ix ((r3 * 30) + (sD u (ix r3))))) (ws' := wS cy h a (wO u (ix ((r3 * 30) + (sD u (ix r3)))) x1)) hx hb hK hP hD hS 6 (wS_a6 _ _ _ _) g53 rfl (wS_wO _ _ _ _ _ _) dX8_putOnDeck_53 (fun H locs hP hD hS => ?_)
          refine lv_aload_n hx hb dX8_putOnDeck_54 rfl (lv_at hl 1 rfl) ?_
          refine k_get (v := .ref (a 6)) (C := RX8) (T := TX8) (N := 13) hx hb hts inX8_putOnDeck_X8 hown hK hP 0 (wS_a0 _ _ _ _) rfl 6 (by decide) lkX8_putOnDeck_38 (sFs_6 _ _) dX8_putOnDeck_55 ?_
          refine lv_iload_n hx hb dX8_putOnDeck_58 rfl (lv_at hl 0 rfl) ?_
          refine lv_dup2_11 hx hb dX8_putOnDeck_59 rfl rfl ?_
          have g60 := h1.grd1
          replace h1 := h1.grd2
          refine k_iald (k := (ix r3)) hx hb hK hP 7 (wS_a7 _ _ _ _) g60 rfl dX8_putOnDeck_60 ?_
          refine lv_iconst (v := 1) hx hb dX8_putOnDeck_61 rfl ?_
          refine lv_iadd hx hb dX8_putOnDeck_62 ?_
          have g63 := h1.grd1
          replace h1 := h1.grd2
          refine k_iast (k := (ix r3)) (ws' := wS cy h a (wD (wO u (ix ((r3 * 30) + (sD u (ix r3)))) x1) (ix r3) ((sD (wO u (ix ((r3 * 30) + (sD u (ix r3)))) x1) (ix r3)) + 1))) hx hb hK hP hD hS 7 (wS_a7 _ _ _ _) g63 rfl (wS_wD _ _ _ _ _ _) dX8_putOnDeck_63 (fun H locs hP hD hS => ?_)
          refine lv_aload_n hx hb dX8_putOnDeck_64 rfl (lv_at hl 1 rfl) ?_
          refine lv_iload_n hx hb dX8_putOnDeck_65 rfl (lv_at hl 2 rfl) ?_
          refine lv_iconst (v := 2) hx hb dX8_putOnDeck_66 rfl ?_
          refine lv_iconst (v := 2) hx hb dX8_putOnDeck_67 rfl ?_
          refine kc_vV0 (b := h) (As := [.int x1, .int 2, .int 2]) (rest := []) h1 ⟨hx, hb, hml, hown, hts⟩ (cX8_setCarFactM l D cy h a H.size (wD (wO u (ix ((r3 * 30) + (sD u (ix r3)))) x1) (ix r3) ((sD (wO u (ix ((r3 * 30) + (sD u (ix r3)))) x1) (ix r3)) + 1)) x1 2 2) (cwV 3 hts gX8_putOnDeck_X8_setCarFact rfl rfl rfl hdX8_setCarFact ⟨Nat.le_of_ble_eq_true rfl, Nat.le_of_ble_eq_true rfl⟩) hK hP hD hS hA (q0 := 0) rfl rfl rfl hl.1 rfl (Nat.le_of_ble_eq_true rfl) dX8_putOnDeck_68 ⟨Nat.zero_le _, Nat.zero_le _⟩ (fun u68 H locs h1 hP hD hS => ?_)
          refine lv_aload_n hx hb dX8_putOnDeck_71 rfl (lv_at hl 1 rfl) ?_
          refine lv_iload_n hx hb dX8_putOnDeck_72 rfl (lv_at hl 2 rfl) ?_
          refine lv_bipush (v := 6) hx hb dX8_putOnDeck_73 rfl ?_
          refine lv_aload_n hx hb dX8_putOnDeck_75 rfl (lv_at hl 1 rfl) ?_
          refine k_get (v := .ref (a 0)) (C := RX8) (T := TX8) (N := 13) hx hb hts inX8_putOnDeck_X8 hown hK hP 0 (wS_a0 _ _ _ _) rfl 0 (by decide) lkX8_putOnDeck_11 (sFs_0 _ _) dX8_putOnDeck_76 ?_
          refine lv_iconst (v := 0) hx hb dX8_putOnDeck_79 rfl ?_
          refine k_iald (k := 0) hx hb hK hP 1 (wS_a1 _ _ _ _) rfl rfl dX8_putOnDeck_80 ?_
          refine kc_vV0 (b := h) (As := [.int x1, .int 6, .int (sC u68 0)]) (rest := []) h1 ⟨hx, hb, hml, hown, hts⟩ (cX8_setCarFactM l D cy h a H.size u68 x1 6 (sC u68 0)) (cwV 3 hts gX8_putOnDeck_X8_setCarFact rfl rfl rfl hdX8_setCarFact ⟨Nat.le_of_ble_eq_true rfl, Nat.le_of_ble_eq_true rfl⟩) hK hP hD hS hA (q0 := 0) rfl rfl rfl hl.1 rfl (Nat.le_of_ble_eq_true rfl) dX8_putOnDeck_81 ⟨Nat.zero_le _, Nat.zero_le _⟩ (fun u81 H locs h1 hP hD hS => ?_)
          refine lv_aload_n hx hb dX8_putOnDeck_84 rfl (lv_at hl 1 rfl) ?_
          refine k_get (v := .ref (a 0)) (C := RX8) (T := TX8) (N := 13) hx hb hts inX8_putOnDeck_X8 hown hK hP 0 (wS_a0 _ _ _ _) rfl 0 (by decide) lkX8_putOnDeck_11 (sFs_0 _ _) dX8_putOnDeck_85 ?_
          refine lv_bipush (v := 7) hx hb dX8_putOnDeck_88 rfl ?_
          refine lv_dup2_11 hx hb dX8_putOnDeck_90 rfl rfl ?_
          refine k_iald (k := 7) hx hb hK hP 1 (wS_a1 _ _ _ _) rfl rfl dX8_putOnDeck_91 ?_
          refine lv_aload_n hx hb dX8_putOnDeck_92 rfl (lv_at hl 1 rfl) ?_
          refine lv_iload_n hx hb dX8_putOnDeck_93 rfl (lv_at hl 2 rfl) ?_
          refine lv_iconst (v := 1) hx hb dX8_putOnDeck_94 rfl ?_
          refine kc_rV0 (b := h) (As := [.int x1, .int 1]) (rest := [.int (sC u81 7), .int 7, .ref (a 0)]) h1 ⟨hx, hb, hml, hown, hts⟩ (cX8_carFactM l D cy h a H.size u81 x1 1) (cwV 2 hts gX8_putOnDeck_X8_carFact rfl rfl rfl hdX8_carFact ⟨Nat.le_of_ble_eq_true rfl, Nat.le_of_ble_eq_true rfl⟩) hK hP hD hS hA (q0 := 0) rfl rfl rfl hl.1 rfl (Nat.le_of_ble_eq_true rfl) dX8_putOnDeck_95 ⟨Nat.zero_le _, Nat.zero_le _⟩ (fun r95 H locs h1 hP hS => ?_)
          refine lv_iadd hx hb dX8_putOnDeck_98 ?_
          refine k_iast (k := 7) (ws' := wS cy h a (wC u81 7 ((sC u81 7) + r95))) hx hb hK hP hD hS 1 (wS_a1 _ _ _ _) rfl rfl (wS_wC _ _ _ _ _ _) dX8_putOnDeck_99 (fun H locs hP hD hS => ?_)
          refine lv_aload_n hx hb dX8_putOnDeck_100 rfl (lv_at hl 1 rfl) ?_
          refine k_get (v := .ref (a 0)) (C := RX8) (T := TX8) (N := 13) hx hb hts inX8_putOnDeck_X8 hown hK hP 0 (wS_a0 _ _ _ _) rfl 0 (by decide) lkX8_putOnDeck_11 (sFs_0 _ _) dX8_putOnDeck_101 ?_
          refine lv_iconst (v := 2) hx hb dX8_putOnDeck_104 rfl ?_
          refine lv_dup2_11 hx hb dX8_putOnDeck_105 rfl rfl ?_
          refine k_iald (k := 2) hx hb hK hP 1 (wS_a1 _ _ _ _) rfl rfl dX8_putOnDeck_106 ?_
          refine lv_iconst (v := 1) hx hb dX8_putOnDeck_107 rfl ?_
          refine lv_iadd hx hb dX8_putOnDeck_108 ?_
          refine k_iast (k := 2) (ws' := wS cy h a (wC (wC u81 7 ((sC u81 7) + r95)) 2 ((sC (wC u81 7 ((sC u81 7) + r95)) 2) + 1))) hx hb hK hP hD hS 1 (wS_a1 _ _ _ _) rfl rfl (wS_wC _ _ _ _ _ _) dX8_putOnDeck_109 (fun H locs hP hD hS => ?_)
          refine lv_aload_n hx hb dX8_putOnDeck_110 rfl (lv_at hl 1 rfl) ?_
          refine k_get (v := .ref (a 0)) (C := RX8) (T := TX8) (N := 13) hx hb hts inX8_putOnDeck_X8 hown hK hP 0 (wS_a0 _ _ _ _) rfl 0 (by decide) lkX8_putOnDeck_11 (sFs_0 _ _) dX8_putOnDeck_111 ?_
          refine lv_bipush (v := 13) hx hb dX8_putOnDeck_114 rfl ?_
          refine lv_dup2_11 hx hb dX8_putOnDeck_116 rfl rfl ?_
          refine k_iald (k := 13) hx hb hK hP 1 (wS_a1 _ _ _ _) rfl rfl dX8_putOnDeck_117 ?_
          refine lv_iconst (v := 1) hx hb dX8_putOnDeck_118 rfl ?_
          refine lv_iadd hx hb dX8_putOnDeck_119 ?_
          refine k_iast (k := 13) (ws' := wS cy h a (wC (wC (wC u81 7 ((sC u81 7) + r95)) 2 ((sC (wC u81 7 ((sC u81 7) + r95)) 2) + 1)) 13 ((sC (wC (wC u81 7 ((sC u81 7) + r95)) 2 ((sC (wC u81 7 ((sC u81 7) + r95)) 2) + 1)) 13) + 1))) hx hb hK hP hD hS 1 (wS_a1 _ _ _ _) rfl rfl (wS_wC _ _ _ _ _ _) dX8_putOnDeck_120 (fun H locs hP hD hS => ?_)
          refine lv_aload_n hx hb dX8_putOnDeck_121 rfl (lv_at hl 1 rfl) ?_
          refine k_get (v := .ref (a 0)) (C := RX8) (T := TX8) (N := 13) hx hb hts inX8_putOnDeck_X8 hown hK hP 0 (wS_a0 _ _ _ _) rfl 0 (by decide) lkX8_putOnDeck_11 (sFs_0 _ _) dX8_putOnDeck_122 ?_
          refine lv_bipush (v := 8) hx hb dX8_putOnDeck_125 rfl ?_
          refine lv_iconst (v := (-1)) hx hb dX8_putOnDeck_127 rfl ?_
          refine k_iast (k := 8) (ws' := wS cy h a (wC (wC (wC (wC u81 7 ((sC u81 7) + r95)) 2 ((sC (wC u81 7 ((sC u81 7) + r95)) 2) + 1)) 13 ((sC (wC (wC u81 7 ((sC u81 7) + r95)) 2 ((sC (wC u81 7 ((sC u81 7) + r95)) 2) + 1)) 13) + 1)) 8 (-1))) hx hb hK hP hD hS 1 (wS_a1 _ _ _ _) rfl rfl (wS_wC _ _ _ _ _ _) dX8_putOnDeck_128 (fun H locs hP hD hS => ?_)
          refine lv_aload_n hx hb dX8_putOnDeck_129 rfl (lv_at hl 1 rfl) ?_
          refine k_get (v := .ref (a 0)) (C := RX8) (T := TX8) (N := 13) hx hb hts inX8_putOnDeck_X8 hown hK hP 0 (wS_a0 _ _ _ _) rfl 0 (by decide) lkX8_putOnDeck_11 (sFs_0 _ _) dX8_putOnDeck_130 ?_
          refine lv_bipush (v := 9) hx hb dX8_putOnDeck_133 rfl ?_
          refine lv_iconst (v := 0) hx hb dX8_putOnDeck_135 rfl ?_
          refine k_iast (k := 9) (ws' := wS cy h a (wC (wC (wC (wC (wC u81 7 ((sC u81 7) + r95)) 2 ((sC (wC u81 7 ((sC u81 7) + r95)) 2) + 1)) 13 ((sC (wC (wC u81 7 ((sC u81 7) + r95)) 2 ((sC (wC u81 7 ((sC u81 7) + r95)) 2) + 1)) 13) + 1)) 8 (-1)) 9 0)) hx hb hK hP hD hS 1 (wS_a1 _ _ _ _) rfl rfl (wS_wC _ _ _ _ _ _) dX8_putOnDeck_136 (fun H locs hP hD hS => ?_)
          exact kret_v hx hb hr hlocks hP hD hS h1 dX8_putOnDeck_137
        · replace h1 := Ok.neg c33 h1
          exact kret_v hx hb hr hlocks hP hD hS h1 dX8_putOnDeck_36
def fX8_putOnDeck (p1 : Int32) (u : KS) : Option (KS) := fX8_putOnDeck_b0 p1 u
set_option maxHeartbeats 4000000 in
set_option maxRecDepth 100000 in
theorem cX8_putOnDeckM (l : Launch) (D : va_G) (cy : Nat → ClassId) (h : Nat) (a : Nat → Nat) (sz : Nat) (u : KS) (p1 : Int32) : ∀ (K : KS → Prop), Ok (fX8_putOnDeck p1 u) K → Met l yX8_putOnDeck wsX8_putOnDeck rmX8_putOnDeck (va_Pc [.ref h, .int p1] (kPre D cy sz (wS cy h a u))) (va_Qv K (fun q => kPost D (va_A (wS cy h a u) sz) (wS cy h a q)) (va_A (wS cy h a u) sz)) 0 0 (va_A (wS cy h a u) sz) := by
  intro K h1
  refine Met.ofW (cc := cX8_putOnDeck) (maxL := 3) (ret := none) (by decide) rfl ?_
  intro p e s m args below meth c s₁ B hml hv
  obtain ⟨rfl, hsz, hP, hK, hD0⟩ := hv
  subst hsz
  have E : mE D cy RX8 cX8_putOnDeck 3 none wsX8_putOnDeck (va_A (wS cy h a u) s.heap.size) p s m _ meth c := ⟨B.exec, B.bytes, B.returns, hml, findClass_of_methodNamed B.named, atoms_spec (ws := wsX8_putOnDeck) B.pre, B.notSynchronized, hK, fun q h => Or.inr h⟩
  have hl := lv_entry ([.ref h, .int p1]) (n := 3) (Nat.le_of_ble_eq_true rfl)
  rw [lg_entry_eq]
  generalize (lg_sl ([.ref h, .int p1]) ++ List.replicate (3 - (lg_sl ([.ref h, .int p1])).length) Slot.unset).toArray = ls at hl ⊢
  exact tX8_putOnDeck_b0 K E p1 u _ _ _ hl hP hD0.self va_S.rf h1
-- X8_runCarOnRamp
theorem inX8_runCarOnRamp_X8 : ∀ w ∈ u_ws RX8 TX8 13, w ∈ wsX8_runCarOnRamp := k_lays 50 rfl
theorem lkX8_runCarOnRamp_11 : Cond.fieldLink RX8 11 "FerryRamp$State" "counts" "[I" ∈ wsX8_runCarOnRamp := List.mem_of_getElem? (i := 1) rfl
theorem lkX8_runCarOnRamp_56 : Cond.fieldLink RX8 56 "FerryRamp$State" "slope" "I" ∈ wsX8_runCarOnRamp := List.mem_of_getElem? (i := 2) rfl
theorem hdX8_carKindFact : yX8_carKindFact.cls = RX8 ∧ yX8_carKindFact.cls ≠ "java/lang/invoke/MethodHandle" ∧ yX8_carKindFact.cls ≠ "java/lang/invoke/VarHandle" ∧ (parseMethodDescriptor yX8_carKindFact.desc).map (fun d => d.parameters.length) = some 2 := by decide +kernel
theorem lkX8_runCarOnRamp_59 : Cond.fieldLink RX8 59 "FerryRamp$State" "lip" "I" ∈ wsX8_runCarOnRamp := List.mem_of_getElem? (i := 3) rfl
theorem lkX8_runCarOnRamp_19 : Cond.fieldLink RX8 19 "FerryRamp$State" "settings" "[I" ∈ wsX8_runCarOnRamp := List.mem_of_getElem? (i := 4) rfl
theorem hdX8_putOnDeck : yX8_putOnDeck.cls = RX8 ∧ yX8_putOnDeck.cls ≠ "java/lang/invoke/MethodHandle" ∧ yX8_putOnDeck.cls ≠ "java/lang/invoke/VarHandle" ∧ (parseMethodDescriptor yX8_putOnDeck.desc).map (fun d => d.parameters.length) = some 1 := by decide +kernel
abbrev rmX8_runCarOnRamp : Room := { frames := 3, cells := 0, slots := 0, locals := 68 }
def fX8_runCarOnRamp_b40 (u : KS) : Option (KS) :=
  some (wC u 10 ((sC u 10) + 1))
set_option maxHeartbeats 4000000 in
set_option maxRecDepth 100000 in
theorem tX8_runCarOnRamp_b40 {p : Program} {l : Launch} {e : Env} {s : State} {m : MethodId} {args : Array Value} {below : List Frame} {meth : Method} {c : Code} {D : va_G} {cy : Nat → ClassId} {A : Nat → Prop} {h : Nat} {a : Nat → Nat} (K : KS → Prop) (E : mE D cy RX8 cX8_runCarOnRamp 2 none wsX8_runCarOnRamp A p s m args meth c)
     (u : KS) (H : Heap) (locs : List Loc) (ls : Array Slot) (hl : lv_has ls 2 [(0, .ref h)]) (hP : va_P D kCl (wS cy h a u) H) (hD : va_D A (wS cy h a u)) (hS : va_S A s.heap H locs) (h1 : Ok (fX8_runCarOnRamp_b40 u) K) :
    kW p l e rmX8_runCarOnRamp s m args below meth c H locs (va_Qv K (fun q => kPost D A (wS cy h a q)) A) A 40 ls [] := by
  obtain ⟨hx, hb, hr, hml, hown, hts, hlocks, hK, hA⟩ := id E
  unfold fX8_runCarOnRamp_b40 at h1
  refine lv_aload_n hx hb dX8_runCarOnRamp_40 rfl (lv_at hl 0 rfl) ?_
  refine k_get (v := .ref (a 0)) (C := RX8) (T := TX8) (N := 13) hx hb hts inX8_runCarOnRamp_X8 hown hK hP 0 (wS_a0 _ _ _ _) rfl 0 (by decide) lkX8_runCarOnRamp_11 (sFs_0 _ _) dX8_runCarOnRamp_41 ?_
  refine lv_bipush (v := 10) hx hb dX8_runCarOnRamp_44 rfl ?_
  refine lv_dup2_11 hx hb dX8_runCarOnRamp_46 rfl rfl ?_
  refine k_iald (k := 10) hx hb hK hP 1 (wS_a1 _ _ _ _) rfl rfl dX8_runCarOnRamp_47 ?_
  refine lv_iconst (v := 1) hx hb dX8_runCarOnRamp_48 rfl ?_
  refine lv_iadd hx hb dX8_runCarOnRamp_49 ?_
  refine k_iast (k := 10) (ws' := wS cy h a (wC u 10 ((sC u 10) + 1))) hx hb hK hP hD hS 1 (wS_a1 _ _ _ _) rfl rfl (wS_wC _ _ _ _ _ _) dX8_runCarOnRamp_50 (fun H locs hP hD hS => ?_)
  exact kret_v hx hb hr hlocks hP hD hS h1 dX8_runCarOnRamp_51
def fX8_runCarOnRamp_b88 (x1 : Int32) (u : KS) : Option (KS) :=
  (if (sC u 9) < (sT u 12) then some u else bnd (fX8_putOnDeck x1 u) (fun u107 => bnd (fX8_measureAll u107) (fun u111 => some u111)))
set_option maxHeartbeats 4000000 in
set_option maxRecDepth 100000 in
theorem tX8_runCarOnRamp_b88 {p : Program} {l : Launch} {e : Env} {s : State} {m : MethodId} {args : Array Value} {below : List Frame} {meth : Method} {c : Code} {D : va_G} {cy : Nat → ClassId} {A : Nat → Prop} {h : Nat} {a : Nat → Nat} (K : KS → Prop) (E : mE D cy RX8 cX8_runCarOnRamp 2 none wsX8_runCarOnRamp A p s m args meth c)
     (x1 : Int32) (u : KS) (H : Heap) (locs : List Loc) (ls : Array Slot) (hl : lv_has ls 2 [(0, .ref h), (1, .int x1)]) (hP : va_P D kCl (wS cy h a u) H) (hD : va_D A (wS cy h a u)) (hS : va_S A s.heap H locs) (h1 : Ok (fX8_runCarOnRamp_b88 x1 u) K) :
    kW p l e rmX8_runCarOnRamp s m args below meth c H locs (va_Qv K (fun q => kPost D A (wS cy h a q)) A) A 88 ls [] := by
  obtain ⟨hx, hb, hr, hml, hown, hts, hlocks, hK, hA⟩ := id E
  unfold fX8_runCarOnRamp_b88 at h1
  refine lv_aload_n hx hb dX8_runCarOnRamp_88 rfl (lv_at hl 0 rfl) ?_
  refine k_get (v := .ref (a 0)) (C := RX8) (T := TX8) (N := 13) hx hb hts inX8_runCarOnRamp_X8 hown hK hP 0 (wS_a0 _ _ _ _) rfl 0 (by decide) lkX8_runCarOnRamp_11 (sFs_0 _ _) dX8_runCarOnRamp_89 ?_
  refine lv_bipush (v := 9) hx hb dX8_runCarOnRamp_92 rfl ?_
  refine k_iald (k := 9) hx hb hK hP 1 (wS_a1 _ _ _ _) rfl rfl dX8_runCarOnRamp_94 ?_
  refine lv_aload_n hx hb dX8_runCarOnRamp_95 rfl (lv_at hl 0 rfl) ?_
  refine k_get (v := .ref (a 1)) (C := RX8) (T := TX8) (N := 13) hx hb hts inX8_runCarOnRamp_X8 hown hK hP 0 (wS_a0 _ _ _ _) rfl 1 (by decide) lkX8_runCarOnRamp_19 (sFs_1 _ _) dX8_runCarOnRamp_96 ?_
  refine lv_bipush (v := 12) hx hb dX8_runCarOnRamp_99 rfl ?_
  refine k_iald (k := 12) hx hb hK hP 2 (wS_a2 _ _ _ _) rfl rfl dX8_runCarOnRamp_101 ?_
  refine lv_icmp_lt (tgt := 114) hx hb dX8_runCarOnRamp_102 (by decide) (fun c102 => ?_) (fun c102 => ?_)
  · replace h1 := Ok.pos c102 h1
    exact kret_v hx hb hr hlocks hP hD hS h1 dX8_runCarOnRamp_114
  · replace h1 := Ok.neg c102 h1
    refine lv_aload_n hx hb dX8_runCarOnRamp_105 rfl (lv_at hl 0 rfl) ?_
    refine lv_iload_n hx hb dX8_runCarOnRamp_106 rfl (lv_at hl 1 rfl) ?_
    refine kc_vV0 (b := h) (As := [.int x1]) (rest := []) h1 ⟨hx, hb, hml, hown, hts⟩ (cX8_putOnDeckM l D cy h a H.size u x1) (cwV 1 hts gX8_runCarOnRamp_X8_putOnDeck rfl rfl rfl hdX8_putOnDeck ⟨Nat.le_of_ble_eq_true rfl, Nat.le_of_ble_eq_true rfl⟩) hK hP hD hS hA (q0 := 0) rfl rfl rfl hl.1 rfl (Nat.le_of_ble_eq_true rfl) dX8_runCarOnRamp_107 ⟨Nat.zero_le _, Nat.zero_le _⟩ (fun u107 H locs h1 hP hD hS => ?_)
    refine lv_aload_n hx hb dX8_runCarOnRamp_110 rfl (lv_at hl 0 rfl) ?_
    refine kc_vV0 (b := h) (As := []) (rest := []) h1 ⟨hx, hb, hml, hown, hts⟩ (cX8_measureAllM l D cy h a H.size u107) (cwV 0 hts gX8_runCarOnRamp_X8_measureAll rfl rfl rfl hdX8_measureAll ⟨Nat.le_of_ble_eq_true rfl, Nat.le_of_ble_eq_true rfl⟩) hK hP hD hS hA (q0 := 0) rfl rfl rfl hl.1 rfl (Nat.le_of_ble_eq_true rfl) dX8_runCarOnRamp_111 ⟨Nat.zero_le _, Nat.zero_le _⟩ (fun u111 H locs h1 hP hD hS => ?_)
    exact kret_v hx hb hr hlocks hP hD hS h1 dX8_runCarOnRamp_114
def fX8_runCarOnRamp_b0 (u : KS) : Option (KS) :=
  (if (sC u 8) = (-1) then some u else bnd (fX8_carKindFact (sC u 8) 0 u) (fun r21 => (if r21 < (sp u) then fX8_runCarOnRamp_b40 u else bnd (fX8_carKindFact (sC u 8) 1 u) (fun r34 => (if (si u) ≤ r34 then (if (sp (wC u 9 ((sC u 9) + 1))) ≤ (sC (wC u 9 ((sC u 9) + 1)) 15) then fX8_runCarOnRamp_b88 (sC u 8) (wC u 9 ((sC u 9) + 1)) else fX8_runCarOnRamp_b88 (sC u 8) (wC (wC u 9 ((sC u 9) + 1)) 15 (sp (wC u 9 ((sC u 9) + 1))))) else fX8_runCarOnRamp_b40 u)))))
set_option maxHeartbeats 4000000 in
set_option maxRecDepth 100000 in
theorem tX8_runCarOnRamp_b0 {p : Program} {l : Launch} {e : Env} {s : State} {m : MethodId} {args : Array Value} {below : List Frame} {meth : Method} {c : Code} {D : va_G} {cy : Nat → ClassId} {A : Nat → Prop} {h : Nat} {a : Nat → Nat} (K : KS → Prop) (E : mE D cy RX8 cX8_runCarOnRamp 2 none wsX8_runCarOnRamp A p s m args meth c)
     (u : KS) (H : Heap) (locs : List Loc) (ls : Array Slot) (hl : lv_has ls 2 [(0, .ref h)]) (hP : va_P D kCl (wS cy h a u) H) (hD : va_D A (wS cy h a u)) (hS : va_S A s.heap H locs) (h1 : Ok (fX8_runCarOnRamp_b0 u) K) :
    kW p l e rmX8_runCarOnRamp s m args below meth c H locs (va_Qv K (fun q => kPost D A (wS cy h a q)) A) A 0 ls [] := by
  obtain ⟨hx, hb, hr, hml, hown, hts, hlocks, hK, hA⟩ := id E
  unfold fX8_runCarOnRamp_b0 at h1
  refine lv_aload_n hx hb dX8_runCarOnRamp_0 rfl (lv_at hl 0 rfl) ?_
  refine k_get (v := .ref (a 0)) (C := RX8) (T := TX8) (N := 13) hx hb hts inX8_runCarOnRamp_X8 hown hK hP 0 (wS_a0 _ _ _ _) rfl 0 (by decide) lkX8_runCarOnRamp_11 (sFs_0 _ _) dX8_runCarOnRamp_1 ?_
  refine lv_bipush (v := 8) hx hb dX8_runCarOnRamp_4 rfl ?_
  refine k_iald (k := 8) hx hb hK hP 1 (wS_a1 _ _ _ _) rfl rfl dX8_runCarOnRamp_6 ?_
  refine lv_istore_n (lv' := [(1, .int (sC u 8)), (0, .ref h)]) hx hb dX8_runCarOnRamp_7 rfl hl (by decide) rfl (fun ls hl => ?_)
  refine lv_iload_n hx hb dX8_runCarOnRamp_8 rfl (lv_at hl 0 rfl) ?_
  refine lv_iconst (v := (-1)) hx hb dX8_runCarOnRamp_9 rfl ?_
  refine lv_icmp_ne (tgt := 14) hx hb dX8_runCarOnRamp_10 (by decide) (fun c10 => ?_) (fun c10 => ?_)
  · replace h1 := Ok.neg c10 h1
    refine lv_aload_n hx hb dX8_runCarOnRamp_14 rfl (lv_at hl 1 rfl) ?_
    refine k_get (v := .int (sp u)) (C := RX8) (T := TX8) (N := 13) hx hb hts inX8_runCarOnRamp_X8 hown hK hP 0 (wS_a0 _ _ _ _) rfl 11 (by decide) lkX8_runCarOnRamp_56 (sFs_11 _ _) dX8_runCarOnRamp_15 ?_
    refine lv_aload_n hx hb dX8_runCarOnRamp_18 rfl (lv_at hl 1 rfl) ?_
    refine lv_iload_n hx hb dX8_runCarOnRamp_19 rfl (lv_at hl 0 rfl) ?_
    refine lv_iconst (v := 0) hx hb dX8_runCarOnRamp_20 rfl ?_
    refine kc_rV0 (b := h) (As := [.int (sC u 8), .int 0]) (rest := [.int (sp u)]) h1 ⟨hx, hb, hml, hown, hts⟩ (cX8_carKindFactM l D cy h a H.size u (sC u 8) 0) (cwV 2 hts gX8_runCarOnRamp_X8_carKindFact rfl rfl rfl hdX8_carKindFact ⟨Nat.le_of_ble_eq_true rfl, Nat.le_of_ble_eq_true rfl⟩) hK hP hD hS hA (q0 := 0) rfl rfl rfl hl.1 rfl (Nat.le_of_ble_eq_true rfl) dX8_runCarOnRamp_21 ⟨Nat.zero_le _, Nat.zero_le _⟩ (fun r21 H locs h1 hP hS => ?_)
    refine lv_icmp_gt (tgt := 40) hx hb dX8_runCarOnRamp_24 (by decide) (fun c24 => ?_) (fun c24 => ?_)
    · replace h1 := Ok.pos c24 h1
      exact tX8_runCarOnRamp_b40 K E u H locs ls (lv_sub hl [1] rfl) hP hD hS h1
    · replace h1 := Ok.neg c24 h1
      refine lv_aload_n hx hb dX8_runCarOnRamp_27 rfl (lv_at hl 1 rfl) ?_
      refine k_get (v := .int (si u)) (C := RX8) (T := TX8) (N := 13) hx hb hts inX8_runCarOnRamp_X8 hown hK hP 0 (wS_a0 _ _ _ _) rfl 12 (by decide) lkX8_runCarOnRamp_59 (sFs_12 _ _) dX8_runCarOnRamp_28 ?_
      refine lv_aload_n hx hb dX8_runCarOnRamp_31 rfl (lv_at hl 1 rfl) ?_
      refine lv_iload_n hx hb dX8_runCarOnRamp_32 rfl (lv_at hl 0 rfl) ?_
      refine lv_iconst (v := 1) hx hb dX8_runCarOnRamp_33 rfl ?_
      refine kc_rV0 (b := h) (As := [.int (sC u 8), .int 1]) (rest := [.int (si u)]) h1 ⟨hx, hb, hml, hown, hts⟩ (cX8_carKindFactM l D cy h a H.size u (sC u 8) 1) (cwV 2 hts gX8_runCarOnRamp_X8_carKindFact rfl rfl rfl hdX8_carKindFact ⟨Nat.le_of_ble_eq_true rfl, Nat.le_of_ble_eq_true rfl⟩) hK hP hD hS hA (q0 := 0) rfl rfl rfl hl.1 rfl (Nat.le_of_ble_eq_true rfl) dX8_runCarOnRamp_34 ⟨Nat.zero_le _, Nat.zero_le _⟩ (fun r34 H locs h1 hP hS => ?_)
      refine lv_icmp_le (tgt := 52) hx hb dX8_runCarOnRamp_37 (by decide) (fun c37 => ?_) (fun c37 => ?_)
      · replace h1 := Ok.pos c37 h1
        refine lv_aload_n hx hb dX8_runCarOnRamp_52 rfl (lv_at hl 1 rfl) ?_
        refine k_get (v := .ref (a 0)) (C := RX8) (T := TX8) (N := 13) hx hb hts inX8_runCarOnRamp_X8 hown hK hP 0 (wS_a0 _ _ _ _) rfl 0 (by decide) lkX8_runCarOnRamp_11 (sFs_0 _ _) dX8_runCarOnRamp_53 ?_
        refine lv_bipush (v := 9) hx hb dX8_runCarOnRamp_56 rfl ?_
        refine lv_dup2_11 hx hb dX8_runCarOnRamp_58 rfl rfl ?_
        refine k_iald (k := 9) hx hb hK hP 1 (wS_a1 _ _ _ _) rfl rfl dX8_runCarOnRamp_59 ?_
        refine lv_iconst (v := 1) hx hb dX8_runCarOnRamp_60 rfl ?_
        refine lv_iadd hx hb dX8_runCarOnRamp_61 ?_
        refine k_iast (k := 9) (ws' := wS cy h a (wC u 9 ((sC u 9) + 1))) hx hb hK hP hD hS 1 (wS_a1 _ _ _ _) rfl rfl (wS_wC _ _ _ _ _ _) dX8_runCarOnRamp_62 (fun H locs hP hD hS => ?_)
        refine lv_aload_n hx hb dX8_runCarOnRamp_63 rfl (lv_at hl 1 rfl) ?_
        refine k_get (v := .int (sp (wC u 9 ((sC u 9) + 1)))) (C := RX8) (T := TX8) (N := 13) hx hb hts inX8_runCarOnRamp_X8 hown hK hP 0 (wS_a0 _ _ _ _) rfl 11 (by decide) lkX8_runCarOnRamp_56 (sFs_11 _ _) dX8_runCarOnRamp_64 ?_
        refine lv_aload_n hx hb dX8_runCarOnRamp_67 rfl (lv_at hl 1 rfl) ?_
        refine k_get (v := .ref (a 0)) (C := RX8) (T := TX8) (N := 13) hx hb hts inX8_runCarOnRamp_X8 hown hK hP 0 (wS_a0 _ _ _ _) rfl 0 (by decide) lkX8_runCarOnRamp_11 (sFs_0 _ _) dX8_runCarOnRamp_68 ?_
        refine lv_bipush (v := 15) hx hb dX8_runCarOnRamp_71 rfl ?_
        refine k_iald (k := 15) hx hb hK hP 1 (wS_a1 _ _ _ _) rfl rfl dX8_runCarOnRamp_73 ?_
        refine lv_icmp_le (tgt := 88) hx hb dX8_runCarOnRamp_74 (by decide) (fun c74 => ?_) (fun c74 => ?_)
        · replace h1 := Ok.pos c74 h1
          exact tX8_runCarOnRamp_b88 K E (sC u 8) (wC u 9 ((sC u 9) + 1)) H locs ls (lv_sub hl [1, 0] rfl) hP hD hS h1
        · replace h1 := Ok.neg c74 h1
          refine lv_aload_n hx hb dX8_runCarOnRamp_77 rfl (lv_at hl 1 rfl) ?_
          refine k_get (v := .ref (a 0)) (C := RX8) (T := TX8) (N := 13) hx hb hts inX8_runCarOnRamp_X8 hown hK hP 0 (wS_a0 _ _ _ _) rfl 0 (by decide) lkX8_runCarOnRamp_11 (sFs_0 _ _) dX8_runCarOnRamp_78 ?_
          refine lv_bipush (v := 15) hx hb dX8_runCarOnRamp_81 rfl ?_
          refine lv_aload_n hx hb dX8_runCarOnRamp_83 rfl (lv_at hl 1 rfl) ?_
          refine k_get (v := .int (sp (wC u 9 ((sC u 9) + 1)))) (C := RX8) (T := TX8) (N := 13) hx hb hts inX8_runCarOnRamp_X8 hown hK hP 0 (wS_a0 _ _ _ _) rfl 11 (by decide) lkX8_runCarOnRamp_56 (sFs_11 _ _) dX8_runCarOnRamp_84 ?_
          refine k_iast (k := 15) (ws' := wS cy h a (wC (wC u 9 ((sC u 9) + 1)) 15 (sp (wC u 9 ((sC u 9) + 1))))) hx hb hK hP hD hS 1 (wS_a1 _ _ _ _) rfl rfl (wS_wC _ _ _ _ _ _) dX8_runCarOnRamp_87 (fun H locs hP hD hS => ?_)
          exact tX8_runCarOnRamp_b88 K E (sC u 8) (wC (wC u 9 ((sC u 9) + 1)) 15 (sp (wC u 9 ((sC u 9) + 1)))) H locs ls (lv_sub hl [1, 0] rfl) hP hD hS h1
      · replace h1 := Ok.neg c37 h1
        exact tX8_runCarOnRamp_b40 K E u H locs ls (lv_sub hl [1] rfl) hP hD hS h1
  · replace h1 := Ok.pos c10 h1
    exact kret_v hx hb hr hlocks hP hD hS h1 dX8_runCarOnRamp_13
def fX8_runCarOnRamp (u : KS) : Option (KS) := fX8_runCarOnRamp_b0 u
set_option maxHeartbeats 4000000 in
set_option maxRecDepth 100000 in
theorem cX8_runCarOnRampM (l : Launch) (D : va_G) (cy : Nat → ClassId) (h : Nat) (a : Nat → Nat) (sz : Nat) (u : KS) : ∀ (K : KS → Prop), Ok (fX8_runCarOnRamp u) K → Met l yX8_runCarOnRamp wsX8_runCarOnRamp rmX8_runCarOnRamp (va_Pc [.ref h] (kPre D cy sz (wS cy h a u))) (va_Qv K (fun q => kPost D (va_A (wS cy h a u) sz) (wS cy h a q)) (va_A (wS cy h a u) sz)) 0 0 (va_A (wS cy h a u) sz) := by
  intro K h1
  refine Met.ofW (cc := cX8_runCarOnRamp) (maxL := 2) (ret := none) (by decide) rfl ?_
  intro p e s m args below meth c s₁ B hml hv
  obtain ⟨rfl, hsz, hP, hK, hD0⟩ := hv
  subst hsz
  have E : mE D cy RX8 cX8_runCarOnRamp 2 none wsX8_runCarOnRamp (va_A (wS cy h a u) s.heap.size) p s m _ meth c := ⟨B.exec, B.bytes, B.returns, hml, findClass_of_methodNamed B.named, atoms_spec (ws := wsX8_runCarOnRamp) B.pre, B.notSynchronized, hK, fun q h => Or.inr h⟩
  have hl := lv_entry ([.ref h]) (n := 2) (Nat.le_of_ble_eq_true rfl)
  rw [lg_entry_eq]
  generalize (lg_sl ([.ref h]) ++ List.replicate (2 - (lg_sl ([.ref h])).length) Slot.unset).toArray = ls at hl ⊢
  exact tX8_runCarOnRamp_b0 K E u _ _ _ hl hP hD0.self va_S.rf h1
-- X8_begin
theorem inX8_begin_X8 : ∀ w ∈ u_ws RX8 TX8 13, w ∈ wsX8_begin := k_lays 32 rfl
theorem lkX8_begin_32 : Cond.fieldLink RX8 32 "FerryRamp$State" "queue" "[I" ∈ wsX8_begin := List.mem_of_getElem? (i := 1) rfl
theorem hdX8_takeFromQueue : yX8_takeFromQueue.cls = RX8 ∧ yX8_takeFromQueue.cls ≠ "java/lang/invoke/MethodHandle" ∧ yX8_takeFromQueue.cls ≠ "java/lang/invoke/VarHandle" ∧ (parseMethodDescriptor yX8_takeFromQueue.desc).map (fun d => d.parameters.length) = some 1 := by decide +kernel
theorem lkX8_begin_11 : Cond.fieldLink RX8 11 "FerryRamp$State" "counts" "[I" ∈ wsX8_begin := List.mem_of_getElem? (i := 2) rfl
theorem lkX8_begin_41 : Cond.fieldLink RX8 41 "FerryRamp$State" "weights" "[I" ∈ wsX8_begin := List.mem_of_getElem? (i := 3) rfl
theorem lkX8_begin_44 : Cond.fieldLink RX8 44 "FerryRamp$State" "taken" "[I" ∈ wsX8_begin := List.mem_of_getElem? (i := 4) rfl
abbrev rmX8_begin : Room := { frames := 1, cells := 0, slots := 0, locals := 28 }
def fX8_begin_b0 (x1 : Int32) (u : KS) : Option (KS) :=
  bnd (fX9_at x1 20 (sQ u)) (fun r5 => bnd (fX8_carFact r5 1 u) (fun r12 => bnd (fX8_carFact r5 0 u) (fun r20 => bnd (fX8_kindFact r20 2 u) (fun r24 => bnd (fX8_suitingLane r24 r12 u) (fun r33 => (if r33 < 0 then some u else (if r33 < 3 then bnd (fX8_takeFromQueue x1 u) (fun u52 => bnd (fX8_setCarFact r5 2 1 u52) (fun u59 => bnd (fX8_setCarFact r5 3 r33 u59) (fun u67 => bnd (fX8_setCarFact r5 5 (sC u67 0) u67) (fun u79 => grd (inb r33 3) (grd (inb r33 3) (grd (inb r33 3) (grd (inb r33 3) (some (wC (wC (wN (wW u79 (ix r33) ((sW u79 (ix r33)) + r12)) (ix r33) ((sN (wW u79 (ix r33) ((sW u79 (ix r33)) + r12)) (ix r33)) + r24)) 8 r5) 11 0))))))))) else some u)))))))
set_option maxHeartbeats 4000000 in
set_option maxRecDepth 100000 in
theorem tX8_begin_b0 {p : Program} {l : Launch} {e : Env} {s : State} {m : MethodId} {args : Array Value} {below : List Frame} {meth : Method} {c : Code} {D : va_G} {cy : Nat → ClassId} {A : Nat → Prop} {h : Nat} {a : Nat → Nat} (K : KS → Prop) (E : mE D cy RX8 cX8_begin 6 none wsX8_begin A p s m args meth c)
     (x1 : Int32) (u : KS) (H : Heap) (locs : List Loc) (ls : Array Slot) (hl : lv_has ls 6 [(0, .ref h), (1, .int x1)]) (hP : va_P D kCl (wS cy h a u) H) (hD : va_D A (wS cy h a u)) (hS : va_S A s.heap H locs) (h1 : Ok (fX8_begin_b0 x1 u) K) :
    kW p l e rmX8_begin s m args below meth c H locs (va_Qv K (fun q => kPost D A (wS cy h a q)) A) A 0 ls [] := by
  obtain ⟨hx, hb, hr, hml, hown, hts, hlocks, hK, hA⟩ := id E
  unfold fX8_begin_b0 at h1
  refine lv_aload_n hx hb dX8_begin_0 rfl (lv_at hl 0 rfl) ?_
  refine k_get (v := .ref (a 4)) (C := RX8) (T := TX8) (N := 13) hx hb hts inX8_begin_X8 hown hK hP 0 (wS_a0 _ _ _ _) rfl 4 (by decide) lkX8_begin_32 (sFs_4 _ _) dX8_begin_1 ?_
  refine lv_iload_n hx hb dX8_begin_4 rfl (lv_at hl 1 rfl) ?_
  refine kc_rSN (As := [.ref (a 4), .int x1]) (rest := []) h1 ⟨hx, hb, hml, hown, hts⟩ (cX9_atM l D cy (a 4) H.size 20 (sQ u) x1) ⟨va_cnB 2 hts gX8_begin_X9_at_n98 rfl rfl rfl hK.2.2.1 (hts _ (List.mem_of_getElem? (i := 6) rfl)) heX9_at ⟨Nat.le_of_ble_eq_true rfl, Nat.le_of_ble_eq_true rfl⟩, hts _ (List.mem_of_getElem? (i := 5) rfl), trivial⟩ hK (k_pick (k := 5) (wS_a5 _ _ _ _)) hP hD hS hA rfl hl.1 rfl (Nat.le_of_ble_eq_true rfl) dX8_begin_5 ⟨Nat.zero_le _, Nat.zero_le _⟩ (fun r5 H locs h1 hP hS => ?_)
  refine lv_istore_n (lv' := [(2, .int r5), (0, .ref h), (1, .int x1)]) hx hb dX8_begin_8 rfl hl (by decide) rfl (fun ls hl => ?_)
  refine lv_aload_n hx hb dX8_begin_9 rfl (lv_at hl 1 rfl) ?_
  refine lv_iload_n hx hb dX8_begin_10 rfl (lv_at hl 0 rfl) ?_
  refine lv_iconst (v := 1) hx hb dX8_begin_11 rfl ?_
  refine kc_rV0 (b := h) (As := [.int r5, .int 1]) (rest := []) h1 ⟨hx, hb, hml, hown, hts⟩ (cX8_carFactM l D cy h a H.size u r5 1) (cwV 2 hts gX8_begin_X8_carFact rfl rfl rfl hdX8_carFact ⟨Nat.le_of_ble_eq_true rfl, Nat.le_of_ble_eq_true rfl⟩) hK hP hD hS hA (q0 := 0) rfl rfl rfl hl.1 rfl (Nat.le_of_ble_eq_true rfl) dX8_begin_12 ⟨Nat.zero_le _, Nat.zero_le _⟩ (fun r12 H locs h1 hP hS => ?_)
  refine lv_istore_n (lv' := [(3, .int r12), (2, .int r5), (0, .ref h), (1, .int x1)]) hx hb dX8_begin_15 rfl hl (by decide) rfl (fun ls hl => ?_)
  refine lv_aload_n hx hb dX8_begin_16 rfl (lv_at hl 2 rfl) ?_
  refine lv_aload_n hx hb dX8_begin_17 rfl (lv_at hl 2 rfl) ?_
  refine lv_iload_n hx hb dX8_begin_18 rfl (lv_at hl 1 rfl) ?_
  refine lv_iconst (v := 0) hx hb dX8_begin_19 rfl ?_
  refine kc_rV0 (b := h) (As := [.int r5, .int 0]) (rest := [.ref h]) h1 ⟨hx, hb, hml, hown, hts⟩ (cX8_carFactM l D cy h a H.size u r5 0) (cwV 2 hts gX8_begin_X8_carFact rfl rfl rfl hdX8_carFact ⟨Nat.le_of_ble_eq_true rfl, Nat.le_of_ble_eq_true rfl⟩) hK hP hD hS hA (q0 := 0) rfl rfl rfl hl.1 rfl (Nat.le_of_ble_eq_true rfl) dX8_begin_20 ⟨Nat.zero_le _, Nat.zero_le _⟩ (fun r20 H locs h1 hP hS => ?_)
  refine lv_iconst (v := 2) hx hb dX8_begin_23 rfl ?_
  refine kc_rV0 (b := h) (As := [.int r20, .int 2]) (rest := []) h1 ⟨hx, hb, hml, hown, hts⟩ (cX8_kindFactM l D cy h a H.size u r20 2) (cwV 2 hts gX8_begin_X8_kindFact rfl rfl rfl hdX8_kindFact ⟨Nat.le_of_ble_eq_true rfl, Nat.le_of_ble_eq_true rfl⟩) hK hP hD hS hA (q0 := 0) rfl rfl rfl hl.1 rfl (Nat.le_of_ble_eq_true rfl) dX8_begin_24 ⟨Nat.zero_le _, Nat.zero_le _⟩ (fun r24 H locs h1 hP hS => ?_)
  refine lv_istore (lv' := [(4, .int r24), (3, .int r12), (2, .int r5), (0, .ref h), (1, .int x1)]) hx hb dX8_begin_27 hl (by decide) rfl (fun ls hl => ?_)
  refine lv_aload_n hx hb dX8_begin_29 rfl (lv_at hl 3 rfl) ?_
  refine lv_iload hx hb dX8_begin_30 (lv_at hl 0 rfl) ?_
  refine lv_iload_n hx hb dX8_begin_32 rfl (lv_at hl 1 rfl) ?_
  refine kc_rV0 (b := h) (As := [.int r24, .int r12]) (rest := []) h1 ⟨hx, hb, hml, hown, hts⟩ (cX8_suitingLaneM l D cy h a H.size u r24 r12) (cwV 2 hts gX8_begin_X8_suitingLane rfl rfl rfl hdX8_suitingLane ⟨Nat.le_of_ble_eq_true rfl, Nat.le_of_ble_eq_true rfl⟩) hK hP hD hS hA (q0 := 0) rfl rfl rfl hl.1 rfl (Nat.le_of_ble_eq_true rfl) dX8_begin_33 ⟨Nat.zero_le _, Nat.zero_le _⟩ (fun r33 H locs h1 hP hS => ?_)
  refine lv_istore (lv' := [(5, .int r33), (4, .int r24), (3, .int r12), (2, .int r5), (0, .ref h), (1, .int x1)]) hx hb dX8_begin_36 hl (by decide) rfl (fun ls hl => ?_)
  refine lv_iload hx hb dX8_begin_38 (lv_at hl 0 rfl) ?_
  refine lv_if_lt (tgt := 49) hx hb dX8_begin_40 (by decide) (fun c40 => ?_) (fun c40 => ?_)
  · replace h1 := Ok.pos c40 h1
    exact kret_v hx hb hr hlocks hP hD hS h1 dX8_begin_49
  · replace h1 := Ok.neg c40 h1
    refine lv_iload hx hb dX8_begin_43 (lv_at hl 0 rfl) ?_
    refine lv_iconst (v := 3) hx hb dX8_begin_45 rfl ?_
    refine lv_icmp_lt (tgt := 50) hx hb dX8_begin_46 (by decide) (fun c46 => ?_) (fun c46 => ?_)
    · replace h1 := Ok.pos c46 h1
      refine lv_aload_n hx hb dX8_begin_50 rfl (lv_at hl 4 rfl) ?_
      refine lv_iload_n hx hb dX8_begin_51 rfl (lv_at hl 5 rfl) ?_
      refine kc_vV0 (b := h) (As := [.int x1]) (rest := []) h1 ⟨hx, hb, hml, hown, hts⟩ (cX8_takeFromQueueM l D cy h a H.size u x1) (cwV 1 hts gX8_begin_X8_takeFromQueue rfl rfl rfl hdX8_takeFromQueue ⟨Nat.le_of_ble_eq_true rfl, Nat.le_of_ble_eq_true rfl⟩) hK hP hD hS hA (q0 := 0) rfl rfl rfl hl.1 rfl (Nat.le_of_ble_eq_true rfl) dX8_begin_52 ⟨Nat.zero_le _, Nat.zero_le _⟩ (fun u52 H locs h1 hP hD hS => ?_)
      refine lv_aload_n hx hb dX8_begin_55 rfl (lv_at hl 4 rfl) ?_
      refine lv_iload_n hx hb dX8_begin_56 rfl (lv_at hl 3 rfl) ?_
      refine lv_iconst (v := 2) hx hb dX8_begin_57 rfl ?_
      refine lv_iconst (v := 1) hx hb dX8_begin_58 rfl ?_
      refine kc_vV0 (b := h) (As := [.int r5, .int 2, .int 1]) (rest := []) h1 ⟨hx, hb, hml, hown, hts⟩ (cX8_setCarFactM l D cy h a H.size u52 r5 2 1) (cwV 3 hts gX8_begin_X8_setCarFact rfl rfl rfl hdX8_setCarFact ⟨Nat.le_of_ble_eq_true rfl, Nat.le_of_ble_eq_true rfl⟩) hK hP hD hS hA (q0 := 0) rfl rfl rfl hl.1 rfl (Nat.le_of_ble_eq_true rfl) dX8_begin_59 ⟨Nat.zero_le _, Nat.zero_le _⟩ (fun u59 H locs h1 hP hD hS => ?_)
      refine lv_aload_n hx hb dX8_begin_62 rfl (lv_at hl 4 rfl) ?_
      refine lv_iload_n hx hb dX8_begin_63 rfl (lv_at hl 3 rfl) ?_
      refine lv_iconst (v := 3) hx hb dX8_begin_64 rfl ?_
      refine lv_iload hx hb dX8_begin_65 (lv_at hl 0 rfl) ?_
      refine kc_vV0 (b := h) (As := [.int r5, .int 3, .int r33]) (rest := []) h1 ⟨hx, hb, hml, hown, hts⟩ (cX8_setCarFactM l D cy h a H.size u59 r5 3 r33) (cwV 3 hts gX8_begin_X8_setCarFact rfl rfl rfl hdX8_setCarFact ⟨Nat.le_of_ble_eq_true rfl, Nat.le_of_ble_eq_true rfl⟩) hK hP hD hS hA (q0 := 0) rfl rfl rfl hl.1 rfl (Nat.le_of_ble_eq_true rfl) dX8_begin_67 ⟨Nat.zero_le _, Nat.zero_le _⟩ (fun u67 H locs h1 hP hD hS => ?_)
      refine lv_aload_n hx hb dX8_begin_70 rfl (lv_at hl 4 rfl) ?_
      refine lv_iload_n hx hb dX8_begin_71 rfl (lv_at hl 3 rfl) ?_
      refine lv_iconst (v := 5) hx hb dX8_begin_72 rfl ?_
      refine lv_aload_n hx hb dX8_begin_73 rfl (lv_at hl 4 rfl) ?_
      refine k_get (v := .ref (a 0)) (C := RX8) (T := TX8) (N := 13) hx hb hts inX8_begin_X8 hown hK hP 0 (wS_a0 _ _ _ _) rfl 0 (by decide) lkX8_begin_11 (sFs_0 _ _) dX8_begin_74 ?_
      refine lv_iconst (v := 0) hx hb dX8_begin_77 rfl ?_
      refine k_iald (k := 0) hx hb hK hP 1 (wS_a1 _ _ _ _) rfl rfl dX8_begin_78 ?_
      refine kc_vV0 (b := h) (As := [.int r5, .int 5, .int (sC u67 0)]) (rest := []) h1 ⟨hx, hb, hml, hown, hts⟩ (cX8_setCarFactM l D cy h a H.size u67 r5 5 (sC u67 0)) (cwV 3 hts gX8_begin_X8_setCarFact rfl rfl rfl hdX8_setCarFact ⟨Nat.le_of_ble_eq_true rfl, Nat.le_of_ble_eq_true rfl⟩) hK hP hD hS hA (q0 := 0) rfl rfl rfl hl.1 rfl (Nat.le_of_ble_eq_true rfl) dX8_begin_79 ⟨Nat.zero_le _, Nat.zero_le _⟩ (fun u79 H locs h1 hP hD hS => ?_)
      refine lv_aload_n hx hb dX8_begin_82 rfl (lv_at hl 4 rfl) ?_
      refine k_get (v := .ref (a 7)) (C := RX8) (T := TX8) (N := 13) hx hb hts inX8_begin_X8 hown hK hP 0 (wS_a0 _ _ _ _) rfl 7 (by decide) lkX8_begin_41 (sFs_7 _ _) dX8_begin_83 ?_
      refine lv_iload hx hb dX8_begin_86 (lv_at hl 0 rfl) ?_
      refine lv_dup2_11 hx hb dX8_begin_88 rfl rfl ?_
      have g89 := h1.grd1
      replace h1 := h1.grd2
      refine k_iald (k := (ix r33)) hx hb hK hP 8 (wS_a8 _ _ _ _) g89 rfl dX8_begin_89 ?_
      refine lv_iload_n hx hb dX8_begin_90 rfl (lv_at hl 2 rfl) ?_
      refine lv_iadd hx hb dX8_begin_91 ?_
      have g92 := h1.grd1
      replace h1 := h1.grd2
      refine k_iast (k := (ix r33)) (ws' := wS cy h a (wW u79 (ix r33) ((sW u79 (ix r33)) + r12))) hx hb hK hP hD hS 8 (wS_a8 _ _ _ _) g92 rfl (wS_wW _ _ _ _ _ _) dX8_begin_92 (fun H locs hP hD hS => ?_)
      refine lv_aload_n hx hb dX8_begin_93 rfl (lv_at hl 4 rfl) ?_
      refine k_get (v := .ref (a 8)) (C := RX8) (T := TX8) (N := 13) hx hb hts inX8_begin_X8 hown hK hP 0 (wS_a0 _ _ _ _) rfl 8 (by decide) lkX8_begin_44 (sFs_8 _ _) dX8_begin_94 ?_
      refine lv_iload hx hb dX8_begin_97 (lv_at hl 0 rfl) ?_
      refine lv_dup2_11 hx hb dX8_begin_99 rfl rfl ?_
      have g100 := h1.grd1
      replace h1 := h1.grd2
      refine k_iald (k := (ix r33)) hx hb hK hP 9 (wS_a9 _ _ _ _) g100 rfl dX8_begin_100 ?_
      refine lv_iload hx hb dX8_begin_101 (lv_at hl 1 rfl) ?_
      refine lv_iadd hx hb dX8_begin_103 ?_
      have g104 := h1.grd1
      replace h1 := h1.grd2
      refine k_iast (k := (ix r33)) (ws' := wS cy h a (wN (wW u79 (ix r33) ((sW u79 (ix r33)) + r12)) (ix r33) ((sN (wW u79 (ix r33) ((sW u79 (ix r33)) + r12)) (ix r33)) + r24))) hx hb hK hP hD hS 9 (wS_a9 _ _ _ _) g104 rfl (wS_wN _ _ _ _ _ _) dX8_begin_104 (fun H locs hP hD hS => ?_)
      refine lv_aload_n hx hb dX8_begin_105 rfl (lv_at hl 4 rfl) ?_
      refine k_get (v := .ref (a 0)) (C := RX8) (T := TX8) (N := 13) hx hb hts inX8_begin_X8 hown hK hP 0 (wS_a0 _ _ _ _) rfl 0 (by decide) lkX8_begin_11 (sFs_0 _ _) dX8_begin_106 ?_
      refine lv_bipush (v := 8) hx hb dX8_begin_109 rfl ?_
      refine lv_iload_n hx hb dX8_begin_111 rfl (lv_at hl 3 rfl) ?_
      refine k_iast (k := 8) (ws' := wS cy h a (wC (wN (wW u79 (ix r33) ((sW u79 (ix r33)) + r12)) (ix r33) ((sN (wW u79 (ix r33) ((sW u79 (ix r33)) + r12)) (ix r33)) + r24)) 8 r5)) hx hb hK hP hD hS 1 (wS_a1 _ _ _ _) rfl rfl (wS_wC _ _ _ _ _ _) dX8_begin_112 (fun H locs hP hD hS => ?_)
      refine lv_aload_n hx hb dX8_begin_113 rfl (lv_at hl 4 rfl) ?_
      refine k_get (v := .ref (a 0)) (C := RX8) (T := TX8) (N := 13) hx hb hts inX8_begin_X8 hown hK hP 0 (wS_a0 _ _ _ _) rfl 0 (by decide) lkX8_begin_11 (sFs_0 _ _) dX8_begin_114 ?_
      refine lv_bipush (v := 11) hx hb dX8_begin_117 rfl ?_
      refine lv_iconst (v := 0) hx hb dX8_begin_119 rfl ?_
      refine k_iast (k := 11) (ws' := wS cy h a (wC (wC (wN (wW u79 (ix r33) ((sW u79 (ix r33)) + r12)) (ix r33) ((sN (wW u79 (ix r33) ((sW u79 (ix r33)) + r12)) (ix r33)) + r24)) 8 r5) 11 0)) hx hb hK hP hD hS 1 (wS_a1 _ _ _ _) rfl rfl (wS_wC _ _ _ _ _ _) dX8_begin_120 (fun H locs hP hD hS => ?_)
      exact kret_v hx hb hr hlocks hP hD hS h1 dX8_begin_121
    · replace h1 := Ok.neg c46 h1
      exact kret_v hx hb hr hlocks hP hD hS h1 dX8_begin_49
def fX8_begin (p1 : Int32) (u : KS) : Option (KS) := fX8_begin_b0 p1 u
set_option maxHeartbeats 4000000 in
set_option maxRecDepth 100000 in
theorem cX8_beginM (l : Launch) (D : va_G) (cy : Nat → ClassId) (h : Nat) (a : Nat → Nat) (sz : Nat) (u : KS) (p1 : Int32) : ∀ (K : KS → Prop), Ok (fX8_begin p1 u) K → Met l yX8_begin wsX8_begin rmX8_begin (va_Pc [.ref h, .int p1] (kPre D cy sz (wS cy h a u))) (va_Qv K (fun q => kPost D (va_A (wS cy h a u) sz) (wS cy h a q)) (va_A (wS cy h a u) sz)) 0 0 (va_A (wS cy h a u) sz) := by
  intro K h1
  refine Met.ofW (cc := cX8_begin) (maxL := 6) (ret := none) (by decide) rfl ?_
  intro p e s m args below meth c s₁ B hml hv
  obtain ⟨rfl, hsz, hP, hK, hD0⟩ := hv
  subst hsz
  have E : mE D cy RX8 cX8_begin 6 none wsX8_begin (va_A (wS cy h a u) s.heap.size) p s m _ meth c := ⟨B.exec, B.bytes, B.returns, hml, findClass_of_methodNamed B.named, atoms_spec (ws := wsX8_begin) B.pre, B.notSynchronized, hK, fun q h => Or.inr h⟩
  have hl := lv_entry ([.ref h, .int p1]) (n := 6) (Nat.le_of_ble_eq_true rfl)
  rw [lg_entry_eq]
  generalize (lg_sl ([.ref h, .int p1]) ++ List.replicate (6 - (lg_sl ([.ref h, .int p1])).length) Slot.unset).toArray = ls at hl ⊢
  exact tX8_begin_b0 K E p1 u _ _ _ hl hP hD0.self va_S.rf h1
-- X8_keepCall
theorem inX8_keepCall_X8 : ∀ w ∈ u_ws RX8 TX8 13, w ∈ wsX8_keepCall := k_lays 3 rfl
theorem lkX8_keepCall_11 : Cond.fieldLink RX8 11 "FerryRamp$State" "counts" "[I" ∈ wsX8_keepCall := List.mem_of_getElem? (i := 1) rfl
theorem lkX8_keepCall_49 : Cond.fieldLink RX8 49 "FerryRamp$State" "calls" "[I" ∈ wsX8_keepCall := List.mem_of_getElem? (i := 2) rfl
abbrev rmX8_keepCall : Room := { frames := 0, cells := 0, slots := 0, locals := 0 }
def fX8_keepCall_b0 (x1 : Int32) (x2 : Int32) (x3 : Int32) (u : KS) : Option (KS) :=
  (if (((sC u 12) - (sC u 12) / 20 * 20) * 4) < 0 then some u else (if ((((sC u 12) - (sC u 12) / 20 * 20) * 4) + 4) ≤ 80 then grd (inb ((((sC u 12) - (sC u 12) / 20 * 20) * 4) + 0) 80) (grd (inb ((((sC u 12) - (sC u 12) / 20 * 20) * 4) + 1) 80) (grd (inb ((((sC u 12) - (sC u 12) / 20 * 20) * 4) + 2) 80) (grd (inb ((((sC u 12) - (sC u 12) / 20 * 20) * 4) + 3) 80) (some (wC (wL (wL (wL (wL u (ix ((((sC u 12) - (sC u 12) / 20 * 20) * 4) + 0)) (sC u 0)) (ix ((((sC u 12) - (sC u 12) / 20 * 20) * 4) + 1)) x1) (ix ((((sC u 12) - (sC u 12) / 20 * 20) * 4) + 2)) x2) (ix ((((sC u 12) - (sC u 12) / 20 * 20) * 4) + 3)) x3) 12 ((sC (wL (wL (wL (wL u (ix ((((sC u 12) - (sC u 12) / 20 * 20) * 4) + 0)) (sC u 0)) (ix ((((sC u 12) - (sC u 12) / 20 * 20) * 4) + 1)) x1) (ix ((((sC u 12) - (sC u 12) / 20 * 20) * 4) + 2)) x2) (ix ((((sC u 12) - (sC u 12) / 20 * 20) * 4) + 3)) x3) 12) + 1)))))) else some u))
set_option maxHeartbeats 4000000 in
set_option maxRecDepth 100000 in
theorem tX8_keepCall_b0 {p : Program} {l : Launch} {e : Env} {s : State} {m : MethodId} {args : Array Value} {below : List Frame} {meth : Method} {c : Code} {D : va_G} {cy : Nat → ClassId} {A : Nat → Prop} {h : Nat} {a : Nat → Nat} (K : KS → Prop) (E : mE D cy RX8 cX8_keepCall 5 none wsX8_keepCall A p s m args meth c)
     (x1 : Int32) (x2 : Int32) (x3 : Int32) (u : KS) (H : Heap) (locs : List Loc) (ls : Array Slot) (hl : lv_has ls 5 [(0, .ref h), (1, .int x1), (2, .int x2), (3, .int x3)]) (hP : va_P D kCl (wS cy h a u) H) (hD : va_D A (wS cy h a u)) (hS : va_S A s.heap H locs) (h1 : Ok (fX8_keepCall_b0 x1 x2 x3 u) K) :
    kW p l e rmX8_keepCall s m args below meth c H locs (va_Qv K (fun q => kPost D A (wS cy h a q)) A) A 0 ls [] := by
  obtain ⟨hx, hb, hr, hml, hown, hts, hlocks, hK, hA⟩ := id E
  unfold fX8_keepCall_b0 at h1
  refine lv_aload_n hx hb dX8_keepCall_0 rfl (lv_at hl 0 rfl) ?_
  refine k_get (v := .ref (a 0)) (C := RX8) (T := TX8) (N := 13) hx hb hts inX8_keepCall_X8 hown hK hP 0 (wS_a0 _ _ _ _) rfl 0 (by decide) lkX8_keepCall_11 (sFs_0 _ _) dX8_keepCall_1 ?_
  refine lv_bipush (v := 12) hx hb dX8_keepCall_4 rfl ?_
  refine k_iald (k := 12) hx hb hK hP 1 (wS_a1 _ _ _ _) rfl rfl dX8_keepCall_6 ?_
  refine lv_bipush (v := 20) hx hb dX8_keepCall_7 rfl ?_
  refine lv_irem hx hb dX8_keepCall_9 (by decide) ?_
  refine lv_iconst (v := 4) hx hb dX8_keepCall_10 rfl ?_
  refine lv_imul hx hb dX8_keepCall_11 ?_
  refine lv_istore (lv' := [(4, .int (((sC u 12) - (sC u 12) / 20 * 20) * 4)), (0, .ref h), (1, .int x1), (2, .int x2), (3, .int x3)]) hx hb dX8_keepCall_12 hl (by decide) rfl (fun ls hl => ?_)
  refine lv_iload hx hb dX8_keepCall_14 (lv_at hl 0 rfl) ?_
  refine lv_if_lt (tgt := 31) hx hb dX8_keepCall_16 (by decide) (fun c16 => ?_) (fun c16 => ?_)
  · replace h1 := Ok.pos c16 h1
    exact kret_v hx hb hr hlocks hP hD hS h1 dX8_keepCall_31
  · replace h1 := Ok.neg c16 h1
    refine lv_iload hx hb dX8_keepCall_19 (lv_at hl 0 rfl) ?_
    refine lv_iconst (v := 4) hx hb dX8_keepCall_21 rfl ?_
    refine lv_iadd hx hb dX8_keepCall_22 ?_
    refine lv_aload_n hx hb dX8_keepCall_23 rfl (lv_at hl 1 rfl) ?_
    refine k_get (v := .ref (a 9)) (C := RX8) (T := TX8) (N := 13) hx hb hts inX8_keepCall_X8 hown hK hP 0 (wS_a0 _ _ _ _) rfl 9 (by decide) lkX8_keepCall_49 (sFs_9 _ _) dX8_keepCall_24 ?_
    refine va_alen (v := 80) hx hb hK.1 hP 10 0 (wS_a10 _ _ _ _) rfl rfl dX8_keepCall_27 ?_
    refine lv_icmp_le (tgt := 32) hx hb dX8_keepCall_28 (by decide) (fun c28 => ?_) (fun c28 => ?_)
    · replace h1 := Ok.pos c28 h1
      refine lv_aload_n hx hb dX8_keepCall_32 rfl (lv_at hl 1 rfl) ?_
      refine k_get (v := .ref (a 9)) (C := RX8) (T := TX8) (N := 13) hx hb hts inX8_keepCall_X8 hown hK hP 0 (wS_a0 _ _ _ _) rfl 9 (by decide) lkX8_keepCall_49 (sFs_9 _ _) dX8_keepCall_33 ?_
      refine lv_iload hx hb dX8_keepCall_36 (lv_at hl 0 rfl) ?_
      refine lv_iconst (v := 0) hx hb dX8_keepCall_38 rfl ?_
      refine lv_iadd hx hb dX8_keepCall_39 ?_
      refine lv_aload_n hx hb dX8_keepCall_40 rfl (lv_at hl 1 rfl) ?_
      refine k_get (v := .ref (a 0)) (C := RX8) (T := TX8) (N := 13) hx hb hts inX8_keepCall_X8 hown hK hP 0 (wS_a0 _ _ _ _) rfl 0 (by decide) lkX8_keepCall_11 (sFs_0 _ _) dX8_keepCall_41 ?_
      refine lv_iconst (v := 0) hx hb dX8_keepCall_44 rfl ?_
      refine k_iald (k := 0) hx hb hK hP 1 (wS_a1 _ _ _ _) rfl rfl dX8_keepCall_45 ?_
      have g46 := h1.grd1
      replace h1 := h1.grd2
      refine k_iast (k := (ix ((((sC u 12) - (sC u 12) / 20 * 20) * 4) + 0))) (ws' := wS cy h a (wL u (ix ((((sC u 12) - (sC u 12) / 20 * 20) * 4) + 0)) (sC u 0))) hx hb hK hP hD hS 10 (wS_a10 _ _ _ _) g46 rfl (wS_wL _ _ _ _ _ _) dX8_keepCall_46 (fun H locs hP hD hS => ?_)
      refine lv_aload_n hx hb dX8_keepCall_47 rfl (lv_at hl 1 rfl) ?_
      refine k_get (v := .ref (a 9)) (C := RX8) (T := TX8) (N := 13) hx hb hts inX8_keepCall_X8 hown hK hP 0 (wS_a0 _ _ _ _) rfl 9 (by decide) lkX8_keepCall_49 (sFs_9 _ _) dX8_keepCall_48 ?_
      refine lv_iload hx hb dX8_keepCall_51 (lv_at hl 0 rfl) ?_
      refine lv_iconst (v := 1) hx hb dX8_keepCall_53 rfl ?_
      refine lv_iadd hx hb dX8_keepCall_54 ?_
      refine lv_iload_n hx hb dX8_keepCall_55 rfl (lv_at hl 2 rfl) ?_
      have g56 := h1.grd1
      replace h1 := h1.grd2
      refine k_iast (k := (ix ((((sC u 12) - (sC u 12) / 20 * 20) * 4) + 1))) (ws' := wS cy h a (wL (wL u (ix ((((sC u 12) - (sC u 12) / 20 * 20) * 4) + 0)) (sC u 0)) (ix ((((sC u 12) - (sC u 12) / 20 * 20) * 4) + 1)) x1)) hx hb hK hP hD hS 10 (wS_a10 _ _ _ _) g56 rfl (wS_wL _ _ _ _ _ _) dX8_keepCall_56 (fun H locs hP hD hS => ?_)
      refine lv_aload_n hx hb dX8_keepCall_57 rfl (lv_at hl 1 rfl) ?_
      refine k_get (v := .ref (a 9)) (C := RX8) (T := TX8) (N := 13) hx hb hts inX8_keepCall_X8 hown hK hP 0 (wS_a0 _ _ _ _) rfl 9 (by decide) lkX8_keepCall_49 (sFs_9 _ _) dX8_keepCall_58 ?_
      refine lv_iload hx hb dX8_keepCall_61 (lv_at hl 0 rfl) ?_
      refine lv_iconst (v := 2) hx hb dX8_keepCall_63 rfl ?_
      refine lv_iadd hx hb dX8_keepCall_64 ?_
      refine lv_iload_n hx hb dX8_keepCall_65 rfl (lv_at hl 3 rfl) ?_
      have g66 := h1.grd1
      replace h1 := h1.grd2
      refine k_iast (k := (ix ((((sC u 12) - (sC u 12) / 20 * 20) * 4) + 2))) (ws' := wS cy h a (wL (wL (wL u (ix ((((sC u 12) - (sC u 12) / 20 * 20) * 4) + 0)) (sC u 0)) (ix ((((sC u 12) - (sC u 12) / 20 * 20) * 4) + 1)) x1) (ix ((((sC u 12) - (sC u 12) / 20 * 20) * 4) + 2)) x2)) hx hb hK hP hD hS 10 (wS_a10 _ _ _ _) g66 rfl (wS_wL _ _ _ _ _ _) dX8_keepCall_66 (fun H locs hP hD hS => ?_)
      refine lv_aload_n hx hb dX8_keepCall_67 rfl (lv_at hl 1 rfl) ?_
      refine k_get (v := .ref (a 9)) (C := RX8) (T := TX8) (N := 13) hx hb hts inX8_keepCall_X8 hown hK hP 0 (wS_a0 _ _ _ _) rfl 9 (by decide) lkX8_keepCall_49 (sFs_9 _ _) dX8_keepCall_68 ?_
      refine lv_iload hx hb dX8_keepCall_71 (lv_at hl 0 rfl) ?_
      refine lv_iconst (v := 3) hx hb dX8_keepCall_73 rfl ?_
      refine lv_iadd hx hb dX8_keepCall_74 ?_
      refine lv_iload_n hx hb dX8_keepCall_75 rfl (lv_at hl 4 rfl) ?_
      have g76 := h1.grd1
      replace h1 := h1.grd2
      refine k_iast (k := (ix ((((sC u 12) - (sC u 12) / 20 * 20) * 4) + 3))) (ws' := wS cy h a (wL (wL (wL (wL u (ix ((((sC u 12) - (sC u 12) / 20 * 20) * 4) + 0)) (sC u 0)) (ix ((((sC u 12) - (sC u 12) / 20 * 20) * 4) + 1)) x1) (ix ((((sC u 12) - (sC u 12) / 20 * 20) * 4) + 2)) x2) (ix ((((sC u 12) - (sC u 12) / 20 * 20) * 4) + 3)) x3)) hx hb hK hP hD hS 10 (wS_a10 _ _ _ _) g76 rfl (wS_wL _ _ _ _ _ _) dX8_keepCall_76 (fun H locs hP hD hS => ?_)
      refine lv_aload_n hx hb dX8_keepCall_77 rfl (lv_at hl 1 rfl) ?_
      refine k_get (v := .ref (a 0)) (C := RX8) (T := TX8) (N := 13) hx hb hts inX8_keepCall_X8 hown hK hP 0 (wS_a0 _ _ _ _) rfl 0 (by decide) lkX8_keepCall_11 (sFs_0 _ _) dX8_keepCall_78 ?_
      refine lv_bipush (v := 12) hx hb dX8_keepCall_81 rfl ?_
      refine lv_dup2_11 hx hb dX8_keepCall_83 rfl rfl ?_
      refine k_iald (k := 12) hx hb hK hP 1 (wS_a1 _ _ _ _) rfl rfl dX8_keepCall_84 ?_
      refine lv_iconst (v := 1) hx hb dX8_keepCall_85 rfl ?_
      refine lv_iadd hx hb dX8_keepCall_86 ?_
      refine k_iast (k := 12) (ws' := wS cy h a (wC (wL (wL (wL (wL u (ix ((((sC u 12) - (sC u 12) / 20 * 20) * 4) + 0)) (sC u 0)) (ix ((((sC u 12) - (sC u 12) / 20 * 20) * 4) + 1)) x1) (ix ((((sC u 12) - (sC u 12) / 20 * 20) * 4) + 2)) x2) (ix ((((sC u 12) - (sC u 12) / 20 * 20) * 4) + 3)) x3) 12 ((sC (wL (wL (wL (wL u (ix ((((sC u 12) - (sC u 12) / 20 * 20) * 4) + 0)) (sC u 0)) (ix ((((sC u 12) - (sC u 12) / 20 * 20) * 4) + 1)) x1) (ix ((((sC u 12) - (sC u 12) / 20 * 20) * 4) + 2)) x2) (ix ((((sC u 12) - (sC u 12) / 20 * 20) * 4) + 3)) x3) 12) + 1))) hx hb hK hP hD hS 1 (wS_a1 _ _ _ _) rfl rfl (wS_wC _ _ _ _ _ _) dX8_keepCall_87 (fun H locs hP hD hS => ?_)
      exact kret_v hx hb hr hlocks hP hD hS h1 dX8_keepCall_88
    · replace h1 := Ok.neg c28 h1
      exact kret_v hx hb hr hlocks hP hD hS h1 dX8_keepCall_31
def fX8_keepCall (p1 : Int32) (p2 : Int32) (p3 : Int32) (u : KS) : Option (KS) := fX8_keepCall_b0 p1 p2 p3 u
set_option maxHeartbeats 4000000 in
set_option maxRecDepth 100000 in
theorem cX8_keepCallM (l : Launch) (D : va_G) (cy : Nat → ClassId) (h : Nat) (a : Nat → Nat) (sz : Nat) (u : KS) (p1 : Int32) (p2 : Int32) (p3 : Int32) : ∀ (K : KS → Prop), Ok (fX8_keepCall p1 p2 p3 u) K → Met l yX8_keepCall wsX8_keepCall rmX8_keepCall (va_Pc [.ref h, .int p1, .int p2, .int p3] (kPre D cy sz (wS cy h a u))) (va_Qv K (fun q => kPost D (va_A (wS cy h a u) sz) (wS cy h a q)) (va_A (wS cy h a u) sz)) 0 0 (va_A (wS cy h a u) sz) := by
  intro K h1
  refine Met.ofW (cc := cX8_keepCall) (maxL := 5) (ret := none) (by decide) rfl ?_
  intro p e s m args below meth c s₁ B hml hv
  obtain ⟨rfl, hsz, hP, hK, hD0⟩ := hv
  subst hsz
  have E : mE D cy RX8 cX8_keepCall 5 none wsX8_keepCall (va_A (wS cy h a u) s.heap.size) p s m _ meth c := ⟨B.exec, B.bytes, B.returns, hml, findClass_of_methodNamed B.named, atoms_spec (ws := wsX8_keepCall) B.pre, B.notSynchronized, hK, fun q h => Or.inr h⟩
  have hl := lv_entry ([.ref h, .int p1, .int p2, .int p3]) (n := 5) (Nat.le_of_ble_eq_true rfl)
  rw [lg_entry_eq]
  generalize (lg_sl ([.ref h, .int p1, .int p2, .int p3]) ++ List.replicate (5 - (lg_sl ([.ref h, .int p1, .int p2, .int p3])).length) Slot.unset).toArray = ls at hl ⊢
  exact tX8_keepCall_b0 K E p1 p2 p3 u _ _ _ hl hP hD0.self va_S.rf h1
-- X8_callCrew
theorem inX8_callCrew_X8 : ∀ w ∈ u_ws RX8 TX8 13, w ∈ wsX8_callCrew := k_lays 51 rfl
theorem lkX8_callCrew_32 : Cond.fieldLink RX8 32 "FerryRamp$State" "queue" "[I" ∈ wsX8_callCrew := List.mem_of_getElem? (i := 1) rfl
theorem lkX8_callCrew_11 : Cond.fieldLink RX8 11 "FerryRamp$State" "counts" "[I" ∈ wsX8_callCrew := List.mem_of_getElem? (i := 2) rfl
theorem hdX8_keepCall : yX8_keepCall.cls = RX8 ∧ yX8_keepCall.cls ≠ "java/lang/invoke/MethodHandle" ∧ yX8_keepCall.cls ≠ "java/lang/invoke/VarHandle" ∧ (parseMethodDescriptor yX8_keepCall.desc).map (fun d => d.parameters.length) = some 3 := by decide +kernel
theorem hdX8_reasonFor : yX8_reasonFor.cls = RX8 ∧ yX8_reasonFor.cls ≠ "java/lang/invoke/MethodHandle" ∧ yX8_reasonFor.cls ≠ "java/lang/invoke/VarHandle" ∧ (parseMethodDescriptor yX8_reasonFor.desc).map (fun d => d.parameters.length) = some 1 := by decide +kernel
theorem hdX8_begin : yX8_begin.cls = RX8 ∧ yX8_begin.cls ≠ "java/lang/invoke/MethodHandle" ∧ yX8_begin.cls ≠ "java/lang/invoke/VarHandle" ∧ (parseMethodDescriptor yX8_begin.desc).map (fun d => d.parameters.length) = some 1 := by decide +kernel
abbrev rmX8_callCrew : Room := { frames := 2, cells := 0, slots := 0, locals := 53 }
def fX8_callCrew_b67 (x1 : Int32) (x2 : Int32) (x3 : Int32) (u : KS) : Option (KS) :=
  bnd (fX8_keepCall x2 x1 x3 u) (fun u71 => some (wC u71 11 0))
set_option maxHeartbeats 4000000 in
set_option maxRecDepth 100000 in
theorem tX8_callCrew_b67 {p : Program} {l : Launch} {e : Env} {s : State} {m : MethodId} {args : Array Value} {below : List Frame} {meth : Method} {c : Code} {D : va_G} {cy : Nat → ClassId} {A : Nat → Prop} {h : Nat} {a : Nat → Nat} (K : KS → Prop) (E : mE D cy RX8 cX8_callCrew 5 none wsX8_callCrew A p s m args meth c)
     (x1 : Int32) (x2 : Int32) (x3 : Int32) (u : KS) (H : Heap) (locs : List Loc) (ls : Array Slot) (hl : lv_has ls 5 [(0, .ref h), (1, .int x1), (2, .int x2), (3, .int x3)]) (hP : va_P D kCl (wS cy h a u) H) (hD : va_D A (wS cy h a u)) (hS : va_S A s.heap H locs) (h1 : Ok (fX8_callCrew_b67 x1 x2 x3 u) K) :
    kW p l e rmX8_callCrew s m args below meth c H locs (va_Qv K (fun q => kPost D A (wS cy h a q)) A) A 67 ls [] := by
  obtain ⟨hx, hb, hr, hml, hown, hts, hlocks, hK, hA⟩ := id E
  unfold fX8_callCrew_b67 at h1
  refine lv_aload_n hx hb dX8_callCrew_67 rfl (lv_at hl 0 rfl) ?_
  refine lv_iload_n hx hb dX8_callCrew_68 rfl (lv_at hl 2 rfl) ?_
  refine lv_iload_n hx hb dX8_callCrew_69 rfl (lv_at hl 1 rfl) ?_
  refine lv_iload_n hx hb dX8_callCrew_70 rfl (lv_at hl 3 rfl) ?_
  refine kc_vV0 (b := h) (As := [.int x2, .int x1, .int x3]) (rest := []) h1 ⟨hx, hb, hml, hown, hts⟩ (cX8_keepCallM l D cy h a H.size u x2 x1 x3) (cwV 3 hts gX8_callCrew_X8_keepCall rfl rfl rfl hdX8_keepCall ⟨Nat.le_of_ble_eq_true rfl, Nat.le_of_ble_eq_true rfl⟩) hK hP hD hS hA (q0 := 0) rfl rfl rfl hl.1 rfl (Nat.le_of_ble_eq_true rfl) dX8_callCrew_71 ⟨Nat.zero_le _, Nat.zero_le _⟩ (fun u71 H locs h1 hP hD hS => ?_)
  refine lv_aload_n hx hb dX8_callCrew_74 rfl (lv_at hl 0 rfl) ?_
  refine k_get (v := .ref (a 0)) (C := RX8) (T := TX8) (N := 13) hx hb hts inX8_callCrew_X8 hown hK hP 0 (wS_a0 _ _ _ _) rfl 0 (by decide) lkX8_callCrew_11 (sFs_0 _ _) dX8_callCrew_75 ?_
  refine lv_bipush (v := 11) hx hb dX8_callCrew_78 rfl ?_
  refine lv_iconst (v := 0) hx hb dX8_callCrew_80 rfl ?_
  refine k_iast (k := 11) (ws' := wS cy h a (wC u71 11 0)) hx hb hK hP hD hS 1 (wS_a1 _ _ _ _) rfl rfl (wS_wC _ _ _ _ _ _) dX8_callCrew_81 (fun H locs hP hD hS => ?_)
  exact kret_v hx hb hr hlocks hP hD hS h1 dX8_callCrew_82
def fX8_callCrew_b12 (k12 : Int32 × Int32 × Int32 × Int32 × KS → Option (KS)) (x1 : Int32) (x2 : Int32) (x3 : Int32) (x4 : Int32) (u : KS) : Option (KS) :=
  (if (sC u 1) ≤ x4 then fX8_callCrew_b67 x1 x2 x3 u else (if 20 ≤ x4 then fX8_callCrew_b67 x1 x2 x3 u else grd (inb x4 20) (bnd (fX8_reasonFor (sQ u (ix x4)) u) (fun r38 => (if r38 = 0 then grd (inb x4 20) (bnd (fX8_begin x4 u) (fun u55 => fX8_callCrew_b67 x1 x2 (sQ u (ix x4)) u55)) else k12 (x1, x2, x3, x4 + 1, u))))))
set_option maxHeartbeats 4000000 in
set_option maxRecDepth 100000 in
theorem tX8_callCrew_b12 {p : Program} {l : Launch} {e : Env} {s : State} {m : MethodId} {args : Array Value} {below : List Frame} {meth : Method} {c : Code} {D : va_G} {cy : Nat → ClassId} {A : Nat → Prop} {h : Nat} {a : Nat → Nat} (K : KS → Prop) (E : mE D cy RX8 cX8_callCrew 5 none wsX8_callCrew A p s m args meth c)
    (k12 : Int32 × Int32 × Int32 × Int32 × KS → Option (KS)) (hk12 : ∀ (x1 : Int32) (x2 : Int32) (x3 : Int32) (x4 : Int32) (u : KS) (H : Heap) (locs : List Loc) (ls : Array Slot), lv_has ls 5 [(0, .ref h), (1, .int x1), (2, .int x2), (3, .int x3), (4, .int x4)] → va_P D kCl (wS cy h a u) H → va_D A (wS cy h a u) → va_S A s.heap H locs → Ok (k12 (x1, x2, x3, x4, u)) K → kW p l e rmX8_callCrew s m args below meth c H locs (va_Qv K (fun q => kPost D A (wS cy h a q)) A) A 12 ls [])
     (x1 : Int32) (x2 : Int32) (x3 : Int32) (x4 : Int32) (u : KS) (H : Heap) (locs : List Loc) (ls : Array Slot) (hl : lv_has ls 5 [(0, .ref h), (1, .int x1), (2, .int x2), (3, .int x3), (4, .int x4)]) (hP : va_P D kCl (wS cy h a u) H) (hD : va_D A (wS cy h a u)) (hS : va_S A s.heap H locs) (h1 : Ok (fX8_callCrew_b12 k12 x1 x2 x3 x4 u) K) :
    kW p l e rmX8_callCrew s m args below meth c H locs (va_Qv K (fun q => kPost D A (wS cy h a q)) A) A 12 ls [] := by
  obtain ⟨hx, hb, hr, hml, hown, hts, hlocks, hK, hA⟩ := id E
  unfold fX8_callCrew_b12 at h1
  refine lv_iload hx hb dX8_callCrew_12 (lv_at hl 4 rfl) ?_
  refine lv_aload_n hx hb dX8_callCrew_14 rfl (lv_at hl 0 rfl) ?_
  refine k_get (v := .ref (a 0)) (C := RX8) (T := TX8) (N := 13) hx hb hts inX8_callCrew_X8 hown hK hP 0 (wS_a0 _ _ _ _) rfl 0 (by decide) lkX8_callCrew_11 (sFs_0 _ _) dX8_callCrew_15 ?_
  refine lv_iconst (v := 1) hx hb dX8_callCrew_18 rfl ?_
  refine k_iald (k := 1) hx hb hK hP 1 (wS_a1 _ _ _ _) rfl rfl dX8_callCrew_19 ?_
  refine lv_icmp_ge (tgt := 67) hx hb dX8_callCrew_20 (by decide) (fun c20 => ?_) (fun c20 => ?_)
  · replace h1 := Ok.pos c20 h1
    exact tX8_callCrew_b67 K E x1 x2 x3 u H locs ls (lv_sub hl [0, 1, 2, 3] rfl) hP hD hS h1
  · replace h1 := Ok.neg c20 h1
    refine lv_iload hx hb dX8_callCrew_23 (lv_at hl 4 rfl) ?_
    refine lv_bipush (v := 20) hx hb dX8_callCrew_25 rfl ?_
    refine lv_icmp_ge (tgt := 67) hx hb dX8_callCrew_27 (by decide) (fun c27 => ?_) (fun c27 => ?_)
    · replace h1 := Ok.pos c27 h1
      exact tX8_callCrew_b67 K E x1 x2 x3 u H locs ls (lv_sub hl [0, 1, 2, 3] rfl) hP hD hS h1
    · replace h1 := Ok.neg c27 h1
      refine lv_aload_n hx hb dX8_callCrew_30 rfl (lv_at hl 0 rfl) ?_
      refine lv_aload_n hx hb dX8_callCrew_31 rfl (lv_at hl 0 rfl) ?_
      refine k_get (v := .ref (a 4)) (C := RX8) (T := TX8) (N := 13) hx hb hts inX8_callCrew_X8 hown hK hP 0 (wS_a0 _ _ _ _) rfl 4 (by decide) lkX8_callCrew_32 (sFs_4 _ _) dX8_callCrew_32 ?_
      refine lv_iload hx hb dX8_callCrew_35 (lv_at hl 4 rfl) ?_
      have g37 := h1.grd1
      replace h1 := h1.grd2
      refine k_iald (k := (ix x4)) hx hb hK hP 5 (wS_a5 _ _ _ _) g37 rfl dX8_callCrew_37 ?_
      refine kc_rV0 (b := h) (As := [.int (sQ u (ix x4))]) (rest := []) h1 ⟨hx, hb, hml, hown, hts⟩ (cX8_reasonForM l D cy h a H.size u (sQ u (ix x4))) (cwV 1 hts gX8_callCrew_X8_reasonFor rfl rfl rfl hdX8_reasonFor ⟨Nat.le_of_ble_eq_true rfl, Nat.le_of_ble_eq_true rfl⟩) hK hP hD hS hA (q0 := 0) rfl rfl rfl hl.1 rfl (Nat.le_of_ble_eq_true rfl) dX8_callCrew_38 ⟨Nat.zero_le _, Nat.zero_le _⟩ (fun r38 H locs h1 hP hS => ?_)
      refine lv_if_ne (tgt := 61) hx hb dX8_callCrew_41 (by decide) (fun c41 => ?_) (fun c41 => ?_)
      · replace h1 := Ok.neg c41 h1
        refine lv_iinc (v := x4 + 1) (lv' := [(4, .int (x4 + 1)), (0, .ref h), (1, .int x1), (2, .int x2), (3, .int x3)]) hx hb dX8_callCrew_61 hl (k := 4) rfl rfl (by decide) rfl (fun ls hl => ?_)
        refine lv_goto (tgt := 12) hx hb dX8_callCrew_64 (by decide) ?_
        exact hk12 x1 x2 x3 (x4 + 1) u H locs ls (lv_sub hl [1, 2, 3, 4, 0] rfl) hP hD hS h1
      · replace h1 := Ok.pos c41 h1
        refine lv_aload_n hx hb dX8_callCrew_44 rfl (lv_at hl 0 rfl) ?_
        refine k_get (v := .ref (a 4)) (C := RX8) (T := TX8) (N := 13) hx hb hts inX8_callCrew_X8 hown hK hP 0 (wS_a0 _ _ _ _) rfl 4 (by decide) lkX8_callCrew_32 (sFs_4 _ _) dX8_callCrew_45 ?_
        refine lv_iload hx hb dX8_callCrew_48 (lv_at hl 4 rfl) ?_
        have g50 := h1.grd1
        replace h1 := h1.grd2
        refine k_iald (k := (ix x4)) hx hb hK hP 5 (wS_a5 _ _ _ _) g50 rfl dX8_callCrew_50 ?_
        refine lv_istore_n (lv' := [(3, .int (sQ u (ix x4))), (0, .ref h), (1, .int x1), (2, .int x2), (4, .int x4)]) hx hb dX8_callCrew_51 rfl hl (by decide) rfl (fun ls hl => ?_)
        refine lv_aload_n hx hb dX8_callCrew_52 rfl (lv_at hl 1 rfl) ?_
        refine lv_iload hx hb dX8_callCrew_53 (lv_at hl 4 rfl) ?_
        refine kc_vV0 (b := h) (As := [.int x4]) (rest := []) h1 ⟨hx, hb, hml, hown, hts⟩ (cX8_beginM l D cy h a H.size u x4) (cwV 1 hts gX8_callCrew_X8_begin rfl rfl rfl hdX8_begin ⟨Nat.le_of_ble_eq_true rfl, Nat.le_of_ble_eq_true rfl⟩) hK hP hD hS hA (q0 := 0) rfl rfl rfl hl.1 rfl (Nat.le_of_ble_eq_true rfl) dX8_callCrew_55 ⟨Nat.zero_le _, Nat.zero_le _⟩ (fun u55 H locs h1 hP hD hS => ?_)
        refine lv_goto (tgt := 67) hx hb dX8_callCrew_58 (by decide) ?_
        exact tX8_callCrew_b67 K E x1 x2 (sQ u (ix x4)) u55 H locs ls (lv_sub hl [1, 2, 3, 0] rfl) hP hD hS h1
theorem tX8_callCrew_l12 {p : Program} {l : Launch} {e : Env} {s : State} {m : MethodId} {args : Array Value} {below : List Frame} {meth : Method} {c : Code} {D : va_G} {cy : Nat → ClassId} {A : Nat → Prop} {h : Nat} {a : Nat → Nat} (K : KS → Prop) (E : mE D cy RX8 cX8_callCrew 5 none wsX8_callCrew A p s m args meth c) : ∀ (n9 : Nat) (x1 : Int32) (x2 : Int32) (x3 : Int32) (x4 : Int32) (u : KS) (H : Heap) (locs : List Loc) (ls : Array Slot), lv_has ls 5 [(0, .ref h), (1, .int x1), (2, .int x2), (3, .int x3), (4, .int x4)] → va_P D kCl (wS cy h a u) H → va_D A (wS cy h a u) → va_S A s.heap H locs → Ok (lop (fun y z => fX8_callCrew_b12 y z.1 z.2.1 z.2.2.1 z.2.2.2.1 z.2.2.2.2) n9 (x1, x2, x3, x4, u)) K → kW p l e rmX8_callCrew s m args below meth c H locs (va_Qv K (fun q => kPost D A (wS cy h a q)) A) A 12 ls [] := by
  intro n9
  induction n9 with
  | zero =>
    intro x1 x2 x3 x4 u H locs ls hl hP hD hS h1
    exact h1.no
  | succ n9 ih =>
    intro x1 x2 x3 x4 u H locs ls hl hP hD hS h1
    exact tX8_callCrew_b12 K E (lop (fun y z => fX8_callCrew_b12 y z.1 z.2.1 z.2.2.1 z.2.2.2.1 z.2.2.2.2) n9) (fun x1 x2 x3 x4 u H locs ls hl hP hD hS h1 => ih x1 x2 x3 x4 u H locs ls hl hP hD hS h1) x1 x2 x3 x4 u H locs ls hl hP hD hS h1
def fX8_callCrew_b0 (x1 : Int32) (u : KS) : Option (KS) :=
  lop (fun y z => fX8_callCrew_b12 y z.1 z.2.1 z.2.2.1 z.2.2.2.1 z.2.2.2.2) LF (x1, sQ u 0, (-1), 1, u)
set_option maxHeartbeats 4000000 in
set_option maxRecDepth 100000 in
theorem tX8_callCrew_b0 {p : Program} {l : Launch} {e : Env} {s : State} {m : MethodId} {args : Array Value} {below : List Frame} {meth : Method} {c : Code} {D : va_G} {cy : Nat → ClassId} {A : Nat → Prop} {h : Nat} {a : Nat → Nat} (K : KS → Prop) (E : mE D cy RX8 cX8_callCrew 5 none wsX8_callCrew A p s m args meth c)
     (x1 : Int32) (u : KS) (H : Heap) (locs : List Loc) (ls : Array Slot) (hl : lv_has ls 5 [(0, .ref h), (1, .int x1)]) (hP : va_P D kCl (wS cy h a u) H) (hD : va_D A (wS cy h a u)) (hS : va_S A s.heap H locs) (h1 : Ok (fX8_callCrew_b0 x1 u) K) :
    kW p l e rmX8_callCrew s m args below meth c H locs (va_Qv K (fun q => kPost D A (wS cy h a q)) A) A 0 ls [] := by
  obtain ⟨hx, hb, hr, hml, hown, hts, hlocks, hK, hA⟩ := id E
  unfold fX8_callCrew_b0 at h1
  refine lv_aload_n hx hb dX8_callCrew_0 rfl (lv_at hl 0 rfl) ?_
  refine k_get (v := .ref (a 4)) (C := RX8) (T := TX8) (N := 13) hx hb hts inX8_callCrew_X8 hown hK hP 0 (wS_a0 _ _ _ _) rfl 4 (by decide) lkX8_callCrew_32 (sFs_4 _ _) dX8_callCrew_1 ?_
  refine lv_iconst (v := 0) hx hb dX8_callCrew_4 rfl ?_
  refine k_iald (k := 0) hx hb hK hP 5 (wS_a5 _ _ _ _) rfl rfl dX8_callCrew_5 ?_
  refine lv_istore_n (lv' := [(2, .int (sQ u 0)), (0, .ref h), (1, .int x1)]) hx hb dX8_callCrew_6 rfl hl (by decide) rfl (fun ls hl => ?_)
  refine lv_iconst (v := (-1)) hx hb dX8_callCrew_7 rfl ?_
  refine lv_istore_n (lv' := [(3, .int (-1)), (2, .int (sQ u 0)), (0, .ref h), (1, .int x1)]) hx hb dX8_callCrew_8 rfl hl (by decide) rfl (fun ls hl => ?_)
  refine lv_iconst (v := 1) hx hb dX8_callCrew_9 rfl ?_
  refine lv_istore (lv' := [(4, .int 1), (3, .int (-1)), (2, .int (sQ u 0)), (0, .ref h), (1, .int x1)]) hx hb dX8_callCrew_10 hl (by decide) rfl (fun ls hl => ?_)
  exact tX8_callCrew_l12 K E LF x1 (sQ u 0) (-1) 1 u H locs ls (lv_sub hl [3, 4, 2, 1, 0] rfl) hP hD hS h1
def fX8_callCrew (p1 : Int32) (u : KS) : Option (KS) := fX8_callCrew_b0 p1 u
set_option maxHeartbeats 4000000 in
set_option maxRecDepth 100000 in
theorem cX8_callCrewM (l : Launch) (D : va_G) (cy : Nat → ClassId) (h : Nat) (a : Nat → Nat) (sz : Nat) (u : KS) (p1 : Int32) : ∀ (K : KS → Prop), Ok (fX8_callCrew p1 u) K → Met l yX8_callCrew wsX8_callCrew rmX8_callCrew (va_Pc [.ref h, .int p1] (kPre D cy sz (wS cy h a u))) (va_Qv K (fun q => kPost D (va_A (wS cy h a u) sz) (wS cy h a q)) (va_A (wS cy h a u) sz)) 0 0 (va_A (wS cy h a u) sz) := by
  intro K h1
  refine Met.ofW (cc := cX8_callCrew) (maxL := 5) (ret := none) (by decide) rfl ?_
  intro p e s m args below meth c s₁ B hml hv
  obtain ⟨rfl, hsz, hP, hK, hD0⟩ := hv
  subst hsz
  have E : mE D cy RX8 cX8_callCrew 5 none wsX8_callCrew (va_A (wS cy h a u) s.heap.size) p s m _ meth c := ⟨B.exec, B.bytes, B.returns, hml, findClass_of_methodNamed B.named, atoms_spec (ws := wsX8_callCrew) B.pre, B.notSynchronized, hK, fun q h => Or.inr h⟩
  have hl := lv_entry ([.ref h, .int p1]) (n := 5) (Nat.le_of_ble_eq_true rfl)
  rw [lg_entry_eq]
  generalize (lg_sl ([.ref h, .int p1]) ++ List.replicate (5 - (lg_sl ([.ref h, .int p1])).length) Slot.unset).toArray = ls at hl ⊢
  exact tX8_callCrew_b0 K E p1 u _ _ _ hl hP hD0.self va_S.rf h1
-- X8_runQueue
theorem inX8_runQueue_X8 : ∀ w ∈ u_ws RX8 TX8 13, w ∈ wsX8_runQueue := k_lays 55 rfl
theorem lkX8_runQueue_11 : Cond.fieldLink RX8 11 "FerryRamp$State" "counts" "[I" ∈ wsX8_runQueue := List.mem_of_getElem? (i := 1) rfl
theorem lkX8_runQueue_32 : Cond.fieldLink RX8 32 "FerryRamp$State" "queue" "[I" ∈ wsX8_runQueue := List.mem_of_getElem? (i := 2) rfl
theorem lkX8_runQueue_19 : Cond.fieldLink RX8 19 "FerryRamp$State" "settings" "[I" ∈ wsX8_runQueue := List.mem_of_getElem? (i := 3) rfl
theorem hdX8_callCrew : yX8_callCrew.cls = RX8 ∧ yX8_callCrew.cls ≠ "java/lang/invoke/MethodHandle" ∧ yX8_callCrew.cls ≠ "java/lang/invoke/VarHandle" ∧ (parseMethodDescriptor yX8_callCrew.desc).map (fun d => d.parameters.length) = some 1 := by decide +kernel
abbrev rmX8_runQueue : Room := { frames := 3, cells := 0, slots := 0, locals := 77 }
def fX8_runQueue_b0 (u : KS) : Option (KS) :=
  (if (sC u 8) = (-1) then (if 1 ≤ (sC u 1) then bnd (fX8_reasonFor (sQ u 0) u) (fun r29 => (if r29 = 0 then bnd (fX8_begin 0 u) (fun u39 => some u39) else (if r29 = 1 then some u else (if (sC (wC u 11 ((sC u 11) + 1)) 11) < (sT (wC u 11 ((sC u 11) + 1)) 13) then some (wC u 11 ((sC u 11) + 1)) else bnd (fX8_callCrew r29 (wC u 11 ((sC u 11) + 1))) (fun u80 => some u80))))) else some u) else some u)
set_option maxHeartbeats 4000000 in
set_option maxRecDepth 100000 in
theorem tX8_runQueue_b0 {p : Program} {l : Launch} {e : Env} {s : State} {m : MethodId} {args : Array Value} {below : List Frame} {meth : Method} {c : Code} {D : va_G} {cy : Nat → ClassId} {A : Nat → Prop} {h : Nat} {a : Nat → Nat} (K : KS → Prop) (E : mE D cy RX8 cX8_runQueue 2 none wsX8_runQueue A p s m args meth c)
     (u : KS) (H : Heap) (locs : List Loc) (ls : Array Slot) (hl : lv_has ls 2 [(0, .ref h)]) (hP : va_P D kCl (wS cy h a u) H) (hD : va_D A (wS cy h a u)) (hS : va_S A s.heap H locs) (h1 : Ok (fX8_runQueue_b0 u) K) :
    kW p l e rmX8_runQueue s m args below meth c H locs (va_Qv K (fun q => kPost D A (wS cy h a q)) A) A 0 ls [] := by
  obtain ⟨hx, hb, hr, hml, hown, hts, hlocks, hK, hA⟩ := id E
  unfold fX8_runQueue_b0 at h1
  refine lv_aload_n hx hb dX8_runQueue_0 rfl (lv_at hl 0 rfl) ?_
  refine k_get (v := .ref (a 0)) (C := RX8) (T := TX8) (N := 13) hx hb hts inX8_runQueue_X8 hown hK hP 0 (wS_a0 _ _ _ _) rfl 0 (by decide) lkX8_runQueue_11 (sFs_0 _ _) dX8_runQueue_1 ?_
  refine lv_bipush (v := 8) hx hb dX8_runQueue_4 rfl ?_
  refine k_iald (k := 8) hx hb hK hP 1 (wS_a1 _ _ _ _) rfl rfl dX8_runQueue_6 ?_
  refine lv_iconst (v := (-1)) hx hb dX8_runQueue_7 rfl ?_
  refine lv_icmp_ne (tgt := 21) hx hb dX8_runQueue_8 (by decide) (fun c8 => ?_) (fun c8 => ?_)
  · replace h1 := Ok.neg c8 h1
    exact kret_v hx hb hr hlocks hP hD hS h1 dX8_runQueue_21
  · replace h1 := Ok.pos c8 h1
    refine lv_aload_n hx hb dX8_runQueue_11 rfl (lv_at hl 0 rfl) ?_
    refine k_get (v := .ref (a 0)) (C := RX8) (T := TX8) (N := 13) hx hb hts inX8_runQueue_X8 hown hK hP 0 (wS_a0 _ _ _ _) rfl 0 (by decide) lkX8_runQueue_11 (sFs_0 _ _) dX8_runQueue_12 ?_
    refine lv_iconst (v := 1) hx hb dX8_runQueue_15 rfl ?_
    refine k_iald (k := 1) hx hb hK hP 1 (wS_a1 _ _ _ _) rfl rfl dX8_runQueue_16 ?_
    refine lv_iconst (v := 1) hx hb dX8_runQueue_17 rfl ?_
    refine lv_icmp_ge (tgt := 22) hx hb dX8_runQueue_18 (by decide) (fun c18 => ?_) (fun c18 => ?_)
    · replace h1 := Ok.pos c18 h1
      refine lv_aload_n hx hb dX8_runQueue_22 rfl (lv_at hl 0 rfl) ?_
      refine lv_aload_n hx hb dX8_runQueue_23 rfl (lv_at hl 0 rfl) ?_
      refine k_get (v := .ref (a 4)) (C := RX8) (T := TX8) (N := 13) hx hb hts inX8_runQueue_X8 hown hK hP 0 (wS_a0 _ _ _ _) rfl 4 (by decide) lkX8_runQueue_32 (sFs_4 _ _) dX8_runQueue_24 ?_
      refine lv_iconst (v := 0) hx hb dX8_runQueue_27 rfl ?_
      refine k_iald (k := 0) hx hb hK hP 5 (wS_a5 _ _ _ _) rfl rfl dX8_runQueue_28 ?_
      refine kc_rV0 (b := h) (As := [.int (sQ u 0)]) (rest := []) h1 ⟨hx, hb, hml, hown, hts⟩ (cX8_reasonForM l D cy h a H.size u (sQ u 0)) (cwV 1 hts gX8_runQueue_X8_reasonFor rfl rfl rfl hdX8_reasonFor ⟨Nat.le_of_ble_eq_true rfl, Nat.le_of_ble_eq_true rfl⟩) hK hP hD hS hA (q0 := 0) rfl rfl rfl hl.1 rfl (Nat.le_of_ble_eq_true rfl) dX8_runQueue_29 ⟨Nat.zero_le _, Nat.zero_le _⟩ (fun r29 H locs h1 hP hS => ?_)
      refine lv_istore_n (lv' := [(1, .int r29), (0, .ref h)]) hx hb dX8_runQueue_32 rfl hl (by decide) rfl (fun ls hl => ?_)
      refine lv_iload_n hx hb dX8_runQueue_33 rfl (lv_at hl 0 rfl) ?_
      refine lv_if_ne (tgt := 45) hx hb dX8_runQueue_34 (by decide) (fun c34 => ?_) (fun c34 => ?_)
      · replace h1 := Ok.neg c34 h1
        refine lv_iload_n hx hb dX8_runQueue_45 rfl (lv_at hl 0 rfl) ?_
        refine lv_iconst (v := 1) hx hb dX8_runQueue_46 rfl ?_
        refine lv_icmp_eq (tgt := 83) hx hb dX8_runQueue_47 (by decide) (fun c47 => ?_) (fun c47 => ?_)
        · replace h1 := Ok.pos c47 h1
          exact kret_v hx hb hr hlocks hP hD hS h1 dX8_runQueue_83
        · replace h1 := Ok.neg c47 h1
          refine lv_aload_n hx hb dX8_runQueue_50 rfl (lv_at hl 1 rfl) ?_
          refine k_get (v := .ref (a 0)) (C := RX8) (T := TX8) (N := 13) hx hb hts inX8_runQueue_X8 hown hK hP 0 (wS_a0 _ _ _ _) rfl 0 (by decide) lkX8_runQueue_11 (sFs_0 _ _) dX8_runQueue_51 ?_
          refine lv_bipush (v := 11) hx hb dX8_runQueue_54 rfl ?_
          refine lv_dup2_11 hx hb dX8_runQueue_56 rfl rfl ?_
          refine k_iald (k := 11) hx hb hK hP 1 (wS_a1 _ _ _ _) rfl rfl dX8_runQueue_57 ?_
          refine lv_iconst (v := 1) hx hb dX8_runQueue_58 rfl ?_
          refine lv_iadd hx hb dX8_runQueue_59 ?_
          refine k_iast (k := 11) (ws' := wS cy h a (wC u 11 ((sC u 11) + 1))) hx hb hK hP hD hS 1 (wS_a1 _ _ _ _) rfl rfl (wS_wC _ _ _ _ _ _) dX8_runQueue_60 (fun H locs hP hD hS => ?_)
          refine lv_aload_n hx hb dX8_runQueue_61 rfl (lv_at hl 1 rfl) ?_
          refine k_get (v := .ref (a 0)) (C := RX8) (T := TX8) (N := 13) hx hb hts inX8_runQueue_X8 hown hK hP 0 (wS_a0 _ _ _ _) rfl 0 (by decide) lkX8_runQueue_11 (sFs_0 _ _) dX8_runQueue_62 ?_
          refine lv_bipush (v := 11) hx hb dX8_runQueue_65 rfl ?_
          refine k_iald (k := 11) hx hb hK hP 1 (wS_a1 _ _ _ _) rfl rfl dX8_runQueue_67 ?_
          refine lv_aload_n hx hb dX8_runQueue_68 rfl (lv_at hl 1 rfl) ?_
          refine k_get (v := .ref (a 1)) (C := RX8) (T := TX8) (N := 13) hx hb hts inX8_runQueue_X8 hown hK hP 0 (wS_a0 _ _ _ _) rfl 1 (by decide) lkX8_runQueue_19 (sFs_1 _ _) dX8_runQueue_69 ?_
          refine lv_bipush (v := 13) hx hb dX8_runQueue_72 rfl ?_
          refine k_iald (k := 13) hx hb hK hP 2 (wS_a2 _ _ _ _) rfl rfl dX8_runQueue_74 ?_
          refine lv_icmp_lt (tgt := 83) hx hb dX8_runQueue_75 (by decide) (fun c75 => ?_) (fun c75 => ?_)
          · replace h1 := Ok.pos c75 h1
            exact kret_v hx hb hr hlocks hP hD hS h1 dX8_runQueue_83
          · replace h1 := Ok.neg c75 h1
            refine lv_aload_n hx hb dX8_runQueue_78 rfl (lv_at hl 1 rfl) ?_
            refine lv_iload_n hx hb dX8_runQueue_79 rfl (lv_at hl 0 rfl) ?_
            refine kc_vV0 (b := h) (As := [.int r29]) (rest := []) h1 ⟨hx, hb, hml, hown, hts⟩ (cX8_callCrewM l D cy h a H.size (wC u 11 ((sC u 11) + 1)) r29) (cwV 1 hts gX8_runQueue_X8_callCrew rfl rfl rfl hdX8_callCrew ⟨Nat.le_of_ble_eq_true rfl, Nat.le_of_ble_eq_true rfl⟩) hK hP hD hS hA (q0 := 0) rfl rfl rfl hl.1 rfl (Nat.le_of_ble_eq_true rfl) dX8_runQueue_80 ⟨Nat.zero_le _, Nat.zero_le _⟩ (fun u80 H locs h1 hP hD hS => ?_)
            exact kret_v hx hb hr hlocks hP hD hS h1 dX8_runQueue_83
      · replace h1 := Ok.pos c34 h1
        refine lv_aload_n hx hb dX8_runQueue_37 rfl (lv_at hl 1 rfl) ?_
        refine lv_iconst (v := 0) hx hb dX8_runQueue_38 rfl ?_
        refine kc_vV0 (b := h) (As := [.int 0]) (rest := []) h1 ⟨hx, hb, hml, hown, hts⟩ (cX8_beginM l D cy h a H.size u 0) (cwV 1 hts gX8_runQueue_X8_begin rfl rfl rfl hdX8_begin ⟨Nat.le_of_ble_eq_true rfl, Nat.le_of_ble_eq_true rfl⟩) hK hP hD hS hA (q0 := 0) rfl rfl rfl hl.1 rfl (Nat.le_of_ble_eq_true rfl) dX8_runQueue_39 ⟨Nat.zero_le _, Nat.zero_le _⟩ (fun u39 H locs h1 hP hD hS => ?_)
        refine lv_goto (tgt := 83) hx hb dX8_runQueue_42 (by decide) ?_
        exact kret_v hx hb hr hlocks hP hD hS h1 dX8_runQueue_83
    · replace h1 := Ok.neg c18 h1
      exact kret_v hx hb hr hlocks hP hD hS h1 dX8_runQueue_21
def fX8_runQueue (u : KS) : Option (KS) := fX8_runQueue_b0 u
set_option maxHeartbeats 4000000 in
set_option maxRecDepth 100000 in
theorem cX8_runQueueM (l : Launch) (D : va_G) (cy : Nat → ClassId) (h : Nat) (a : Nat → Nat) (sz : Nat) (u : KS) : ∀ (K : KS → Prop), Ok (fX8_runQueue u) K → Met l yX8_runQueue wsX8_runQueue rmX8_runQueue (va_Pc [.ref h] (kPre D cy sz (wS cy h a u))) (va_Qv K (fun q => kPost D (va_A (wS cy h a u) sz) (wS cy h a q)) (va_A (wS cy h a u) sz)) 0 0 (va_A (wS cy h a u) sz) := by
  intro K h1
  refine Met.ofW (cc := cX8_runQueue) (maxL := 2) (ret := none) (by decide) rfl ?_
  intro p e s m args below meth c s₁ B hml hv
  obtain ⟨rfl, hsz, hP, hK, hD0⟩ := hv
  subst hsz
  have E : mE D cy RX8 cX8_runQueue 2 none wsX8_runQueue (va_A (wS cy h a u) s.heap.size) p s m _ meth c := ⟨B.exec, B.bytes, B.returns, hml, findClass_of_methodNamed B.named, atoms_spec (ws := wsX8_runQueue) B.pre, B.notSynchronized, hK, fun q h => Or.inr h⟩
  have hl := lv_entry ([.ref h]) (n := 2) (Nat.le_of_ble_eq_true rfl)
  rw [lg_entry_eq]
  generalize (lg_sl ([.ref h]) ++ List.replicate (2 - (lg_sl ([.ref h])).length) Slot.unset).toArray = ls at hl ⊢
  exact tX8_runQueue_b0 K E u _ _ _ hl hP hD0.self va_S.rf h1
-- X8_passTicks
theorem inX8_passTicks_X8 : ∀ w ∈ u_ws RX8 TX8 13, w ∈ wsX8_passTicks := k_lays 100 rfl
theorem lkX8_passTicks_11 : Cond.fieldLink RX8 11 "FerryRamp$State" "counts" "[I" ∈ wsX8_passTicks := List.mem_of_getElem? (i := 1) rfl
theorem hdX8_runWinch : yX8_runWinch.cls = RX8 ∧ yX8_runWinch.cls ≠ "java/lang/invoke/MethodHandle" ∧ yX8_runWinch.cls ≠ "java/lang/invoke/VarHandle" ∧ (parseMethodDescriptor yX8_runWinch.desc).map (fun d => d.parameters.length) = some 0 := by decide +kernel
theorem hdX8_runCarOnRamp : yX8_runCarOnRamp.cls = RX8 ∧ yX8_runCarOnRamp.cls ≠ "java/lang/invoke/MethodHandle" ∧ yX8_runCarOnRamp.cls ≠ "java/lang/invoke/VarHandle" ∧ (parseMethodDescriptor yX8_runCarOnRamp.desc).map (fun d => d.parameters.length) = some 0 := by decide +kernel
theorem hdX8_runQueue : yX8_runQueue.cls = RX8 ∧ yX8_runQueue.cls ≠ "java/lang/invoke/MethodHandle" ∧ yX8_runQueue.cls ≠ "java/lang/invoke/VarHandle" ∧ (parseMethodDescriptor yX8_runQueue.desc).map (fun d => d.parameters.length) = some 0 := by decide +kernel
abbrev rmX8_passTicks : Room := { frames := 4, cells := 0, slots := 0, locals := 98 }
def fX8_passTicks_b10 (k10 : Int32 × Int32 × Int32 × KS → Option (Int32 × KS)) (x1 : Int32) (x2 : Int32) (x3 : Int32) (u : KS) : Option (Int32 × KS) :=
  (if x1 ≤ x3 then some ((sC u 13) - x2, u) else bnd (fX8_measureAll (wC u 0 ((sC u 0) + 1))) (fun u26 => bnd (fX8_runWinch u26) (fun u30 => bnd (fX8_runCarOnRamp u30) (fun u34 => bnd (fX8_runQueue u34) (fun u38 => k10 (x1, x2, x3 + 1, u38))))))
set_option maxHeartbeats 4000000 in
set_option maxRecDepth 100000 in
theorem tX8_passTicks_b10 {p : Program} {l : Launch} {e : Env} {s : State} {m : MethodId} {args : Array Value} {below : List Frame} {meth : Method} {c : Code} {D : va_G} {cy : Nat → ClassId} {A : Nat → Prop} {h : Nat} {a : Nat → Nat} (K : Int32 × KS → Prop) (E : mE D cy RX8 cX8_passTicks 4 (some .int) wsX8_passTicks A p s m args meth c)
    (k10 : Int32 × Int32 × Int32 × KS → Option (Int32 × KS)) (hk10 : ∀ (x1 : Int32) (x2 : Int32) (x3 : Int32) (u : KS) (H : Heap) (locs : List Loc) (ls : Array Slot), lv_has ls 4 [(0, .ref h), (1, .int x1), (2, .int x2), (3, .int x3)] → va_P D kCl (wS cy h a u) H → va_D A (wS cy h a u) → va_S A s.heap H locs → Ok (k10 (x1, x2, x3, u)) K → kW p l e rmX8_passTicks s m args below meth c H locs (va_Qi (fun r q => K (r, q)) (fun q => kPost D A (wS cy h a q)) A) A 10 ls [])
     (x1 : Int32) (x2 : Int32) (x3 : Int32) (u : KS) (H : Heap) (locs : List Loc) (ls : Array Slot) (hl : lv_has ls 4 [(0, .ref h), (1, .int x1), (2, .int x2), (3, .int x3)]) (hP : va_P D kCl (wS cy h a u) H) (hD : va_D A (wS cy h a u)) (hS : va_S A s.heap H locs) (h1 : Ok (fX8_passTicks_b10 k10 x1 x2 x3 u) K) :
    kW p l e rmX8_passTicks s m args below meth c H locs (va_Qi (fun r q => K (r, q)) (fun q => kPost D A (wS cy h a q)) A) A 10 ls [] := by
  obtain ⟨hx, hb, hr, hml, hown, hts, hlocks, hK, hA⟩ := id E
  unfold fX8_passTicks_b10 at h1
  refine lv_iload_n hx hb dX8_passTicks_10 rfl (lv_at hl 3 rfl) ?_
  refine lv_iload_n hx hb dX8_passTicks_11 rfl (lv_at hl 1 rfl) ?_
  refine lv_icmp_ge (tgt := 47) hx hb dX8_passTicks_12 (by decide) (fun c12 => ?_) (fun c12 => ?_)
  · replace h1 := Ok.pos c12 h1
    refine lv_aload_n hx hb dX8_passTicks_47 rfl (lv_at hl 0 rfl) ?_
    refine k_get (v := .ref (a 0)) (C := RX8) (T := TX8) (N := 13) hx hb hts inX8_passTicks_X8 hown hK hP 0 (wS_a0 _ _ _ _) rfl 0 (by decide) lkX8_passTicks_11 (sFs_0 _ _) dX8_passTicks_48 ?_
    refine lv_bipush (v := 13) hx hb dX8_passTicks_51 rfl ?_
    refine k_iald (k := 13) hx hb hK hP 1 (wS_a1 _ _ _ _) rfl rfl dX8_passTicks_53 ?_
    refine lv_iload_n hx hb dX8_passTicks_54 rfl (lv_at hl 2 rfl) ?_
    refine lv_isub hx hb dX8_passTicks_55 ?_
    exact kret_i hx hb hr hlocks hP hD hS h1 dX8_passTicks_56
  · replace h1 := Ok.neg c12 h1
    refine lv_aload_n hx hb dX8_passTicks_15 rfl (lv_at hl 0 rfl) ?_
    refine k_get (v := .ref (a 0)) (C := RX8) (T := TX8) (N := 13) hx hb hts inX8_passTicks_X8 hown hK hP 0 (wS_a0 _ _ _ _) rfl 0 (by decide) lkX8_passTicks_11 (sFs_0 _ _) dX8_passTicks_16 ?_
    refine lv_iconst (v := 0) hx hb dX8_passTicks_19 rfl ?_
    refine lv_dup2_11 hx hb dX8_passTicks_20 rfl rfl ?_
    refine k_iald (k := 0) hx hb hK hP 1 (wS_a1 _ _ _ _) rfl rfl dX8_passTicks_21 ?_
    refine lv_iconst (v := 1) hx hb dX8_passTicks_22 rfl ?_
    refine lv_iadd hx hb dX8_passTicks_23 ?_
    refine k_iast (k := 0) (ws' := wS cy h a (wC u 0 ((sC u 0) + 1))) hx hb hK hP hD hS 1 (wS_a1 _ _ _ _) rfl rfl (wS_wC _ _ _ _ _ _) dX8_passTicks_24 (fun H locs hP hD hS => ?_)
    refine lv_aload_n hx hb dX8_passTicks_25 rfl (lv_at hl 0 rfl) ?_
    refine kc_vV0 (b := h) (As := []) (rest := []) h1 ⟨hx, hb, hml, hown, hts⟩ (cX8_measureAllM l D cy h a H.size (wC u 0 ((sC u 0) + 1))) (cwV 0 hts gX8_passTicks_X8_measureAll rfl rfl rfl hdX8_measureAll ⟨Nat.le_of_ble_eq_true rfl, Nat.le_of_ble_eq_true rfl⟩) hK hP hD hS hA (q0 := 0) rfl rfl rfl hl.1 rfl (Nat.le_of_ble_eq_true rfl) dX8_passTicks_26 ⟨Nat.zero_le _, Nat.zero_le _⟩ (fun u26 H locs h1 hP hD hS => ?_)
    refine lv_aload_n hx hb dX8_passTicks_29 rfl (lv_at hl 0 rfl) ?_
    refine kc_vV0 (b := h) (As := []) (rest := []) h1 ⟨hx, hb, hml, hown, hts⟩ (cX8_runWinchM l D cy h a H.size u26) (cwV 0 hts gX8_passTicks_X8_runWinch rfl rfl rfl hdX8_runWinch ⟨Nat.le_of_ble_eq_true rfl, Nat.le_of_ble_eq_true rfl⟩) hK hP hD hS hA (q0 := 0) rfl rfl rfl hl.1 rfl (Nat.le_of_ble_eq_true rfl) dX8_passTicks_30 ⟨Nat.zero_le _, Nat.zero_le _⟩ (fun u30 H locs h1 hP hD hS => ?_)
    refine lv_aload_n hx hb dX8_passTicks_33 rfl (lv_at hl 0 rfl) ?_
    refine kc_vV0 (b := h) (As := []) (rest := []) h1 ⟨hx, hb, hml, hown, hts⟩ (cX8_runCarOnRampM l D cy h a H.size u30) (cwV 0 hts gX8_passTicks_X8_runCarOnRamp rfl rfl rfl hdX8_runCarOnRamp ⟨Nat.le_of_ble_eq_true rfl, Nat.le_of_ble_eq_true rfl⟩) hK hP hD hS hA (q0 := 0) rfl rfl rfl hl.1 rfl (Nat.le_of_ble_eq_true rfl) dX8_passTicks_34 ⟨Nat.zero_le _, Nat.zero_le _⟩ (fun u34 H locs h1 hP hD hS => ?_)
    refine lv_aload_n hx hb dX8_passTicks_37 rfl (lv_at hl 0 rfl) ?_
    refine kc_vV0 (b := h) (As := []) (rest := []) h1 ⟨hx, hb, hml, hown, hts⟩ (cX8_runQueueM l D cy h a H.size u34) (cwV 0 hts gX8_passTicks_X8_runQueue rfl rfl rfl hdX8_runQueue ⟨Nat.le_of_ble_eq_true rfl, Nat.le_of_ble_eq_true rfl⟩) hK hP hD hS hA (q0 := 0) rfl rfl rfl hl.1 rfl (Nat.le_of_ble_eq_true rfl) dX8_passTicks_38 ⟨Nat.zero_le _, Nat.zero_le _⟩ (fun u38 H locs h1 hP hD hS => ?_)
    refine lv_iinc (v := x3 + 1) (lv' := [(3, .int (x3 + 1)), (0, .ref h), (1, .int x1), (2, .int x2)]) hx hb dX8_passTicks_41 hl (k := 3) rfl rfl (by decide) rfl (fun ls hl => ?_)
    refine lv_goto (tgt := 10) hx hb dX8_passTicks_44 (by decide) ?_
    exact hk10 x1 x2 (x3 + 1) u38 H locs ls (lv_sub hl [1, 2, 3, 0] rfl) hP hD hS h1
theorem tX8_passTicks_l10 {p : Program} {l : Launch} {e : Env} {s : State} {m : MethodId} {args : Array Value} {below : List Frame} {meth : Method} {c : Code} {D : va_G} {cy : Nat → ClassId} {A : Nat → Prop} {h : Nat} {a : Nat → Nat} (K : Int32 × KS → Prop) (E : mE D cy RX8 cX8_passTicks 4 (some .int) wsX8_passTicks A p s m args meth c) : ∀ (n9 : Nat) (x1 : Int32) (x2 : Int32) (x3 : Int32) (u : KS) (H : Heap) (locs : List Loc) (ls : Array Slot), lv_has ls 4 [(0, .ref h), (1, .int x1), (2, .int x2), (3, .int x3)] → va_P D kCl (wS cy h a u) H → va_D A (wS cy h a u) → va_S A s.heap H locs → Ok (lop (fun y z => fX8_passTicks_b10 y z.1 z.2.1 z.2.2.1 z.2.2.2) n9 (x1, x2, x3, u)) K → kW p l e rmX8_passTicks s m args below meth c H locs (va_Qi (fun r q => K (r, q)) (fun q => kPost D A (wS cy h a q)) A) A 10 ls [] := by
  intro n9
  induction n9 with
  | zero =>
    intro x1 x2 x3 u H locs ls hl hP hD hS h1
    exact h1.no
  | succ n9 ih =>
    intro x1 x2 x3 u H locs ls hl hP hD hS h1
    exact tX8_passTicks_b10 K E (lop (fun y z => fX8_passTicks_b10 y z.1 z.2.1 z.2.2.1 z.2.2.2) n9) (fun x1 x2 x3 u H locs ls hl hP hD hS h1 => ih x1 x2 x3 u H locs ls hl hP hD hS h1) x1 x2 x3 u H locs ls hl hP hD hS h1
def fX8_passTicks_b0 (x1 : Int32) (u : KS) : Option (Int32 × KS) :=
  lop (fun y z => fX8_passTicks_b10 y z.1 z.2.1 z.2.2.1 z.2.2.2) LF (x1, sC u 13, 0, u)
set_option maxHeartbeats 4000000 in
set_option maxRecDepth 100000 in
theorem tX8_passTicks_b0 {p : Program} {l : Launch} {e : Env} {s : State} {m : MethodId} {args : Array Value} {below : List Frame} {meth : Method} {c : Code} {D : va_G} {cy : Nat → ClassId} {A : Nat → Prop} {h : Nat} {a : Nat → Nat} (K : Int32 × KS → Prop) (E : mE D cy RX8 cX8_passTicks 4 (some .int) wsX8_passTicks A p s m args meth c)
     (x1 : Int32) (u : KS) (H : Heap) (locs : List Loc) (ls : Array Slot) (hl : lv_has ls 4 [(0, .ref h), (1, .int x1)]) (hP : va_P D kCl (wS cy h a u) H) (hD : va_D A (wS cy h a u)) (hS : va_S A s.heap H locs) (h1 : Ok (fX8_passTicks_b0 x1 u) K) :
    kW p l e rmX8_passTicks s m args below meth c H locs (va_Qi (fun r q => K (r, q)) (fun q => kPost D A (wS cy h a q)) A) A 0 ls [] := by
  obtain ⟨hx, hb, hr, hml, hown, hts, hlocks, hK, hA⟩ := id E
  unfold fX8_passTicks_b0 at h1
  refine lv_aload_n hx hb dX8_passTicks_0 rfl (lv_at hl 0 rfl) ?_
  refine k_get (v := .ref (a 0)) (C := RX8) (T := TX8) (N := 13) hx hb hts inX8_passTicks_X8 hown hK hP 0 (wS_a0 _ _ _ _) rfl 0 (by decide) lkX8_passTicks_11 (sFs_0 _ _) dX8_passTicks_1 ?_
  refine lv_bipush (v := 13) hx hb dX8_passTicks_4 rfl ?_
  refine k_iald (k := 13) hx hb hK hP 1 (wS_a1 _ _ _ _) rfl rfl dX8_passTicks_6 ?_
  refine lv_istore_n (lv' := [(2, .int (sC u 13)), (0, .ref h), (1, .int x1)]) hx hb dX8_passTicks_7 rfl hl (by decide) rfl (fun ls hl => ?_)
  refine lv_iconst (v := 0) hx hb dX8_passTicks_8 rfl ?_
  refine lv_istore_n (lv' := [(3, .int 0), (2, .int (sC u 13)), (0, .ref h), (1, .int x1)]) hx hb dX8_passTicks_9 rfl hl (by decide) rfl (fun ls hl => ?_)
  exact tX8_passTicks_l10 K E LF x1 (sC u 13) 0 u H locs ls (lv_sub hl [2, 3, 1, 0] rfl) hP hD hS h1
def fX8_passTicks (p1 : Int32) (u : KS) : Option (Int32 × KS) := fX8_passTicks_b0 p1 u
set_option maxHeartbeats 4000000 in
set_option maxRecDepth 100000 in
theorem cX8_passTicksM (l : Launch) (D : va_G) (cy : Nat → ClassId) (h : Nat) (a : Nat → Nat) (sz : Nat) (u : KS) (p1 : Int32) : ∀ (K : Int32 → KS → Prop), Ok (fX8_passTicks p1 u) (fun q => K q.1 q.2) → Met l yX8_passTicks wsX8_passTicks rmX8_passTicks (va_Pc [.ref h, .int p1] (kPre D cy sz (wS cy h a u))) (va_Qi K (fun q => kPost D (va_A (wS cy h a u) sz) (wS cy h a q)) (va_A (wS cy h a u) sz)) 0 0 (va_A (wS cy h a u) sz) := by
  intro K h1
  refine Met.ofW (cc := cX8_passTicks) (maxL := 4) (ret := (some .int)) (by decide) rfl ?_
  intro p e s m args below meth c s₁ B hml hv
  obtain ⟨rfl, hsz, hP, hK, hD0⟩ := hv
  subst hsz
  have E : mE D cy RX8 cX8_passTicks 4 (some .int) wsX8_passTicks (va_A (wS cy h a u) s.heap.size) p s m _ meth c := ⟨B.exec, B.bytes, B.returns, hml, findClass_of_methodNamed B.named, atoms_spec (ws := wsX8_passTicks) B.pre, B.notSynchronized, hK, fun q h => Or.inr h⟩
  have hl := lv_entry ([.ref h, .int p1]) (n := 4) (Nat.le_of_ble_eq_true rfl)
  rw [lg_entry_eq]
  generalize (lg_sl ([.ref h, .int p1]) ++ List.replicate (4 - (lg_sl ([.ref h, .int p1])).length) Slot.unset).toArray = ls at hl ⊢
  exact tX8_passTicks_b0 (fun q => K q.1 q.2) E p1 u _ _ _ hl hP hD0.self va_S.rf h1
-- X8_takeFromDeck
theorem hdX8_lastOnDeck : yX8_lastOnDeck.cls = RX8 ∧ yX8_lastOnDeck.cls ≠ "java/lang/invoke/MethodHandle" ∧ yX8_lastOnDeck.cls ≠ "java/lang/invoke/VarHandle" ∧ (parseMethodDescriptor yX8_lastOnDeck.desc).map (fun d => d.parameters.length) = some 1 := by decide +kernel
theorem inX8_takeFromDeck_X8 : ∀ w ∈ u_ws RX8 TX8 13, w ∈ wsX8_takeFromDeck := k_lays 58 rfl
theorem lkX8_takeFromDeck_38 : Cond.fieldLink RX8 38 "FerryRamp$State" "deckCars" "[I" ∈ wsX8_takeFromDeck := List.mem_of_getElem? (i := 1) rfl
theorem lkX8_takeFromDeck_41 : Cond.fieldLink RX8 41 "FerryRamp$State" "weights" "[I" ∈ wsX8_takeFromDeck := List.mem_of_getElem? (i := 2) rfl
theorem lkX8_takeFromDeck_44 : Cond.fieldLink RX8 44 "FerryRamp$State" "taken" "[I" ∈ wsX8_takeFromDeck := List.mem_of_getElem? (i := 3) rfl
theorem lkX8_takeFromDeck_11 : Cond.fieldLink RX8 11 "FerryRamp$State" "counts" "[I" ∈ wsX8_takeFromDeck := List.mem_of_getElem? (i := 4) rfl
abbrev rmX8_takeFromDeck : Room := { frames := 3, cells := 0, slots := 0, locals := 68 }
def fX8_takeFromDeck_b0 (x1 : Int32) (u : KS) : Option (KS) :=
  bnd (fX8_lastOnDeck x1 u) (fun r2 => (if r2 = (-1) then some u else (if x1 < 0 then some u else (if x1 < 3 then bnd (fX8_carFact r2 1 u) (fun r24 => grd (inb x1 3) (grd (inb x1 3) (grd (inb x1 3) (grd (inb x1 3) (grd (inb x1 3) (bnd (fX8_carKindFact r2 2 (wW (wD u (ix x1) ((sD u (ix x1)) - 1)) (ix x1) ((sW (wD u (ix x1) ((sD u (ix x1)) - 1)) (ix x1)) - r24))) (fun r58 => grd (inb x1 3) (bnd (fX8_setCarFact r2 2 3 (wN (wW (wD u (ix x1) ((sD u (ix x1)) - 1)) (ix x1) ((sW (wD u (ix x1) ((sD u (ix x1)) - 1)) (ix x1)) - r24)) (ix x1) ((sN (wW (wD u (ix x1) ((sD u (ix x1)) - 1)) (ix x1) ((sW (wD u (ix x1) ((sD u (ix x1)) - 1)) (ix x1)) - r24)) (ix x1)) - r58))) (fun u67 => bnd (fX8_measureAll (wC (wC (wC u67 7 ((sC u67 7) - r24)) 2 ((sC (wC u67 7 ((sC u67 7) - r24)) 2) - 1)) 14 ((sC (wC (wC u67 7 ((sC u67 7) - r24)) 2 ((sC (wC u67 7 ((sC u67 7) - r24)) 2) - 1)) 14) + 1))) (fun u103 => some u103)))))))))) else some u))))
set_option maxHeartbeats 4000000 in
set_option maxRecDepth 100000 in
theorem tX8_takeFromDeck_b0 {p : Program} {l : Launch} {e : Env} {s : State} {m : MethodId} {args : Array Value} {below : List Frame} {meth : Method} {c : Code} {D : va_G} {cy : Nat → ClassId} {A : Nat → Prop} {h : Nat} {a : Nat → Nat} (K : KS → Prop) (E : mE D cy RX8 cX8_takeFromDeck 4 none wsX8_takeFromDeck A p s m args meth c)
     (x1 : Int32) (u : KS) (H : Heap) (locs : List Loc) (ls : Array Slot) (hl : lv_has ls 4 [(0, .ref h), (1, .int x1)]) (hP : va_P D kCl (wS cy h a u) H) (hD : va_D A (wS cy h a u)) (hS : va_S A s.heap H locs) (h1 : Ok (fX8_takeFromDeck_b0 x1 u) K) :
    kW p l e rmX8_takeFromDeck s m args below meth c H locs (va_Qv K (fun q => kPost D A (wS cy h a q)) A) A 0 ls [] := by
  obtain ⟨hx, hb, hr, hml, hown, hts, hlocks, hK, hA⟩ := id E
  unfold fX8_takeFromDeck_b0 at h1
  refine lv_aload_n hx hb dX8_takeFromDeck_0 rfl (lv_at hl 0 rfl) ?_
  refine lv_iload_n hx hb dX8_takeFromDeck_1 rfl (lv_at hl 1 rfl) ?_
  refine kc_rV0 (b := h) (As := [.int x1]) (rest := []) h1 ⟨hx, hb, hml, hown, hts⟩ (cX8_lastOnDeckM l D cy h a H.size u x1) (cwV 1 hts gX8_takeFromDeck_X8_lastOnDeck rfl rfl rfl hdX8_lastOnDeck ⟨Nat.le_of_ble_eq_true rfl, Nat.le_of_ble_eq_true rfl⟩) hK hP hD hS hA (q0 := 0) rfl rfl rfl hl.1 rfl (Nat.le_of_ble_eq_true rfl) dX8_takeFromDeck_2 ⟨Nat.zero_le _, Nat.zero_le _⟩ (fun r2 H locs h1 hP hS => ?_)
  refine lv_istore_n (lv' := [(2, .int r2), (0, .ref h), (1, .int x1)]) hx hb dX8_takeFromDeck_5 rfl hl (by decide) rfl (fun ls hl => ?_)
  refine lv_iload_n hx hb dX8_takeFromDeck_6 rfl (lv_at hl 0 rfl) ?_
  refine lv_iconst (v := (-1)) hx hb dX8_takeFromDeck_7 rfl ?_
  refine lv_icmp_eq (tgt := 20) hx hb dX8_takeFromDeck_8 (by decide) (fun c8 => ?_) (fun c8 => ?_)
  · replace h1 := Ok.pos c8 h1
    exact kret_v hx hb hr hlocks hP hD hS h1 dX8_takeFromDeck_20
  · replace h1 := Ok.neg c8 h1
    refine lv_iload_n hx hb dX8_takeFromDeck_11 rfl (lv_at hl 2 rfl) ?_
    refine lv_if_lt (tgt := 20) hx hb dX8_takeFromDeck_12 (by decide) (fun c12 => ?_) (fun c12 => ?_)
    · replace h1 := Ok.pos c12 h1
      exact kret_v hx hb hr hlocks hP hD hS h1 dX8_takeFromDeck_20
    · replace h1 := Ok.neg c12 h1
      refine lv_iload_n hx hb dX8_takeFromDeck_15 rfl (lv_at hl 2 rfl) ?_
      refine lv_iconst (v := 3) hx hb dX8_takeFromDeck_16 rfl ?_
      refine lv_icmp_lt (tgt := 21) hx hb dX8_takeFromDeck_17 (by decide) (fun c17 => ?_) (fun c17 => ?_)
      · replace h1 := Ok.pos c17 h1
        refine lv_aload_n hx hb dX8_takeFromDeck_21 rfl (lv_at hl 1 rfl) ?_
        refine lv_iload_n hx hb dX8_takeFromDeck_22 rfl (lv_at hl 0 rfl) ?_
        refine lv_iconst (v := 1) hx hb dX8_takeFromDeck_23 rfl ?_
        refine kc_rV0 (b := h) (As := [.int r2, .int 1]) (rest := []) h1 ⟨hx, hb, hml, hown, hts⟩ (cX8_carFactM l D cy h a H.size u r2 1) (cwV 2 hts gX8_takeFromDeck_X8_carFact rfl rfl rfl hdX8_carFact ⟨Nat.le_of_ble_eq_true rfl, Nat.le_of_ble_eq_true rfl⟩) hK hP hD hS hA (q0 := 0) rfl rfl rfl hl.1 rfl (Nat.le_of_ble_eq_true rfl) dX8_takeFromDeck_24 ⟨Nat.zero_le _, Nat.zero_le _⟩ (fun r24 H locs h1 hP hS => ?_)
        refine lv_istore_n (lv' := [(3, .int r24), (2, .int r2), (0, .ref h), (1, .int x1)]) hx hb dX8_takeFromDeck_27 rfl hl (by decide) rfl (fun ls hl => ?_)
        refine lv_aload_n hx hb dX8_takeFromDeck_28 rfl (lv_at hl 2 rfl) ?_
        refine k_get (v := .ref (a 6)) (C := RX8) (T := TX8) (N := 13) hx hb hts inX8_takeFromDeck_X8 hown hK hP 0 (wS_a0 _ _ _ _) rfl 6 (by decide) lkX8_takeFromDeck_38 (sFs_6 _ _) dX8_takeFromDeck_29 ?_
        refine lv_iload_n hx hb dX8_takeFromDeck_32 rfl (lv_at hl 3 rfl) ?_
        refine lv_dup2_11 hx hb dX8_takeFromDeck_33 rfl rfl ?_
        have g34 := h1.grd1
        replace h1 := h1.grd2
        refine k_iald (k := (ix x1)) hx hb hK hP 7 (wS_a7 _ _ _ _) g34 rfl dX8_takeFromDeck_34 ?_
        refine lv_iconst (v := 1) hx hb dX8_takeFromDeck_35 rfl ?_
        refine lv_isub hx hb dX8_takeFromDeck_36 ?_
        have g37 := h1.grd1
        replace h1 := h1.grd2
        refine k_iast (k := (ix x1)) (ws' := wS cy h a (wD u (ix x1) ((sD u (ix x1)) - 1))) hx hb hK hP hD hS 7 (wS_a7 _ _ _ _) g37 rfl (wS_wD _ _ _ _ _ _) dX8_takeFromDeck_37 (fun H locs hP hD hS => ?_)
        refine lv_aload_n hx hb dX8_takeFromDeck_38 rfl (lv_at hl 2 rfl) ?_
        refine k_get (v := .ref (a 7)) (C := RX8) (T := TX8) (N := 13) hx hb hts inX8_takeFromDeck_X8 hown hK hP 0 (wS_a0 _ _ _ _) rfl 7 (by decide) lkX8_takeFromDeck_41 (sFs_7 _ _) dX8_takeFromDeck_39 ?_
        refine lv_iload_n hx hb dX8_takeFromDeck_42 rfl (lv_at hl 3 rfl) ?_
        refine lv_dup2_11 hx hb dX8_takeFromDeck_43 rfl rfl ?_
        have g44 := h1.grd1
        replace h1 := h1.grd2
        refine k_iald (k := (ix x1)) hx hb hK hP 8 (wS_a8 _ _ _ _) g44 rfl dX8_takeFromDeck_44 ?_
        refine lv_iload_n hx hb dX8_takeFromDeck_45 rfl (lv_at hl 0 rfl) ?_
        refine lv_isub hx hb dX8_takeFromDeck_46 ?_
        have g47 := h1.grd1
        replace h1 := h1.grd2
        refine k_iast (k := (ix x1)) (ws' := wS cy h a (wW (wD u (ix x1) ((sD u (ix x1)) - 1)) (ix x1) ((sW (wD u (ix x1) ((sD u (ix x1)) - 1)) (ix x1)) - r24))) hx hb hK hP hD hS 8 (wS_a8 _ _ _ _) g47 rfl (wS_wW _ _ _ _ _ _) dX8_takeFromDeck_47 (fun H locs hP hD hS => ?_)
        refine lv_aload_n hx hb dX8_takeFromDeck_48 rfl (lv_at hl 2 rfl) ?_
        refine k_get (v := .ref (a 8)) (C := RX8) (T := TX8) (N := 13) hx hb hts inX8_takeFromDeck_X8 hown hK hP 0 (wS_a0 _ _ _ _) rfl 8 (by decide) lkX8_takeFromDeck_44 (sFs_8 _ _) dX8_takeFromDeck_49 ?_
        refine lv_iload_n hx hb dX8_takeFromDeck_52 rfl (lv_at hl 3 rfl) ?_
        refine lv_dup2_11 hx hb dX8_takeFromDeck_53 rfl rfl ?_
        have g54 := h1.grd1
        replace h1 := h1.grd2
        refine k_iald (k := (ix x1)) hx hb hK hP 9 (wS_a9 _ _ _ _) g54 rfl dX8_takeFromDeck_54 ?_
        refine lv_aload_n hx hb dX8_takeFromDeck_55 rfl (lv_at hl 2 rfl) ?_
        refine lv_iload_n hx hb dX8_takeFromDeck_56 rfl (lv_at hl 1 rfl) ?_
        refine lv_iconst (v := 2) hx hb dX8_takeFromDeck_57 rfl ?_
        refine kc_rV0 (b := h) (As := [.int r2, .int 2]) (rest := [.int (sN (wW (wD u (ix x1) ((sD u (ix x1)) - 1)) (ix x1) ((sW (wD u (ix x1) ((sD u (ix x1)) - 1)) (ix x1)) - r24)) (ix x1)), .int x1, .ref (a 8)]) h1 ⟨hx, hb, hml, hown, hts⟩ (cX8_carKindFactM l D cy h a H.size (wW (wD u (ix x1) ((sD u (ix x1)) - 1)) (ix x1) ((sW (wD u (ix x1) ((sD u (ix x1)) - 1)) (ix x1)) - r24)) r2 2) (cwV 2 hts gX8_takeFromDeck_X8_carKindFact rfl rfl rfl hdX8_carKindFact ⟨Nat.le_of_ble_eq_true rfl, Nat.le_of_ble_eq_true rfl⟩) hK hP hD hS hA (q0 := 0) rfl rfl rfl hl.1 rfl (Nat.le_of_ble_eq_true rfl) dX8_takeFromDeck_58 ⟨Nat.zero_le _, Nat.zero_le _⟩ (fun r58 H locs h1 hP hS => ?_)
        refine lv_isub hx hb dX8_takeFromDeck_61 ?_
        have g62 := h1.grd1
        replace h1 := h1.grd2
        refine k_iast (k := (ix x1)) (ws' := wS cy h a (wN (wW (wD u (ix x1) ((sD u (ix x1)) - 1)) (ix x1) ((sW (wD u (ix x1) ((sD u (ix x1)) - 1)) (ix x1)) - r24)) (ix x1) ((sN (wW (wD u (ix x1) ((sD u (ix x1)) - 1)) (ix x1) ((sW (wD u (ix x1) ((sD u (ix x1)) - 1)) (ix x1)) - r24)) (ix x1)) - r58))) hx hb hK hP hD hS 9 (wS_a9 _ _ _ _) g62 rfl (wS_wN _ _ _ _ _ _) dX8_takeFromDeck_62 (fun H locs hP hD hS => ?_)
        refine lv_aload_n hx hb dX8_takeFromDeck_63 rfl (lv_at hl 2 rfl) ?_
        refine lv_iload_n hx hb dX8_takeFromDeck_64 rfl (lv_at hl 1 rfl) ?_
        refine lv_iconst (v := 2) hx hb dX8_takeFromDeck_65 rfl ?_
        refine lv_iconst (v := 3) hx hb dX8_takeFromDeck_66 rfl ?_
        refine kc_vV0 (b := h) (As := [.int r2, .int 2, .int 3]) (rest := []) h1 ⟨hx, hb, hml, hown, hts⟩ (cX8_setCarFactM l D cy h a H.size (wN (wW (wD u (ix x1) ((sD u (ix x1)) - 1)) (ix x1) ((sW (wD u (ix x1) ((sD u (ix x1)) - 1)) (ix x1)) - r24)) (ix x1) ((sN (wW (wD u (ix x1) ((sD u (ix x1)) - 1)) (ix x1) ((sW (wD u (ix x1) ((sD u (ix x1)) - 1)) (ix x1)) - r24)) (ix x1)) - r58)) r2 2 3) (cwV 3 hts gX8_takeFromDeck_X8_setCarFact rfl rfl rfl hdX8_setCarFact ⟨Nat.le_of_ble_eq_true rfl, Nat.le_of_ble_eq_true rfl⟩) hK hP hD hS hA (q0 := 0) rfl rfl rfl hl.1 rfl (Nat.le_of_ble_eq_true rfl) dX8_takeFromDeck_67 ⟨Nat.zero_le _, Nat.zero_le _⟩ (fun u67 H locs h1 hP hD hS => ?_)
        refine lv_aload_n hx hb dX8_takeFromDeck_70 rfl (lv_at hl 2 rfl) ?_
        refine k_get (v := .ref (a 0)) (C := RX8) (T := TX8) (N := 13) hx hb hts inX8_takeFromDeck_X8 hown hK hP 0 (wS_a0 _ _ _ _) rfl 0 (by decide) lkX8_takeFromDeck_11 (sFs_0 _ _) dX8_takeFromDeck_71 ?_
        refine lv_bipush (v := 7) hx hb dX8_takeFromDeck_74 rfl ?_
        refine lv_dup2_11 hx hb dX8_takeFromDeck_76 rfl rfl ?_
        refine k_iald (k := 7) hx hb hK hP 1 (wS_a1 _ _ _ _) rfl rfl dX8_takeFromDeck_77 ?_
        refine lv_iload_n hx hb dX8_takeFromDeck_78 rfl (lv_at hl 0 rfl) ?_
        refine lv_isub hx hb dX8_takeFromDeck_79 ?_
        refine k_iast (k := 7) (ws' := wS cy h a (wC u67 7 ((sC u67 7) - r24))) hx hb hK hP hD hS 1 (wS_a1 _ _ _ _) rfl rfl (wS_wC _ _ _ _ _ _) dX8_takeFromDeck_80 (fun H locs hP hD hS => ?_)
        refine lv_aload_n hx hb dX8_takeFromDeck_81 rfl (lv_at hl 2 rfl) ?_
        refine k_get (v := .ref (a 0)) (C := RX8) (T := TX8) (N := 13) hx hb hts inX8_takeFromDeck_X8 hown hK hP 0 (wS_a0 _ _ _ _) rfl 0 (by decide) lkX8_takeFromDeck_11 (sFs_0 _ _) dX8_takeFromDeck_82 ?_
        refine lv_iconst (v := 2) hx hb dX8_takeFromDeck_85 rfl ?_
        refine lv_dup2_11 hx hb dX8_takeFromDeck_86 rfl rfl ?_
        refine k_iald (k := 2) hx hb hK hP 1 (wS_a1 _ _ _ _) rfl rfl dX8_takeFromDeck_87 ?_
        refine lv_iconst (v := 1) hx hb dX8_takeFromDeck_88 rfl ?_
        refine lv_isub hx hb dX8_takeFromDeck_89 ?_
        refine k_iast (k := 2) (ws' := wS cy h a (wC (wC u67 7 ((sC u67 7) - r24)) 2 ((sC (wC u67 7 ((sC u67 7) - r24)) 2) - 1))) hx hb hK hP hD hS 1 (wS_a1 _ _ _ _) rfl rfl (wS_wC _ _ _ _ _ _) dX8_takeFromDeck_90 (fun H locs hP hD hS => ?_)
        refine lv_aload_n hx hb dX8_takeFromDeck_91 rfl (lv_at hl 2 rfl) ?_
        refine k_get (v := .ref (a 0)) (C := RX8) (T := TX8) (N := 13) hx hb hts inX8_takeFromDeck_X8 hown hK hP 0 (wS_a0 _ _ _ _) rfl 0 (by decide) lkX8_takeFromDeck_11 (sFs_0 _ _) dX8_takeFromDeck_92 ?_
        refine lv_bipush (v := 14) hx hb dX8_takeFromDeck_95 rfl ?_
        refine lv_dup2_11 hx hb dX8_takeFromDeck_97 rfl rfl ?_
        refine k_iald (k := 14) hx hb hK hP 1 (wS_a1 _ _ _ _) rfl rfl dX8_takeFromDeck_98 ?_
        refine lv_iconst (v := 1) hx hb dX8_takeFromDeck_99 rfl ?_
        refine lv_iadd hx hb dX8_takeFromDeck_100 ?_
        refine k_iast (k := 14) (ws' := wS cy h a (wC (wC (wC u67 7 ((sC u67 7) - r24)) 2 ((sC (wC u67 7 ((sC u67 7) - r24)) 2) - 1)) 14 ((sC (wC (wC u67 7 ((sC u67 7) - r24)) 2 ((sC (wC u67 7 ((sC u67 7) - r24)) 2) - 1)) 14) + 1))) hx hb hK hP hD hS 1 (wS_a1 _ _ _ _) rfl rfl (wS_wC _ _ _ _ _ _) dX8_takeFromDeck_101 (fun H locs hP hD hS => ?_)
        refine lv_aload_n hx hb dX8_takeFromDeck_102 rfl (lv_at hl 2 rfl) ?_
        refine kc_vV0 (b := h) (As := []) (rest := []) h1 ⟨hx, hb, hml, hown, hts⟩ (cX8_measureAllM l D cy h a H.size (wC (wC (wC u67 7 ((sC u67 7) - r24)) 2 ((sC (wC u67 7 ((sC u67 7) - r24)) 2) - 1)) 14 ((sC (wC (wC u67 7 ((sC u67 7) - r24)) 2 ((sC (wC u67 7 ((sC u67 7) - r24)) 2) - 1)) 14) + 1))) (cwV 0 hts gX8_takeFromDeck_X8_measureAll rfl rfl rfl hdX8_measureAll ⟨Nat.le_of_ble_eq_true rfl, Nat.le_of_ble_eq_true rfl⟩) hK hP hD hS hA (q0 := 0) rfl rfl rfl hl.1 rfl (Nat.le_of_ble_eq_true rfl) dX8_takeFromDeck_103 ⟨Nat.zero_le _, Nat.zero_le _⟩ (fun u103 H locs h1 hP hD hS => ?_)
        exact kret_v hx hb hr hlocks hP hD hS h1 dX8_takeFromDeck_106
      · replace h1 := Ok.neg c17 h1
        exact kret_v hx hb hr hlocks hP hD hS h1 dX8_takeFromDeck_20
def fX8_takeFromDeck (p1 : Int32) (u : KS) : Option (KS) := fX8_takeFromDeck_b0 p1 u
set_option maxHeartbeats 4000000 in
set_option maxRecDepth 100000 in
theorem cX8_takeFromDeckM (l : Launch) (D : va_G) (cy : Nat → ClassId) (h : Nat) (a : Nat → Nat) (sz : Nat) (u : KS) (p1 : Int32) : ∀ (K : KS → Prop), Ok (fX8_takeFromDeck p1 u) K → Met l yX8_takeFromDeck wsX8_takeFromDeck rmX8_takeFromDeck (va_Pc [.ref h, .int p1] (kPre D cy sz (wS cy h a u))) (va_Qv K (fun q => kPost D (va_A (wS cy h a u) sz) (wS cy h a q)) (va_A (wS cy h a u) sz)) 0 0 (va_A (wS cy h a u) sz) := by
  intro K h1
  refine Met.ofW (cc := cX8_takeFromDeck) (maxL := 4) (ret := none) (by decide) rfl ?_
  intro p e s m args below meth c s₁ B hml hv
  obtain ⟨rfl, hsz, hP, hK, hD0⟩ := hv
  subst hsz
  have E : mE D cy RX8 cX8_takeFromDeck 4 none wsX8_takeFromDeck (va_A (wS cy h a u) s.heap.size) p s m _ meth c := ⟨B.exec, B.bytes, B.returns, hml, findClass_of_methodNamed B.named, atoms_spec (ws := wsX8_takeFromDeck) B.pre, B.notSynchronized, hK, fun q h => Or.inr h⟩
  have hl := lv_entry ([.ref h, .int p1]) (n := 4) (Nat.le_of_ble_eq_true rfl)
  rw [lg_entry_eq]
  generalize (lg_sl ([.ref h, .int p1]) ++ List.replicate (4 - (lg_sl ([.ref h, .int p1])).length) Slot.unset).toArray = ls at hl ⊢
  exact tX8_takeFromDeck_b0 K E p1 u _ _ _ hl hP hD0.self va_S.rf h1
