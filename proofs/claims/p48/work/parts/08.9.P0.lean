-- X9_appendText
theorem inX9_appendText_X9 : ∀ w ∈ u_ws RX9 TX9 9, w ∈ wsX9_appendText := k_lays 12 rfl
theorem lkX9_appendText_37 : Cond.fieldLink RX9 37 "FerryRamp" "parser" "LFerryRamp$Parser;" ∈ wsX9_appendText := List.mem_of_getElem? (i := 3) rfl
theorem inX9_appendText_X6 : ∀ w ∈ u_ws RX6 TX6 11, w ∈ wsX9_appendText := k_lays 21 rfl
theorem lkX9_appendText_58 : Cond.fieldLink RX9 58 "FerryRamp$Parser" "length" "I" ∈ wsX9_appendText := List.mem_of_getElem? (i := 4) rfl
theorem hdX6_addByte : yX6_addByte.cls = RX6 ∧ yX6_addByte.cls ≠ "java/lang/invoke/MethodHandle" ∧ yX6_addByte.cls ≠ "java/lang/invoke/VarHandle" ∧ (parseMethodDescriptor yX6_addByte.desc).map (fun d => d.parameters.length) = some 1 := by decide +kernel
def wF_r12 (cy : Nat → ClassId) (ad : Nat → Nat) (hh : Nat → Nat) (aa : Nat → Nat → Nat) (pa : Nat → Nat) (u : FS) : va_W := (([0, 1, 2, 3, 4, 5, 6, 7, 8, 9, 10, 11, 13, 14] : List Nat).filterMap (fun i => (wFl cy ad hh aa pa u)[i]?)).flatten
theorem wF_sel12 (cy : Nat → ClassId) (ad : Nat → Nat) (hh : Nat → Nat) (aa : Nat → Nat → Nat) (pa : Nat → Nat) (u : FS) : (wF cy ad hh aa pa u).Perm (wP cy pa (fP u) ++ wF_r12 cy ad hh aa pa u) := k_sel1 (l := wFl cy ad hh aa pa u) (n := 15) 12 [0, 1, 2, 3, 4, 5, 6, 7, 8, 9, 10, 11, 13, 14] rfl rfl (by decide)
theorem wF_uns12_0 (cy : Nat → ClassId) (ad : Nat → Nat) (hh : Nat → Nat) (aa : Nat → Nat → Nat) (pa : Nat → Nat) (u : FS) (x : PS) : (wF cy ad hh aa pa (gP u x)).Perm (wP cy pa x ++ wF_r12 cy ad hh aa pa u) := k_sel1 (l := wFl cy ad hh aa pa (gP u x)) (n := 15) 12 [0, 1, 2, 3, 4, 5, 6, 7, 8, 9, 10, 11, 13, 14] rfl rfl (by decide)
abbrev rmX9_appendText : Room := { frames := 1, cells := 0, slots := 0, locals := 21 }
def hX9_appendText_b28 (k28 : Int32 × Int32 × FS → Option (Int32 × FS)) (x1 : Int32) (x2 : Int32) (u : FS) : Option (Int32 × FS) :=
  (if x2 < 0 then some (pLe (fP u), u) else bnd (fX6_addByte (((x1.toUInt32 >>> (x2.toUInt32 &&& Int32.toUInt32 31)).toInt32) &&& 255) (fP u)) (fun u43 => k28 (x1, x2 + (-8), gP u u43)))
set_option maxHeartbeats 4000000 in
set_option maxRecDepth 100000 in
theorem tX9_appendText_b28 {p : Program} {l : Launch} {e : Env} {s : State} {m : MethodId} {args : Array Value} {below : List Frame} {meth : Method} {c : Code} {D : va_G} {cy : Nat → ClassId} {A : Nat → Prop} {ad : Nat → Nat} {hh : Nat → Nat} {aa : Nat → Nat → Nat} {pa : Nat → Nat} (K : Int32 × FS → Prop) (E : mE D cy RX9 cX9_appendText 3 (some .int) wsX9_appendText A p s m args meth c)
    (k28 : Int32 × Int32 × FS → Option (Int32 × FS)) (hk28 : ∀ (x1 : Int32) (x2 : Int32) (u : FS) (H : Heap) (locs : List Loc) (ls : Array Slot), lv_has ls 3 [(0, .ref (ad 0)), (1, .int x1), (2, .int x2)] → va_P D kCl (wF cy ad hh aa pa u) H → va_D A (wF cy ad hh aa pa u) → va_S A s.heap H locs → Ok (k28 (x1, x2, u)) K → kW p l e rmX9_appendText s m args below meth c H locs (va_Qi (fun r q => K (r, q)) (fun q => kPost D A (wF cy ad hh aa pa q)) A) A 28 ls [])
     (x1 : Int32) (x2 : Int32) (u : FS) (H : Heap) (locs : List Loc) (ls : Array Slot) (hl : lv_has ls 3 [(0, .ref (ad 0)), (1, .int x1), (2, .int x2)]) (hP : va_P D kCl (wF cy ad hh aa pa u) H) (hD : va_D A (wF cy ad hh aa pa u)) (hS : va_S A s.heap H locs) (h1 : Ok (hX9_appendText_b28 k28 x1 x2 u) K) :
    kW p l e rmX9_appendText s m args below meth c H locs (va_Qi (fun r q => K (r, q)) (fun q => kPost D A (wF cy ad hh aa pa q)) A) A 28 ls [] := by
  obtain ⟨hx, hb, hr, hml, hown, hts, hlocks, hK, hA⟩ := id E
  unfold hX9_appendText_b28 at h1
  refine lv_iload_n hx hb dX9_appendText_28 rfl (lv_at hl 2 rfl) ?_
  refine lv_if_lt (tgt := 52) hx hb dX9_appendText_29 (by decide) (fun c29 => ?_) (fun c29 => ?_)
  · replace h1 := Ok.pos c29 h1
    refine lv_aload_n hx hb dX9_appendText_52 rfl (lv_at hl 0 rfl) ?_
    refine k_get (v := .ref (pa 0)) (C := RX9) (T := TX9) (N := 9) hx hb hts inX9_appendText_X9 hown hK hP 0 (wF_c0 _ _ _ _ _ _) rfl 5 (by decide) lkX9_appendText_37 (fFs_5 _ _ _ _) dX9_appendText_53 ?_
    refine k_get (v := .int (pLe (fP u))) (C := RX6) (T := TX6) (N := 11) hx hb hts inX9_appendText_X6 hown hK hP 117 (wF_c117 _ _ _ _ _ _) rfl 1 (by decide) lkX9_appendText_58 (pFs_1 _ _) dX9_appendText_56 ?_
    exact kret_i hx hb hr hlocks hP hD hS h1 dX9_appendText_59
  · replace h1 := Ok.neg c29 h1
    refine lv_aload_n hx hb dX9_appendText_32 rfl (lv_at hl 0 rfl) ?_
    refine k_get (v := .ref (pa 0)) (C := RX9) (T := TX9) (N := 9) hx hb hts inX9_appendText_X9 hown hK hP 0 (wF_c0 _ _ _ _ _ _) rfl 5 (by decide) lkX9_appendText_37 (fFs_5 _ _ _ _) dX9_appendText_33 ?_
    refine lv_iload_n hx hb dX9_appendText_36 rfl (lv_at hl 1 rfl) ?_
    refine lv_iload_n hx hb dX9_appendText_37 rfl (lv_at hl 2 rfl) ?_
    refine lv_iushr hx hb dX9_appendText_38 rfl ?_
    refine lv_sipush (v := 255) hx hb dX9_appendText_39 rfl ?_
    refine lv_iand hx hb dX9_appendText_42 ?_
    refine kc_vV (b := (pa 0)) (As := [.int (((x1.toUInt32 >>> (x2.toUInt32 &&& Int32.toUInt32 31)).toInt32) &&& 255)]) (rest := []) h1 ⟨hx, hb, hml, hown, hts⟩ (cX6_addByteM l D cy pa H.size (fP u) (((x1.toUInt32 >>> (x2.toUInt32 &&& Int32.toUInt32 31)).toInt32) &&& 255)) (cwV 1 hts gX9_appendText_X6_addByte rfl rfl rfl hdX6_addByte ⟨Nat.le_of_ble_eq_true rfl, Nat.le_of_ble_eq_true rfl⟩) hK (wF_sel12 _ _ _ _ _ _) hP hD hS hA (q0 := 0) rfl rfl rfl hl.1 rfl (Nat.le_of_ble_eq_true rfl) dX9_appendText_43 ⟨Nat.zero_le _, Nat.zero_le _⟩ (fun u43 H locs h1 hP hD hS => ?_)
    replace hP := kP_perm (wF_uns12_0 cy ad hh aa pa u u43).symm hP
    replace hD := kD_perm (wF_uns12_0 cy ad hh aa pa u u43).symm hD
    refine lv_iinc (v := x2 + (-8)) (lv' := [(2, .int (x2 + (-8))), (0, .ref (ad 0)), (1, .int x1)]) hx hb dX9_appendText_46 hl (k := 2) rfl rfl (by decide) rfl (fun ls hl => ?_)
    refine lv_goto (tgt := 28) hx hb dX9_appendText_49 (by decide) ?_
    exact hk28 x1 (x2 + (-8)) (gP u u43) H locs ls (lv_sub hl [1, 2, 0] rfl) hP hD hS h1
theorem tX9_appendText_l28 {p : Program} {l : Launch} {e : Env} {s : State} {m : MethodId} {args : Array Value} {below : List Frame} {meth : Method} {c : Code} {D : va_G} {cy : Nat → ClassId} {A : Nat → Prop} {ad : Nat → Nat} {hh : Nat → Nat} {aa : Nat → Nat → Nat} {pa : Nat → Nat} (K : Int32 × FS → Prop) (E : mE D cy RX9 cX9_appendText 3 (some .int) wsX9_appendText A p s m args meth c) : ∀ (n9 : Nat) (x1 : Int32) (x2 : Int32) (u : FS) (H : Heap) (locs : List Loc) (ls : Array Slot), lv_has ls 3 [(0, .ref (ad 0)), (1, .int x1), (2, .int x2)] → va_P D kCl (wF cy ad hh aa pa u) H → va_D A (wF cy ad hh aa pa u) → va_S A s.heap H locs → Ok (lop (fun y z => hX9_appendText_b28 y z.1 z.2.1 z.2.2) n9 (x1, x2, u)) K → kW p l e rmX9_appendText s m args below meth c H locs (va_Qi (fun r q => K (r, q)) (fun q => kPost D A (wF cy ad hh aa pa q)) A) A 28 ls [] := by
  intro n9
  induction n9 with
  | zero =>
    intro x1 x2 u H locs ls hl hP hD hS h1
    exact h1.no
  | succ n9 ih =>
    intro x1 x2 u H locs ls hl hP hD hS h1
    exact tX9_appendText_b28 K E (lop (fun y z => hX9_appendText_b28 y z.1 z.2.1 z.2.2) n9) (fun x1 x2 u H locs ls hl hP hD hS h1 => ih x1 x2 u H locs ls hl hP hD hS h1) x1 x2 u H locs ls hl hP hD hS h1
def hX9_appendText_b0 (x1 : Int32) (u : FS) : Option (Int32 × FS) :=
  (if ((pLe (fP u)) + 4) ≤ 500 then lop (fun y z => hX9_appendText_b28 y z.1 z.2.1 z.2.2) LF (x1, 24, u) else none)
set_option maxHeartbeats 4000000 in
set_option maxRecDepth 100000 in
theorem tX9_appendText_b0 {p : Program} {l : Launch} {e : Env} {s : State} {m : MethodId} {args : Array Value} {below : List Frame} {meth : Method} {c : Code} {D : va_G} {cy : Nat → ClassId} {A : Nat → Prop} {ad : Nat → Nat} {hh : Nat → Nat} {aa : Nat → Nat → Nat} {pa : Nat → Nat} (K : Int32 × FS → Prop) (E : mE D cy RX9 cX9_appendText 3 (some .int) wsX9_appendText A p s m args meth c)
     (x1 : Int32) (u : FS) (H : Heap) (locs : List Loc) (ls : Array Slot) (hl : lv_has ls 3 [(0, .ref (ad 0)), (1, .int x1)]) (hP : va_P D kCl (wF cy ad hh aa pa u) H) (hD : va_D A (wF cy ad hh aa pa u)) (hS : va_S A s.heap H locs) (h1 : Ok (hX9_appendText_b0 x1 u) K) :
    kW p l e rmX9_appendText s m args below meth c H locs (va_Qi (fun r q => K (r, q)) (fun q => kPost D A (wF cy ad hh aa pa q)) A) A 0 ls [] := by
  obtain ⟨hx, hb, hr, hml, hown, hts, hlocks, hK, hA⟩ := id E
  unfold hX9_appendText_b0 at h1
  refine lv_aload_n hx hb dX9_appendText_0 rfl (lv_at hl 0 rfl) ?_
  refine k_get (v := .ref (pa 0)) (C := RX9) (T := TX9) (N := 9) hx hb hts inX9_appendText_X9 hown hK hP 0 (wF_c0 _ _ _ _ _ _) rfl 5 (by decide) lkX9_appendText_37 (fFs_5 _ _ _ _) dX9_appendText_1 ?_
  refine k_get (v := .int (pLe (fP u))) (C := RX6) (T := TX6) (N := 11) hx hb hts inX9_appendText_X6 hown hK hP 117 (wF_c117 _ _ _ _ _ _) rfl 1 (by decide) lkX9_appendText_58 (pFs_1 _ _) dX9_appendText_4 ?_
  refine lv_iconst (v := 4) hx hb dX9_appendText_7 rfl ?_
  refine lv_iadd hx hb dX9_appendText_8 ?_
  refine lv_sipush (v := 500) hx hb dX9_appendText_9 rfl ?_
  refine lv_icmp_le (tgt := 25) hx hb dX9_appendText_12 (by decide) (fun c12 => ?_) (fun c12 => ?_)
  · replace h1 := Ok.pos c12 h1
    refine lv_bipush (v := 24) hx hb dX9_appendText_25 rfl ?_
    refine lv_istore_n (lv' := [(2, .int 24), (0, .ref (ad 0)), (1, .int x1)]) hx hb dX9_appendText_27 rfl hl (by decide) rfl (fun ls hl => ?_)
    exact tX9_appendText_l28 K E LF x1 24 u H locs ls (lv_sub hl [1, 2, 0] rfl) hP hD hS h1
  · replace h1 := Ok.neg c12 h1
    exact h1.no
def hX9_appendText (p1 : Int32) (u : FS) : Option (Int32 × FS) := hX9_appendText_b0 p1 u
set_option maxHeartbeats 4000000 in
set_option maxRecDepth 100000 in
theorem cX9_appendTextM (l : Launch) (D : va_G) (cy : Nat → ClassId) (ad : Nat → Nat) (hh : Nat → Nat) (aa : Nat → Nat → Nat) (pa : Nat → Nat) (sz : Nat) (u : FS) (p1 : Int32) : ∀ (K : Int32 → FS → Prop), Ok (hX9_appendText p1 u) (fun q => K q.1 q.2) → Met l yX9_appendText wsX9_appendText rmX9_appendText (va_Pc [.ref (ad 0), .int p1] (kPre D cy sz (wF cy ad hh aa pa u))) (va_Qi K (fun q => kPost D (va_A (wF cy ad hh aa pa u) sz) (wF cy ad hh aa pa q)) (va_A (wF cy ad hh aa pa u) sz)) 0 0 (va_A (wF cy ad hh aa pa u) sz) := by
  intro K h1
  refine Met.ofW (cc := cX9_appendText) (maxL := 3) (ret := (some .int)) (by decide) rfl ?_
  intro p e s m args below meth c s₁ B hml hv
  obtain ⟨rfl, hsz, hP, hK, hD0⟩ := hv
  subst hsz
  have E : mE D cy RX9 cX9_appendText 3 (some .int) wsX9_appendText (va_A (wF cy ad hh aa pa u) s.heap.size) p s m _ meth c := ⟨B.exec, B.bytes, B.returns, hml, findClass_of_methodNamed B.named, atoms_spec (ws := wsX9_appendText) B.pre, B.notSynchronized, hK, fun q h => Or.inr h⟩
  have hl := lv_entry ([.ref (ad 0), .int p1]) (n := 3) (Nat.le_of_ble_eq_true rfl)
  rw [lg_entry_eq]
  generalize (lg_sl ([.ref (ad 0), .int p1]) ++ List.replicate (3 - (lg_sl ([.ref (ad 0), .int p1])).length) Slot.unset).toArray = ls at hl ⊢
  exact tX9_appendText_b0 (fun q => K q.1 q.2) E p1 u _ _ _ hl hP hD0.self va_S.rf h1
-- X9_truncateText
theorem inX9_truncateText_X9 : ∀ w ∈ u_ws RX9 TX9 9, w ∈ wsX9_truncateText := k_lays 5 rfl
theorem lkX9_truncateText_37 : Cond.fieldLink RX9 37 "FerryRamp" "parser" "LFerryRamp$Parser;" ∈ wsX9_truncateText := List.mem_of_getElem? (i := 3) rfl
theorem inX9_truncateText_X6 : ∀ w ∈ u_ws RX6 TX6 11, w ∈ wsX9_truncateText := k_lays 14 rfl
theorem lkX9_truncateText_58 : Cond.fieldLink RX9 58 "FerryRamp$Parser" "length" "I" ∈ wsX9_truncateText := List.mem_of_getElem? (i := 4) rfl
abbrev rmX9_truncateText : Room := { frames := 0, cells := 0, slots := 0, locals := 0 }
def hX9_truncateText_b15 (u : FS) : Option (Int32 × FS) :=
  none
set_option maxHeartbeats 4000000 in
set_option maxRecDepth 100000 in
theorem tX9_truncateText_b15 {p : Program} {l : Launch} {e : Env} {s : State} {m : MethodId} {args : Array Value} {below : List Frame} {meth : Method} {c : Code} {D : va_G} {cy : Nat → ClassId} {A : Nat → Prop} {ad : Nat → Nat} {hh : Nat → Nat} {aa : Nat → Nat → Nat} {pa : Nat → Nat} (K : Int32 × FS → Prop) (E : mE D cy RX9 cX9_truncateText 2 (some .int) wsX9_truncateText A p s m args meth c)
     (u : FS) (H : Heap) (locs : List Loc) (ls : Array Slot) (hl : lv_has ls 2 []) (hP : va_P D kCl (wF cy ad hh aa pa u) H) (hD : va_D A (wF cy ad hh aa pa u)) (hS : va_S A s.heap H locs) (h1 : Ok (hX9_truncateText_b15 u) K) :
    kW p l e rmX9_truncateText s m args below meth c H locs (va_Qi (fun r q => K (r, q)) (fun q => kPost D A (wF cy ad hh aa pa q)) A) A 15 ls [] := by
  obtain ⟨hx, hb, hr, hml, hown, hts, hlocks, hK, hA⟩ := id E
  unfold hX9_truncateText_b15 at h1
  exact h1.no
def hX9_truncateText_b0 (x1 : Int32) (u : FS) : Option (Int32 × FS) :=
  (if x1 < 0 then hX9_truncateText_b15 u else (if x1 ≤ (pLe (fP u)) then some (x1, gP u (tLe (fP u) x1)) else hX9_truncateText_b15 u))
set_option maxHeartbeats 4000000 in
set_option maxRecDepth 100000 in
theorem tX9_truncateText_b0 {p : Program} {l : Launch} {e : Env} {s : State} {m : MethodId} {args : Array Value} {below : List Frame} {meth : Method} {c : Code} {D : va_G} {cy : Nat → ClassId} {A : Nat → Prop} {ad : Nat → Nat} {hh : Nat → Nat} {aa : Nat → Nat → Nat} {pa : Nat → Nat} (K : Int32 × FS → Prop) (E : mE D cy RX9 cX9_truncateText 2 (some .int) wsX9_truncateText A p s m args meth c)
     (x1 : Int32) (u : FS) (H : Heap) (locs : List Loc) (ls : Array Slot) (hl : lv_has ls 2 [(0, .ref (ad 0)), (1, .int x1)]) (hP : va_P D kCl (wF cy ad hh aa pa u) H) (hD : va_D A (wF cy ad hh aa pa u)) (hS : va_S A s.heap H locs) (h1 : Ok (hX9_truncateText_b0 x1 u) K) :
    kW p l e rmX9_truncateText s m args below meth c H locs (va_Qi (fun r q => K (r, q)) (fun q => kPost D A (wF cy ad hh aa pa q)) A) A 0 ls [] := by
  obtain ⟨hx, hb, hr, hml, hown, hts, hlocks, hK, hA⟩ := id E
  unfold hX9_truncateText_b0 at h1
  refine lv_iload_n hx hb dX9_truncateText_0 rfl (lv_at hl 1 rfl) ?_
  refine lv_if_lt (tgt := 15) hx hb dX9_truncateText_1 (by decide) (fun c1 => ?_) (fun c1 => ?_)
  · replace h1 := Ok.pos c1 h1
    exact tX9_truncateText_b15 K E u H locs ls (lv_sub hl [] rfl) hP hD hS h1
  · replace h1 := Ok.neg c1 h1
    refine lv_iload_n hx hb dX9_truncateText_4 rfl (lv_at hl 1 rfl) ?_
    refine lv_aload_n hx hb dX9_truncateText_5 rfl (lv_at hl 0 rfl) ?_
    refine k_get (v := .ref (pa 0)) (C := RX9) (T := TX9) (N := 9) hx hb hts inX9_truncateText_X9 hown hK hP 0 (wF_c0 _ _ _ _ _ _) rfl 5 (by decide) lkX9_truncateText_37 (fFs_5 _ _ _ _) dX9_truncateText_6 ?_
    refine k_get (v := .int (pLe (fP u))) (C := RX6) (T := TX6) (N := 11) hx hb hts inX9_truncateText_X6 hown hK hP 117 (wF_c117 _ _ _ _ _ _) rfl 1 (by decide) lkX9_truncateText_58 (pFs_1 _ _) dX9_truncateText_9 ?_
    refine lv_icmp_le (tgt := 25) hx hb dX9_truncateText_12 (by decide) (fun c12 => ?_) (fun c12 => ?_)
    · replace h1 := Ok.pos c12 h1
      refine lv_aload_n hx hb dX9_truncateText_25 rfl (lv_at hl 0 rfl) ?_
      refine k_get (v := .ref (pa 0)) (C := RX9) (T := TX9) (N := 9) hx hb hts inX9_truncateText_X9 hown hK hP 0 (wF_c0 _ _ _ _ _ _) rfl 5 (by decide) lkX9_truncateText_37 (fFs_5 _ _ _ _) dX9_truncateText_26 ?_
      refine lv_iload_n hx hb dX9_truncateText_29 rfl (lv_at hl 1 rfl) ?_
      refine k_put (v := .int x1) (ty := .int) (C := RX6) (T := TX6) (N := 11) hx hb hts inX9_truncateText_X6 tyX6 tyX6_ok nmX6 hown hK hP hD hS 117 (wF_c117 _ _ _ _ _ _) rfl 1 (by decide) lkX9_truncateText_58 rfl (by decide +kernel) rfl rfl (Nat.le_of_ble_eq_true rfl) (ws' := wF cy ad hh aa pa (gP u (tLe (fP u) x1))) (wF_s117_1 _ _ _ _ _ _ _) dX9_truncateText_30 (fun H locs hP hD hS => ?_)
      refine lv_iload_n hx hb dX9_truncateText_33 rfl (lv_at hl 1 rfl) ?_
      exact kret_i hx hb hr hlocks hP hD hS h1 dX9_truncateText_34
    · replace h1 := Ok.neg c12 h1
      exact tX9_truncateText_b15 K E u H locs ls (lv_sub hl [] rfl) hP hD hS h1
def hX9_truncateText (p1 : Int32) (u : FS) : Option (Int32 × FS) := hX9_truncateText_b0 p1 u
set_option maxHeartbeats 4000000 in
set_option maxRecDepth 100000 in
theorem cX9_truncateTextM (l : Launch) (D : va_G) (cy : Nat → ClassId) (ad : Nat → Nat) (hh : Nat → Nat) (aa : Nat → Nat → Nat) (pa : Nat → Nat) (sz : Nat) (u : FS) (p1 : Int32) : ∀ (K : Int32 → FS → Prop), Ok (hX9_truncateText p1 u) (fun q => K q.1 q.2) → Met l yX9_truncateText wsX9_truncateText rmX9_truncateText (va_Pc [.ref (ad 0), .int p1] (kPre D cy sz (wF cy ad hh aa pa u))) (va_Qi K (fun q => kPost D (va_A (wF cy ad hh aa pa u) sz) (wF cy ad hh aa pa q)) (va_A (wF cy ad hh aa pa u) sz)) 0 0 (va_A (wF cy ad hh aa pa u) sz) := by
  intro K h1
  refine Met.ofW (cc := cX9_truncateText) (maxL := 2) (ret := (some .int)) (by decide) rfl ?_
  intro p e s m args below meth c s₁ B hml hv
  obtain ⟨rfl, hsz, hP, hK, hD0⟩ := hv
  subst hsz
  have E : mE D cy RX9 cX9_truncateText 2 (some .int) wsX9_truncateText (va_A (wF cy ad hh aa pa u) s.heap.size) p s m _ meth c := ⟨B.exec, B.bytes, B.returns, hml, findClass_of_methodNamed B.named, atoms_spec (ws := wsX9_truncateText) B.pre, B.notSynchronized, hK, fun q h => Or.inr h⟩
  have hl := lv_entry ([.ref (ad 0), .int p1]) (n := 2) (Nat.le_of_ble_eq_true rfl)
  rw [lg_entry_eq]
  generalize (lg_sl ([.ref (ad 0), .int p1]) ++ List.replicate (2 - (lg_sl ([.ref (ad 0), .int p1])).length) Slot.unset).toArray = ls at hl ⊢
  exact tX9_truncateText_b0 (fun q => K q.1 q.2) E p1 u _ _ _ hl hP hD0.self va_S.rf h1
-- X9_count
theorem inX9_count_X9 : ∀ w ∈ u_ws RX9 TX9 9, w ∈ wsX9_count := k_lays 7 rfl
theorem lkX9_count_10 : Cond.fieldLink RX9 10 "FerryRamp" "now" "LFerryRamp$State;" ∈ wsX9_count := List.mem_of_getElem? (i := 5) rfl
theorem inX9_count_X8 : ∀ w ∈ u_ws RX8 TX8 13, w ∈ wsX9_count := k_lays 19 rfl
theorem lkX9_count_87 : Cond.fieldLink RX9 87 "FerryRamp$State" "counts" "[I" ∈ wsX9_count := List.mem_of_getElem? (i := 6) rfl
theorem lkX9_count_22 : Cond.fieldLink RX9 22 "FerryRamp" "history" "LFerryRamp$History;" ∈ wsX9_count := List.mem_of_getElem? (i := 3) rfl
theorem inX9_count_X4 : ∀ w ∈ u_ws RX4 TX4 3, w ∈ wsX9_count := k_lays 16 rfl
theorem wF_c27 (cy : Nat → ClassId) (ad : Nat → Nat) (hh : Nat → Nat) (aa : Nat → Nat → Nat) (pa : Nat → Nat) (u : FS) : (wF cy ad hh aa pa u)[27]? = some ((ad 5), .inr (0, [.ref (ad 6), .int (fX u), .int (fY u)])) := fl_atj (l := wFl cy ad hh aa pa u) (j := 3) (q := 0) rfl rfl rfl
theorem lkX9_count_109 : Cond.fieldLink RX9 109 "FerryRamp$History" "many" "I" ∈ wsX9_count := List.mem_of_getElem? (i := 4) rfl
abbrev rmX9_count : Room := { frames := 0, cells := 0, slots := 0, locals := 0 }
def hX9_count_b24 (u : FS) : Option (Int32) :=
  none
set_option maxHeartbeats 4000000 in
set_option maxRecDepth 100000 in
theorem tX9_count_b24 {p : Program} {l : Launch} {e : Env} {s : State} {m : MethodId} {args : Array Value} {below : List Frame} {meth : Method} {c : Code} {D : va_G} {cy : Nat → ClassId} {A : Nat → Prop} {ad : Nat → Nat} {hh : Nat → Nat} {aa : Nat → Nat → Nat} {pa : Nat → Nat} (K : Int32 → Prop) (E : mE D cy RX9 cX9_count 2 (some .int) wsX9_count A p s m args meth c) (u : FS)
     (H : Heap) (locs : List Loc) (ls : Array Slot) (hl : lv_has ls 2 []) (hP : va_P D kCl (wF cy ad hh aa pa u) H) (hD : va_D A (wF cy ad hh aa pa u)) (hS : va_S A s.heap H locs) (h1 : Ok (hX9_count_b24 u) K) :
    kW p l e rmX9_count s m args below meth c H locs (va_Qi (fun r (_ : Unit) => K r) (fun _ => kPost D A (wF cy ad hh aa pa u)) A) A 24 ls [] := by
  obtain ⟨hx, hb, hr, hml, hown, hts, hlocks, hK, hA⟩ := id E
  unfold hX9_count_b24 at h1
  exact h1.no
def hX9_count_b0 (x1 : Int32) (u : FS) : Option (Int32) :=
  (if x1 = 17 then some (fY u) else (if x1 < 0 then hX9_count_b24 u else (if x1 ≤ 17 then grd (inb x1 17) (some (sC (fN u) (ix x1))) else hX9_count_b24 u)))
set_option maxHeartbeats 4000000 in
set_option maxRecDepth 100000 in
theorem tX9_count_b0 {p : Program} {l : Launch} {e : Env} {s : State} {m : MethodId} {args : Array Value} {below : List Frame} {meth : Method} {c : Code} {D : va_G} {cy : Nat → ClassId} {A : Nat → Prop} {ad : Nat → Nat} {hh : Nat → Nat} {aa : Nat → Nat → Nat} {pa : Nat → Nat} (K : Int32 → Prop) (E : mE D cy RX9 cX9_count 2 (some .int) wsX9_count A p s m args meth c) (u : FS)
     (x1 : Int32) (H : Heap) (locs : List Loc) (ls : Array Slot) (hl : lv_has ls 2 [(0, .ref (ad 0)), (1, .int x1)]) (hP : va_P D kCl (wF cy ad hh aa pa u) H) (hD : va_D A (wF cy ad hh aa pa u)) (hS : va_S A s.heap H locs) (h1 : Ok (hX9_count_b0 x1 u) K) :
    kW p l e rmX9_count s m args below meth c H locs (va_Qi (fun r (_ : Unit) => K r) (fun _ => kPost D A (wF cy ad hh aa pa u)) A) A 0 ls [] := by
  obtain ⟨hx, hb, hr, hml, hown, hts, hlocks, hK, hA⟩ := id E
  unfold hX9_count_b0 at h1
  refine lv_iload_n hx hb dX9_count_0 rfl (lv_at hl 1 rfl) ?_
  refine lv_bipush (v := 17) hx hb dX9_count_1 rfl ?_
  refine lv_icmp_ne (tgt := 14) hx hb dX9_count_3 (by decide) (fun c3 => ?_) (fun c3 => ?_)
  · replace h1 := Ok.neg c3 h1
    refine lv_iload_n hx hb dX9_count_14 rfl (lv_at hl 1 rfl) ?_
    refine lv_if_lt (tgt := 24) hx hb dX9_count_15 (by decide) (fun c15 => ?_) (fun c15 => ?_)
    · replace h1 := Ok.pos c15 h1
      exact tX9_count_b24 K E u H locs ls (lv_sub hl [] rfl) hP hD hS h1
    · replace h1 := Ok.neg c15 h1
      refine lv_iload_n hx hb dX9_count_18 rfl (lv_at hl 1 rfl) ?_
      refine lv_bipush (v := 17) hx hb dX9_count_19 rfl ?_
      refine lv_icmp_le (tgt := 34) hx hb dX9_count_21 (by decide) (fun c21 => ?_) (fun c21 => ?_)
      · replace h1 := Ok.pos c21 h1
        refine lv_aload_n hx hb dX9_count_34 rfl (lv_at hl 0 rfl) ?_
        refine k_get (v := .ref (hh 0)) (C := RX9) (T := TX9) (N := 9) hx hb hts inX9_count_X9 hown hK hP 0 (wF_c0 _ _ _ _ _ _) rfl 0 (by decide) lkX9_count_10 (fFs_0 _ _ _ _) dX9_count_35 ?_
        refine k_get (v := .ref ((aa 0) 0)) (C := RX8) (T := TX8) (N := 13) hx hb hts inX9_count_X8 hown hK hP 5 (wF_c5 _ _ _ _ _ _) rfl 0 (by decide) lkX9_count_87 (sFs_0 _ _) dX9_count_38 ?_
        refine lv_iload_n hx hb dX9_count_41 rfl (lv_at hl 1 rfl) ?_
        have g42 := h1.grd1
        replace h1 := h1.grd2
        refine k_iald (k := (ix x1)) hx hb hK hP 6 (wF_c6 _ _ _ _ _ _) g42 rfl dX9_count_42 ?_
        exact kret_r hx hb hr hlocks hP hD hS h1 dX9_count_43
      · replace h1 := Ok.neg c21 h1
        exact tX9_count_b24 K E u H locs ls (lv_sub hl [] rfl) hP hD hS h1
  · replace h1 := Ok.pos c3 h1
    refine lv_aload_n hx hb dX9_count_6 rfl (lv_at hl 0 rfl) ?_
    refine k_get (v := .ref (ad 5)) (C := RX9) (T := TX9) (N := 9) hx hb hts inX9_count_X9 hown hK hP 0 (wF_c0 _ _ _ _ _ _) rfl 2 (by decide) lkX9_count_22 (fFs_2 _ _ _ _) dX9_count_7 ?_
    refine k_get (v := .int (fY u)) (C := RX4) (T := TX4) (N := 3) hx hb hts inX9_count_X4 hown hK hP 27 (wF_c27 _ _ _ _ _ _) rfl 2 (by decide) lkX9_count_109 rfl dX9_count_10 ?_
    exact kret_r hx hb hr hlocks hP hD hS h1 dX9_count_13
def hX9_count (p1 : Int32) (u : FS) : Option (Int32) := hX9_count_b0 p1 u
set_option maxHeartbeats 4000000 in
set_option maxRecDepth 100000 in
theorem cX9_countM (l : Launch) (D : va_G) (cy : Nat → ClassId) (ad : Nat → Nat) (hh : Nat → Nat) (aa : Nat → Nat → Nat) (pa : Nat → Nat) (sz : Nat) (u : FS) (p1 : Int32) : ∀ (K : Int32 → Prop), Ok (hX9_count p1 u) K → Met l yX9_count wsX9_count rmX9_count (va_Pc [.ref (ad 0), .int p1] (kPre D cy sz (wF cy ad hh aa pa u))) (va_Qi (fun r (_ : Unit) => K r) (fun _ => kPost D (va_A (wF cy ad hh aa pa u) sz) (wF cy ad hh aa pa u)) (va_A (wF cy ad hh aa pa u) sz)) 0 0 (va_A (wF cy ad hh aa pa u) sz) := by
  intro K h1
  refine Met.ofW (cc := cX9_count) (maxL := 2) (ret := (some .int)) (by decide) rfl ?_
  intro p e s m args below meth c s₁ B hml hv
  obtain ⟨rfl, hsz, hP, hK, hD0⟩ := hv
  subst hsz
  have E : mE D cy RX9 cX9_count 2 (some .int) wsX9_count (va_A (wF cy ad hh aa pa u) s.heap.size) p s m _ meth c := ⟨B.exec, B.bytes, B.returns, hml, findClass_of_methodNamed B.named, atoms_spec (ws := wsX9_count) B.pre, B.notSynchronized, hK, fun q h => Or.inr h⟩
  have hl := lv_entry ([.ref (ad 0), .int p1]) (n := 2) (Nat.le_of_ble_eq_true rfl)
  rw [lg_entry_eq]
  generalize (lg_sl ([.ref (ad 0), .int p1]) ++ List.replicate (2 - (lg_sl ([.ref (ad 0), .int p1])).length) Slot.unset).toArray = ls at hl ⊢
  exact tX9_count_b0 K E u p1 _ _ _ hl hP hD0.self va_S.rf h1
-- X9_setting
theorem inX9_setting_X9 : ∀ w ∈ u_ws RX9 TX9 9, w ∈ wsX9_setting := k_lays 5 rfl
theorem lkX9_setting_10 : Cond.fieldLink RX9 10 "FerryRamp" "now" "LFerryRamp$State;" ∈ wsX9_setting := List.mem_of_getElem? (i := 3) rfl
theorem inX9_setting_X8 : ∀ w ∈ u_ws RX8 TX8 13, w ∈ wsX9_setting := k_lays 14 rfl
theorem lkX9_setting_116 : Cond.fieldLink RX9 116 "FerryRamp$State" "settings" "[I" ∈ wsX9_setting := List.mem_of_getElem? (i := 4) rfl
abbrev rmX9_setting : Room := { frames := 0, cells := 0, slots := 0, locals := 0 }
def hX9_setting_b10 (u : FS) : Option (Int32) :=
  none
set_option maxHeartbeats 4000000 in
set_option maxRecDepth 100000 in
theorem tX9_setting_b10 {p : Program} {l : Launch} {e : Env} {s : State} {m : MethodId} {args : Array Value} {below : List Frame} {meth : Method} {c : Code} {D : va_G} {cy : Nat → ClassId} {A : Nat → Prop} {ad : Nat → Nat} {hh : Nat → Nat} {aa : Nat → Nat → Nat} {pa : Nat → Nat} (K : Int32 → Prop) (E : mE D cy RX9 cX9_setting 2 (some .int) wsX9_setting A p s m args meth c) (u : FS)
     (H : Heap) (locs : List Loc) (ls : Array Slot) (hl : lv_has ls 2 []) (hP : va_P D kCl (wF cy ad hh aa pa u) H) (hD : va_D A (wF cy ad hh aa pa u)) (hS : va_S A s.heap H locs) (h1 : Ok (hX9_setting_b10 u) K) :
    kW p l e rmX9_setting s m args below meth c H locs (va_Qi (fun r (_ : Unit) => K r) (fun _ => kPost D A (wF cy ad hh aa pa u)) A) A 10 ls [] := by
  obtain ⟨hx, hb, hr, hml, hown, hts, hlocks, hK, hA⟩ := id E
  unfold hX9_setting_b10 at h1
  exact h1.no
def hX9_setting_b0 (x1 : Int32) (u : FS) : Option (Int32) :=
  (if x1 < 0 then hX9_setting_b10 u else (if x1 < 14 then grd (inb x1 14) (some (sT (fN u) (ix x1))) else hX9_setting_b10 u))
set_option maxHeartbeats 4000000 in
set_option maxRecDepth 100000 in
theorem tX9_setting_b0 {p : Program} {l : Launch} {e : Env} {s : State} {m : MethodId} {args : Array Value} {below : List Frame} {meth : Method} {c : Code} {D : va_G} {cy : Nat → ClassId} {A : Nat → Prop} {ad : Nat → Nat} {hh : Nat → Nat} {aa : Nat → Nat → Nat} {pa : Nat → Nat} (K : Int32 → Prop) (E : mE D cy RX9 cX9_setting 2 (some .int) wsX9_setting A p s m args meth c) (u : FS)
     (x1 : Int32) (H : Heap) (locs : List Loc) (ls : Array Slot) (hl : lv_has ls 2 [(0, .ref (ad 0)), (1, .int x1)]) (hP : va_P D kCl (wF cy ad hh aa pa u) H) (hD : va_D A (wF cy ad hh aa pa u)) (hS : va_S A s.heap H locs) (h1 : Ok (hX9_setting_b0 x1 u) K) :
    kW p l e rmX9_setting s m args below meth c H locs (va_Qi (fun r (_ : Unit) => K r) (fun _ => kPost D A (wF cy ad hh aa pa u)) A) A 0 ls [] := by
  obtain ⟨hx, hb, hr, hml, hown, hts, hlocks, hK, hA⟩ := id E
  unfold hX9_setting_b0 at h1
  refine lv_iload_n hx hb dX9_setting_0 rfl (lv_at hl 1 rfl) ?_
  refine lv_if_lt (tgt := 10) hx hb dX9_setting_1 (by decide) (fun c1 => ?_) (fun c1 => ?_)
  · replace h1 := Ok.pos c1 h1
    exact tX9_setting_b10 K E u H locs ls (lv_sub hl [] rfl) hP hD hS h1
  · replace h1 := Ok.neg c1 h1
    refine lv_iload_n hx hb dX9_setting_4 rfl (lv_at hl 1 rfl) ?_
    refine lv_bipush (v := 14) hx hb dX9_setting_5 rfl ?_
    refine lv_icmp_lt (tgt := 20) hx hb dX9_setting_7 (by decide) (fun c7 => ?_) (fun c7 => ?_)
    · replace h1 := Ok.pos c7 h1
      refine lv_aload_n hx hb dX9_setting_20 rfl (lv_at hl 0 rfl) ?_
      refine k_get (v := .ref (hh 0)) (C := RX9) (T := TX9) (N := 9) hx hb hts inX9_setting_X9 hown hK hP 0 (wF_c0 _ _ _ _ _ _) rfl 0 (by decide) lkX9_setting_10 (fFs_0 _ _ _ _) dX9_setting_21 ?_
      refine k_get (v := .ref ((aa 0) 1)) (C := RX8) (T := TX8) (N := 13) hx hb hts inX9_setting_X8 hown hK hP 5 (wF_c5 _ _ _ _ _ _) rfl 1 (by decide) lkX9_setting_116 (sFs_1 _ _) dX9_setting_24 ?_
      refine lv_iload_n hx hb dX9_setting_27 rfl (lv_at hl 1 rfl) ?_
      have g28 := h1.grd1
      replace h1 := h1.grd2
      refine k_iald (k := (ix x1)) hx hb hK hP 7 (wF_c7 _ _ _ _ _ _) g28 rfl dX9_setting_28 ?_
      exact kret_r hx hb hr hlocks hP hD hS h1 dX9_setting_29
    · replace h1 := Ok.neg c7 h1
      exact tX9_setting_b10 K E u H locs ls (lv_sub hl [] rfl) hP hD hS h1
def hX9_setting (p1 : Int32) (u : FS) : Option (Int32) := hX9_setting_b0 p1 u
set_option maxHeartbeats 4000000 in
set_option maxRecDepth 100000 in
theorem cX9_settingM (l : Launch) (D : va_G) (cy : Nat → ClassId) (ad : Nat → Nat) (hh : Nat → Nat) (aa : Nat → Nat → Nat) (pa : Nat → Nat) (sz : Nat) (u : FS) (p1 : Int32) : ∀ (K : Int32 → Prop), Ok (hX9_setting p1 u) K → Met l yX9_setting wsX9_setting rmX9_setting (va_Pc [.ref (ad 0), .int p1] (kPre D cy sz (wF cy ad hh aa pa u))) (va_Qi (fun r (_ : Unit) => K r) (fun _ => kPost D (va_A (wF cy ad hh aa pa u) sz) (wF cy ad hh aa pa u)) (va_A (wF cy ad hh aa pa u) sz)) 0 0 (va_A (wF cy ad hh aa pa u) sz) := by
  intro K h1
  refine Met.ofW (cc := cX9_setting) (maxL := 2) (ret := (some .int)) (by decide) rfl ?_
  intro p e s m args below meth c s₁ B hml hv
  obtain ⟨rfl, hsz, hP, hK, hD0⟩ := hv
  subst hsz
  have E : mE D cy RX9 cX9_setting 2 (some .int) wsX9_setting (va_A (wF cy ad hh aa pa u) s.heap.size) p s m _ meth c := ⟨B.exec, B.bytes, B.returns, hml, findClass_of_methodNamed B.named, atoms_spec (ws := wsX9_setting) B.pre, B.notSynchronized, hK, fun q h => Or.inr h⟩
  have hl := lv_entry ([.ref (ad 0), .int p1]) (n := 2) (Nat.le_of_ble_eq_true rfl)
  rw [lg_entry_eq]
  generalize (lg_sl ([.ref (ad 0), .int p1]) ++ List.replicate (2 - (lg_sl ([.ref (ad 0), .int p1])).length) Slot.unset).toArray = ls at hl ⊢
  exact tX9_setting_b0 K E u p1 _ _ _ hl hP hD0.self va_S.rf h1
-- X9_kind
theorem inX9_kind_X9 : ∀ w ∈ u_ws RX9 TX9 9, w ∈ wsX9_kind := k_lays 12 rfl
theorem lkX9_kind_10 : Cond.fieldLink RX9 10 "FerryRamp" "now" "LFerryRamp$State;" ∈ wsX9_kind := List.mem_of_getElem? (i := 5) rfl
abbrev rmX9_kind : Room := { frames := 1, cells := 0, slots := 0, locals := 23 }
def hX9_kind_b9 (u : FS) : Option (Int32) :=
  none
set_option maxHeartbeats 4000000 in
set_option maxRecDepth 100000 in
theorem tX9_kind_b9 {p : Program} {l : Launch} {e : Env} {s : State} {m : MethodId} {args : Array Value} {below : List Frame} {meth : Method} {c : Code} {D : va_G} {cy : Nat → ClassId} {A : Nat → Prop} {ad : Nat → Nat} {hh : Nat → Nat} {aa : Nat → Nat → Nat} {pa : Nat → Nat} (K : Int32 → Prop) (E : mE D cy RX9 cX9_kind 3 (some .int) wsX9_kind A p s m args meth c) (u : FS)
     (H : Heap) (locs : List Loc) (ls : Array Slot) (hl : lv_has ls 3 []) (hP : va_P D kCl (wF cy ad hh aa pa u) H) (hD : va_D A (wF cy ad hh aa pa u)) (hS : va_S A s.heap H locs) (h1 : Ok (hX9_kind_b9 u) K) :
    kW p l e rmX9_kind s m args below meth c H locs (va_Qi (fun r (_ : Unit) => K r) (fun _ => kPost D A (wF cy ad hh aa pa u)) A) A 9 ls [] := by
  obtain ⟨hx, hb, hr, hml, hown, hts, hlocks, hK, hA⟩ := id E
  unfold hX9_kind_b9 at h1
  exact h1.no
def hX9_kind_b28 (u : FS) : Option (Int32) :=
  none
set_option maxHeartbeats 4000000 in
set_option maxRecDepth 100000 in
theorem tX9_kind_b28 {p : Program} {l : Launch} {e : Env} {s : State} {m : MethodId} {args : Array Value} {below : List Frame} {meth : Method} {c : Code} {D : va_G} {cy : Nat → ClassId} {A : Nat → Prop} {ad : Nat → Nat} {hh : Nat → Nat} {aa : Nat → Nat → Nat} {pa : Nat → Nat} (K : Int32 → Prop) (E : mE D cy RX9 cX9_kind 3 (some .int) wsX9_kind A p s m args meth c) (u : FS)
     (H : Heap) (locs : List Loc) (ls : Array Slot) (hl : lv_has ls 3 []) (hP : va_P D kCl (wF cy ad hh aa pa u) H) (hD : va_D A (wF cy ad hh aa pa u)) (hS : va_S A s.heap H locs) (h1 : Ok (hX9_kind_b28 u) K) :
    kW p l e rmX9_kind s m args below meth c H locs (va_Qi (fun r (_ : Unit) => K r) (fun _ => kPost D A (wF cy ad hh aa pa u)) A) A 28 ls [] := by
  obtain ⟨hx, hb, hr, hml, hown, hts, hlocks, hK, hA⟩ := id E
  unfold hX9_kind_b28 at h1
  exact h1.no
def hX9_kind_b0 (x1 : Int32) (x2 : Int32) (u : FS) : Option (Int32) :=
  (if x1 < 0 then hX9_kind_b9 u else (if x1 < 4 then (if x2 < 0 then hX9_kind_b28 u else (if x2 < 3 then bnd (fX8_kindFact x1 x2 (fN u)) (fun r44 => some r44) else hX9_kind_b28 u)) else hX9_kind_b9 u))
set_option maxHeartbeats 4000000 in
set_option maxRecDepth 100000 in
theorem tX9_kind_b0 {p : Program} {l : Launch} {e : Env} {s : State} {m : MethodId} {args : Array Value} {below : List Frame} {meth : Method} {c : Code} {D : va_G} {cy : Nat → ClassId} {A : Nat → Prop} {ad : Nat → Nat} {hh : Nat → Nat} {aa : Nat → Nat → Nat} {pa : Nat → Nat} (K : Int32 → Prop) (E : mE D cy RX9 cX9_kind 3 (some .int) wsX9_kind A p s m args meth c) (u : FS)
     (x1 : Int32) (x2 : Int32) (H : Heap) (locs : List Loc) (ls : Array Slot) (hl : lv_has ls 3 [(0, .ref (ad 0)), (1, .int x1), (2, .int x2)]) (hP : va_P D kCl (wF cy ad hh aa pa u) H) (hD : va_D A (wF cy ad hh aa pa u)) (hS : va_S A s.heap H locs) (h1 : Ok (hX9_kind_b0 x1 x2 u) K) :
    kW p l e rmX9_kind s m args below meth c H locs (va_Qi (fun r (_ : Unit) => K r) (fun _ => kPost D A (wF cy ad hh aa pa u)) A) A 0 ls [] := by
  obtain ⟨hx, hb, hr, hml, hown, hts, hlocks, hK, hA⟩ := id E
  unfold hX9_kind_b0 at h1
  refine lv_iload_n hx hb dX9_kind_0 rfl (lv_at hl 1 rfl) ?_
  refine lv_if_lt (tgt := 9) hx hb dX9_kind_1 (by decide) (fun c1 => ?_) (fun c1 => ?_)
  · replace h1 := Ok.pos c1 h1
    exact tX9_kind_b9 K E u H locs ls (lv_sub hl [] rfl) hP hD hS h1
  · replace h1 := Ok.neg c1 h1
    refine lv_iload_n hx hb dX9_kind_4 rfl (lv_at hl 1 rfl) ?_
    refine lv_iconst (v := 4) hx hb dX9_kind_5 rfl ?_
    refine lv_icmp_lt (tgt := 19) hx hb dX9_kind_6 (by decide) (fun c6 => ?_) (fun c6 => ?_)
    · replace h1 := Ok.pos c6 h1
      refine lv_iload_n hx hb dX9_kind_19 rfl (lv_at hl 2 rfl) ?_
      refine lv_if_lt (tgt := 28) hx hb dX9_kind_20 (by decide) (fun c20 => ?_) (fun c20 => ?_)
      · replace h1 := Ok.pos c20 h1
        exact tX9_kind_b28 K E u H locs ls (lv_sub hl [] rfl) hP hD hS h1
      · replace h1 := Ok.neg c20 h1
        refine lv_iload_n hx hb dX9_kind_23 rfl (lv_at hl 2 rfl) ?_
        refine lv_iconst (v := 3) hx hb dX9_kind_24 rfl ?_
        refine lv_icmp_lt (tgt := 38) hx hb dX9_kind_25 (by decide) (fun c25 => ?_) (fun c25 => ?_)
        · replace h1 := Ok.pos c25 h1
          refine lv_aload_n hx hb dX9_kind_38 rfl (lv_at hl 0 rfl) ?_
          refine k_get (v := .ref (hh 0)) (C := RX9) (T := TX9) (N := 9) hx hb hts inX9_kind_X9 hown hK hP 0 (wF_c0 _ _ _ _ _ _) rfl 0 (by decide) lkX9_kind_10 (fFs_0 _ _ _ _) dX9_kind_39 ?_
          refine lv_iload_n hx hb dX9_kind_42 rfl (lv_at hl 1 rfl) ?_
          refine lv_iload_n hx hb dX9_kind_43 rfl (lv_at hl 2 rfl) ?_
          refine kc_rV (b := (hh 0)) (As := [.int x1, .int x2]) (rest := []) h1 ⟨hx, hb, hml, hown, hts⟩ (cX8_kindFactM l D cy (hh 0) (aa 0) H.size (fN u) x1 x2) (cwV 2 hts gX9_kind_X8_kindFact rfl rfl rfl hdX8_kindFact ⟨Nat.le_of_ble_eq_true rfl, Nat.le_of_ble_eq_true rfl⟩) hK (wF_sel1 _ _ _ _ _ _) hP hD hS hA (q0 := 0) rfl rfl rfl hl.1 rfl (Nat.le_of_ble_eq_true rfl) dX9_kind_44 ⟨Nat.zero_le _, Nat.zero_le _⟩ (fun r44 H locs h1 hP hS => ?_)
          exact kret_r hx hb hr hlocks hP hD hS h1 dX9_kind_47
        · replace h1 := Ok.neg c25 h1
          exact tX9_kind_b28 K E u H locs ls (lv_sub hl [] rfl) hP hD hS h1
    · replace h1 := Ok.neg c6 h1
      exact tX9_kind_b9 K E u H locs ls (lv_sub hl [] rfl) hP hD hS h1
def hX9_kind (p1 : Int32) (p2 : Int32) (u : FS) : Option (Int32) := hX9_kind_b0 p1 p2 u
set_option maxHeartbeats 4000000 in
set_option maxRecDepth 100000 in
theorem cX9_kindM (l : Launch) (D : va_G) (cy : Nat → ClassId) (ad : Nat → Nat) (hh : Nat → Nat) (aa : Nat → Nat → Nat) (pa : Nat → Nat) (sz : Nat) (u : FS) (p1 : Int32) (p2 : Int32) : ∀ (K : Int32 → Prop), Ok (hX9_kind p1 p2 u) K → Met l yX9_kind wsX9_kind rmX9_kind (va_Pc [.ref (ad 0), .int p1, .int p2] (kPre D cy sz (wF cy ad hh aa pa u))) (va_Qi (fun r (_ : Unit) => K r) (fun _ => kPost D (va_A (wF cy ad hh aa pa u) sz) (wF cy ad hh aa pa u)) (va_A (wF cy ad hh aa pa u) sz)) 0 0 (va_A (wF cy ad hh aa pa u) sz) := by
  intro K h1
  refine Met.ofW (cc := cX9_kind) (maxL := 3) (ret := (some .int)) (by decide) rfl ?_
  intro p e s m args below meth c s₁ B hml hv
  obtain ⟨rfl, hsz, hP, hK, hD0⟩ := hv
  subst hsz
  have E : mE D cy RX9 cX9_kind 3 (some .int) wsX9_kind (va_A (wF cy ad hh aa pa u) s.heap.size) p s m _ meth c := ⟨B.exec, B.bytes, B.returns, hml, findClass_of_methodNamed B.named, atoms_spec (ws := wsX9_kind) B.pre, B.notSynchronized, hK, fun q h => Or.inr h⟩
  have hl := lv_entry ([.ref (ad 0), .int p1, .int p2]) (n := 3) (Nat.le_of_ble_eq_true rfl)
  rw [lg_entry_eq]
  generalize (lg_sl ([.ref (ad 0), .int p1, .int p2]) ++ List.replicate (3 - (lg_sl ([.ref (ad 0), .int p1, .int p2])).length) Slot.unset).toArray = ls at hl ⊢
  exact tX9_kind_b0 K E u p1 p2 _ _ _ hl hP hD0.self va_S.rf h1
-- X9_car
theorem inX9_car_X9 : ∀ w ∈ u_ws RX9 TX9 9, w ∈ wsX9_car := k_lays 13 rfl
theorem lkX9_car_10 : Cond.fieldLink RX9 10 "FerryRamp" "now" "LFerryRamp$State;" ∈ wsX9_car := List.mem_of_getElem? (i := 5) rfl
theorem inX9_car_X8 : ∀ w ∈ u_ws RX8 TX8 13, w ∈ wsX9_car := k_lays 22 rfl
theorem lkX9_car_87 : Cond.fieldLink RX9 87 "FerryRamp$State" "counts" "[I" ∈ wsX9_car := List.mem_of_getElem? (i := 6) rfl
abbrev rmX9_car : Room := { frames := 1, cells := 0, slots := 0, locals := 23 }
def hX9_car_b17 (u : FS) : Option (Int32) :=
  none
set_option maxHeartbeats 4000000 in
set_option maxRecDepth 100000 in
theorem tX9_car_b17 {p : Program} {l : Launch} {e : Env} {s : State} {m : MethodId} {args : Array Value} {below : List Frame} {meth : Method} {c : Code} {D : va_G} {cy : Nat → ClassId} {A : Nat → Prop} {ad : Nat → Nat} {hh : Nat → Nat} {aa : Nat → Nat → Nat} {pa : Nat → Nat} (K : Int32 → Prop) (E : mE D cy RX9 cX9_car 3 (some .int) wsX9_car A p s m args meth c) (u : FS)
     (H : Heap) (locs : List Loc) (ls : Array Slot) (hl : lv_has ls 3 []) (hP : va_P D kCl (wF cy ad hh aa pa u) H) (hD : va_D A (wF cy ad hh aa pa u)) (hS : va_S A s.heap H locs) (h1 : Ok (hX9_car_b17 u) K) :
    kW p l e rmX9_car s m args below meth c H locs (va_Qi (fun r (_ : Unit) => K r) (fun _ => kPost D A (wF cy ad hh aa pa u)) A) A 17 ls [] := by
  obtain ⟨hx, hb, hr, hml, hown, hts, hlocks, hK, hA⟩ := id E
  unfold hX9_car_b17 at h1
  exact h1.no
def hX9_car_b37 (u : FS) : Option (Int32) :=
  none
set_option maxHeartbeats 4000000 in
set_option maxRecDepth 100000 in
theorem tX9_car_b37 {p : Program} {l : Launch} {e : Env} {s : State} {m : MethodId} {args : Array Value} {below : List Frame} {meth : Method} {c : Code} {D : va_G} {cy : Nat → ClassId} {A : Nat → Prop} {ad : Nat → Nat} {hh : Nat → Nat} {aa : Nat → Nat → Nat} {pa : Nat → Nat} (K : Int32 → Prop) (E : mE D cy RX9 cX9_car 3 (some .int) wsX9_car A p s m args meth c) (u : FS)
     (H : Heap) (locs : List Loc) (ls : Array Slot) (hl : lv_has ls 3 []) (hP : va_P D kCl (wF cy ad hh aa pa u) H) (hD : va_D A (wF cy ad hh aa pa u)) (hS : va_S A s.heap H locs) (h1 : Ok (hX9_car_b37 u) K) :
    kW p l e rmX9_car s m args below meth c H locs (va_Qi (fun r (_ : Unit) => K r) (fun _ => kPost D A (wF cy ad hh aa pa u)) A) A 37 ls [] := by
  obtain ⟨hx, hb, hr, hml, hown, hts, hlocks, hK, hA⟩ := id E
  unfold hX9_car_b37 at h1
  exact h1.no
def hX9_car_b0 (x1 : Int32) (x2 : Int32) (u : FS) : Option (Int32) :=
  (if x1 < 0 then hX9_car_b17 u else (if x1 < (sC (fN u) 3) then (if x2 < 0 then hX9_car_b37 u else (if x2 < 7 then bnd (fX8_carFact x1 x2 (fN u)) (fun r53 => some r53) else hX9_car_b37 u)) else hX9_car_b17 u))
set_option maxHeartbeats 4000000 in
set_option maxRecDepth 100000 in
theorem tX9_car_b0 {p : Program} {l : Launch} {e : Env} {s : State} {m : MethodId} {args : Array Value} {below : List Frame} {meth : Method} {c : Code} {D : va_G} {cy : Nat → ClassId} {A : Nat → Prop} {ad : Nat → Nat} {hh : Nat → Nat} {aa : Nat → Nat → Nat} {pa : Nat → Nat} (K : Int32 → Prop) (E : mE D cy RX9 cX9_car 3 (some .int) wsX9_car A p s m args meth c) (u : FS)
     (x1 : Int32) (x2 : Int32) (H : Heap) (locs : List Loc) (ls : Array Slot) (hl : lv_has ls 3 [(0, .ref (ad 0)), (1, .int x1), (2, .int x2)]) (hP : va_P D kCl (wF cy ad hh aa pa u) H) (hD : va_D A (wF cy ad hh aa pa u)) (hS : va_S A s.heap H locs) (h1 : Ok (hX9_car_b0 x1 x2 u) K) :
    kW p l e rmX9_car s m args below meth c H locs (va_Qi (fun r (_ : Unit) => K r) (fun _ => kPost D A (wF cy ad hh aa pa u)) A) A 0 ls [] := by
  obtain ⟨hx, hb, hr, hml, hown, hts, hlocks, hK, hA⟩ := id E
  unfold hX9_car_b0 at h1
  refine lv_iload_n hx hb dX9_car_0 rfl (lv_at hl 1 rfl) ?_
  refine lv_if_lt (tgt := 17) hx hb dX9_car_1 (by decide) (fun c1 => ?_) (fun c1 => ?_)
  · replace h1 := Ok.pos c1 h1
    exact tX9_car_b17 K E u H locs ls (lv_sub hl [] rfl) hP hD hS h1
  · replace h1 := Ok.neg c1 h1
    refine lv_iload_n hx hb dX9_car_4 rfl (lv_at hl 1 rfl) ?_
    refine lv_aload_n hx hb dX9_car_5 rfl (lv_at hl 0 rfl) ?_
    refine k_get (v := .ref (hh 0)) (C := RX9) (T := TX9) (N := 9) hx hb hts inX9_car_X9 hown hK hP 0 (wF_c0 _ _ _ _ _ _) rfl 0 (by decide) lkX9_car_10 (fFs_0 _ _ _ _) dX9_car_6 ?_
    refine k_get (v := .ref ((aa 0) 0)) (C := RX8) (T := TX8) (N := 13) hx hb hts inX9_car_X8 hown hK hP 5 (wF_c5 _ _ _ _ _ _) rfl 0 (by decide) lkX9_car_87 (sFs_0 _ _) dX9_car_9 ?_
    refine lv_iconst (v := 3) hx hb dX9_car_12 rfl ?_
    refine k_iald (k := 3) hx hb hK hP 6 (wF_c6 _ _ _ _ _ _) rfl rfl dX9_car_13 ?_
    refine lv_icmp_lt (tgt := 27) hx hb dX9_car_14 (by decide) (fun c14 => ?_) (fun c14 => ?_)
    · replace h1 := Ok.pos c14 h1
      refine lv_iload_n hx hb dX9_car_27 rfl (lv_at hl 2 rfl) ?_
      refine lv_if_lt (tgt := 37) hx hb dX9_car_28 (by decide) (fun c28 => ?_) (fun c28 => ?_)
      · replace h1 := Ok.pos c28 h1
        exact tX9_car_b37 K E u H locs ls (lv_sub hl [] rfl) hP hD hS h1
      · replace h1 := Ok.neg c28 h1
        refine lv_iload_n hx hb dX9_car_31 rfl (lv_at hl 2 rfl) ?_
        refine lv_bipush (v := 7) hx hb dX9_car_32 rfl ?_
        refine lv_icmp_lt (tgt := 47) hx hb dX9_car_34 (by decide) (fun c34 => ?_) (fun c34 => ?_)
        · replace h1 := Ok.pos c34 h1
          refine lv_aload_n hx hb dX9_car_47 rfl (lv_at hl 0 rfl) ?_
          refine k_get (v := .ref (hh 0)) (C := RX9) (T := TX9) (N := 9) hx hb hts inX9_car_X9 hown hK hP 0 (wF_c0 _ _ _ _ _ _) rfl 0 (by decide) lkX9_car_10 (fFs_0 _ _ _ _) dX9_car_48 ?_
          refine lv_iload_n hx hb dX9_car_51 rfl (lv_at hl 1 rfl) ?_
          refine lv_iload_n hx hb dX9_car_52 rfl (lv_at hl 2 rfl) ?_
          refine kc_rV (b := (hh 0)) (As := [.int x1, .int x2]) (rest := []) h1 ⟨hx, hb, hml, hown, hts⟩ (cX8_carFactM l D cy (hh 0) (aa 0) H.size (fN u) x1 x2) (cwV 2 hts gX9_car_X8_carFact rfl rfl rfl hdX8_carFact ⟨Nat.le_of_ble_eq_true rfl, Nat.le_of_ble_eq_true rfl⟩) hK (wF_sel1 _ _ _ _ _ _) hP hD hS hA (q0 := 0) rfl rfl rfl hl.1 rfl (Nat.le_of_ble_eq_true rfl) dX9_car_53 ⟨Nat.zero_le _, Nat.zero_le _⟩ (fun r53 H locs h1 hP hS => ?_)
          exact kret_r hx hb hr hlocks hP hD hS h1 dX9_car_56
        · replace h1 := Ok.neg c34 h1
          exact tX9_car_b37 K E u H locs ls (lv_sub hl [] rfl) hP hD hS h1
    · replace h1 := Ok.neg c14 h1
      exact tX9_car_b17 K E u H locs ls (lv_sub hl [] rfl) hP hD hS h1
def hX9_car (p1 : Int32) (p2 : Int32) (u : FS) : Option (Int32) := hX9_car_b0 p1 p2 u
set_option maxHeartbeats 4000000 in
set_option maxRecDepth 100000 in
theorem cX9_carM (l : Launch) (D : va_G) (cy : Nat → ClassId) (ad : Nat → Nat) (hh : Nat → Nat) (aa : Nat → Nat → Nat) (pa : Nat → Nat) (sz : Nat) (u : FS) (p1 : Int32) (p2 : Int32) : ∀ (K : Int32 → Prop), Ok (hX9_car p1 p2 u) K → Met l yX9_car wsX9_car rmX9_car (va_Pc [.ref (ad 0), .int p1, .int p2] (kPre D cy sz (wF cy ad hh aa pa u))) (va_Qi (fun r (_ : Unit) => K r) (fun _ => kPost D (va_A (wF cy ad hh aa pa u) sz) (wF cy ad hh aa pa u)) (va_A (wF cy ad hh aa pa u) sz)) 0 0 (va_A (wF cy ad hh aa pa u) sz) := by
  intro K h1
  refine Met.ofW (cc := cX9_car) (maxL := 3) (ret := (some .int)) (by decide) rfl ?_
  intro p e s m args below meth c s₁ B hml hv
  obtain ⟨rfl, hsz, hP, hK, hD0⟩ := hv
  subst hsz
  have E : mE D cy RX9 cX9_car 3 (some .int) wsX9_car (va_A (wF cy ad hh aa pa u) s.heap.size) p s m _ meth c := ⟨B.exec, B.bytes, B.returns, hml, findClass_of_methodNamed B.named, atoms_spec (ws := wsX9_car) B.pre, B.notSynchronized, hK, fun q h => Or.inr h⟩
  have hl := lv_entry ([.ref (ad 0), .int p1, .int p2]) (n := 3) (Nat.le_of_ble_eq_true rfl)
  rw [lg_entry_eq]
  generalize (lg_sl ([.ref (ad 0), .int p1, .int p2]) ++ List.replicate (3 - (lg_sl ([.ref (ad 0), .int p1, .int p2])).length) Slot.unset).toArray = ls at hl ⊢
  exact tX9_car_b0 K E u p1 p2 _ _ _ hl hP hD0.self va_S.rf h1
-- X9_standing
theorem inX9_standing_X9 : ∀ w ∈ u_ws RX9 TX9 9, w ∈ wsX9_standing := k_lays 14 rfl
theorem lkX9_standing_10 : Cond.fieldLink RX9 10 "FerryRamp" "now" "LFerryRamp$State;" ∈ wsX9_standing := List.mem_of_getElem? (i := 3) rfl
abbrev rmX9_standing : Room := { frames := 2, cells := 0, slots := 0, locals := 43 }
def hX9_standing_b9 (u : FS) : Option (Int32) :=
  none
set_option maxHeartbeats 4000000 in
set_option maxRecDepth 100000 in
theorem tX9_standing_b9 {p : Program} {l : Launch} {e : Env} {s : State} {m : MethodId} {args : Array Value} {below : List Frame} {meth : Method} {c : Code} {D : va_G} {cy : Nat → ClassId} {A : Nat → Prop} {ad : Nat → Nat} {hh : Nat → Nat} {aa : Nat → Nat → Nat} {pa : Nat → Nat} (K : Int32 → Prop) (E : mE D cy RX9 cX9_standing 3 (some .int) wsX9_standing A p s m args meth c) (u : FS)
     (H : Heap) (locs : List Loc) (ls : Array Slot) (hl : lv_has ls 3 []) (hP : va_P D kCl (wF cy ad hh aa pa u) H) (hD : va_D A (wF cy ad hh aa pa u)) (hS : va_S A s.heap H locs) (h1 : Ok (hX9_standing_b9 u) K) :
    kW p l e rmX9_standing s m args below meth c H locs (va_Qi (fun r (_ : Unit) => K r) (fun _ => kPost D A (wF cy ad hh aa pa u)) A) A 9 ls [] := by
  obtain ⟨hx, hb, hr, hml, hown, hts, hlocks, hK, hA⟩ := id E
  unfold hX9_standing_b9 at h1
  exact h1.no
def hX9_standing_b0 (x1 : Int32) (x2 : Int32) (u : FS) : Option (Int32) :=
  (if x1 < 0 then hX9_standing_b9 u else (if x1 < 3 then bnd (fX8_carOnDeck x1 x2 (fN u)) (fun r25 => some r25) else hX9_standing_b9 u))
set_option maxHeartbeats 4000000 in
set_option maxRecDepth 100000 in
theorem tX9_standing_b0 {p : Program} {l : Launch} {e : Env} {s : State} {m : MethodId} {args : Array Value} {below : List Frame} {meth : Method} {c : Code} {D : va_G} {cy : Nat → ClassId} {A : Nat → Prop} {ad : Nat → Nat} {hh : Nat → Nat} {aa : Nat → Nat → Nat} {pa : Nat → Nat} (K : Int32 → Prop) (E : mE D cy RX9 cX9_standing 3 (some .int) wsX9_standing A p s m args meth c) (u : FS)
     (x1 : Int32) (x2 : Int32) (H : Heap) (locs : List Loc) (ls : Array Slot) (hl : lv_has ls 3 [(0, .ref (ad 0)), (1, .int x1), (2, .int x2)]) (hP : va_P D kCl (wF cy ad hh aa pa u) H) (hD : va_D A (wF cy ad hh aa pa u)) (hS : va_S A s.heap H locs) (h1 : Ok (hX9_standing_b0 x1 x2 u) K) :
    kW p l e rmX9_standing s m args below meth c H locs (va_Qi (fun r (_ : Unit) => K r) (fun _ => kPost D A (wF cy ad hh aa pa u)) A) A 0 ls [] := by
  obtain ⟨hx, hb, hr, hml, hown, hts, hlocks, hK, hA⟩ := id E
  unfold hX9_standing_b0 at h1
  refine lv_iload_n hx hb dX9_standing_0 rfl (lv_at hl 1 rfl) ?_
  refine lv_if_lt (tgt := 9) hx hb dX9_standing_1 (by decide) (fun c1 => ?_) (fun c1 => ?_)
  · replace h1 := Ok.pos c1 h1
    exact tX9_standing_b9 K E u H locs ls (lv_sub hl [] rfl) hP hD hS h1
  · replace h1 := Ok.neg c1 h1
    refine lv_iload_n hx hb dX9_standing_4 rfl (lv_at hl 1 rfl) ?_
    refine lv_iconst (v := 3) hx hb dX9_standing_5 rfl ?_
    refine lv_icmp_lt (tgt := 19) hx hb dX9_standing_6 (by decide) (fun c6 => ?_) (fun c6 => ?_)
    · replace h1 := Ok.pos c6 h1
      refine lv_aload_n hx hb dX9_standing_19 rfl (lv_at hl 0 rfl) ?_
      refine k_get (v := .ref (hh 0)) (C := RX9) (T := TX9) (N := 9) hx hb hts inX9_standing_X9 hown hK hP 0 (wF_c0 _ _ _ _ _ _) rfl 0 (by decide) lkX9_standing_10 (fFs_0 _ _ _ _) dX9_standing_20 ?_
      refine lv_iload_n hx hb dX9_standing_23 rfl (lv_at hl 1 rfl) ?_
      refine lv_iload_n hx hb dX9_standing_24 rfl (lv_at hl 2 rfl) ?_
      refine kc_rV (b := (hh 0)) (As := [.int x1, .int x2]) (rest := []) h1 ⟨hx, hb, hml, hown, hts⟩ (cX8_carOnDeckM l D cy (hh 0) (aa 0) H.size (fN u) x1 x2) (cwV 2 hts gX9_standing_X8_carOnDeck rfl rfl rfl hdX8_carOnDeck ⟨Nat.le_of_ble_eq_true rfl, Nat.le_of_ble_eq_true rfl⟩) hK (wF_sel1 _ _ _ _ _ _) hP hD hS hA (q0 := 0) rfl rfl rfl hl.1 rfl (Nat.le_of_ble_eq_true rfl) dX9_standing_25 ⟨Nat.zero_le _, Nat.zero_le _⟩ (fun r25 H locs h1 hP hS => ?_)
      exact kret_r hx hb hr hlocks hP hD hS h1 dX9_standing_28
    · replace h1 := Ok.neg c6 h1
      exact tX9_standing_b9 K E u H locs ls (lv_sub hl [] rfl) hP hD hS h1
def hX9_standing (p1 : Int32) (p2 : Int32) (u : FS) : Option (Int32) := hX9_standing_b0 p1 p2 u
set_option maxHeartbeats 4000000 in
set_option maxRecDepth 100000 in
theorem cX9_standingM (l : Launch) (D : va_G) (cy : Nat → ClassId) (ad : Nat → Nat) (hh : Nat → Nat) (aa : Nat → Nat → Nat) (pa : Nat → Nat) (sz : Nat) (u : FS) (p1 : Int32) (p2 : Int32) : ∀ (K : Int32 → Prop), Ok (hX9_standing p1 p2 u) K → Met l yX9_standing wsX9_standing rmX9_standing (va_Pc [.ref (ad 0), .int p1, .int p2] (kPre D cy sz (wF cy ad hh aa pa u))) (va_Qi (fun r (_ : Unit) => K r) (fun _ => kPost D (va_A (wF cy ad hh aa pa u) sz) (wF cy ad hh aa pa u)) (va_A (wF cy ad hh aa pa u) sz)) 0 0 (va_A (wF cy ad hh aa pa u) sz) := by
  intro K h1
  refine Met.ofW (cc := cX9_standing) (maxL := 3) (ret := (some .int)) (by decide) rfl ?_
  intro p e s m args below meth c s₁ B hml hv
  obtain ⟨rfl, hsz, hP, hK, hD0⟩ := hv
  subst hsz
  have E : mE D cy RX9 cX9_standing 3 (some .int) wsX9_standing (va_A (wF cy ad hh aa pa u) s.heap.size) p s m _ meth c := ⟨B.exec, B.bytes, B.returns, hml, findClass_of_methodNamed B.named, atoms_spec (ws := wsX9_standing) B.pre, B.notSynchronized, hK, fun q h => Or.inr h⟩
  have hl := lv_entry ([.ref (ad 0), .int p1, .int p2]) (n := 3) (Nat.le_of_ble_eq_true rfl)
  rw [lg_entry_eq]
  generalize (lg_sl ([.ref (ad 0), .int p1, .int p2]) ++ List.replicate (3 - (lg_sl ([.ref (ad 0), .int p1, .int p2])).length) Slot.unset).toArray = ls at hl ⊢
  exact tX9_standing_b0 K E u p1 p2 _ _ _ hl hP hD0.self va_S.rf h1
-- X9_lane
theorem inX9_lane_X9 : ∀ w ∈ u_ws RX9 TX9 9, w ∈ wsX9_lane := k_lays 7 rfl
theorem lkX9_lane_10 : Cond.fieldLink RX9 10 "FerryRamp" "now" "LFerryRamp$State;" ∈ wsX9_lane := List.mem_of_getElem? (i := 3) rfl
theorem inX9_lane_X8 : ∀ w ∈ u_ws RX8 TX8 13, w ∈ wsX9_lane := k_lays 16 rfl
theorem lkX9_lane_152 : Cond.fieldLink RX9 152 "FerryRamp$State" "weights" "[I" ∈ wsX9_lane := List.mem_of_getElem? (i := 6) rfl
theorem lkX9_lane_116 : Cond.fieldLink RX9 116 "FerryRamp$State" "settings" "[I" ∈ wsX9_lane := List.mem_of_getElem? (i := 4) rfl
theorem lkX9_lane_149 : Cond.fieldLink RX9 149 "FerryRamp$State" "taken" "[I" ∈ wsX9_lane := List.mem_of_getElem? (i := 5) rfl
theorem wF_c14 (cy : Nat → ClassId) (ad : Nat → Nat) (hh : Nat → Nat) (aa : Nat → Nat → Nat) (pa : Nat → Nat) (u : FS) : (wF cy ad hh aa pa u)[14]? = some (((aa 0) 8), .inl (cy 0, 3, .inl (sN (fN u)))) := fl_atj (l := wFl cy ad hh aa pa u) (j := 1) (q := 9) rfl rfl rfl
abbrev rmX9_lane : Room := { frames := 0, cells := 0, slots := 0, locals := 0 }
def hX9_lane_b9 (u : FS) : Option (Int32) :=
  none
set_option maxHeartbeats 4000000 in
set_option maxRecDepth 100000 in
theorem tX9_lane_b9 {p : Program} {l : Launch} {e : Env} {s : State} {m : MethodId} {args : Array Value} {below : List Frame} {meth : Method} {c : Code} {D : va_G} {cy : Nat → ClassId} {A : Nat → Prop} {ad : Nat → Nat} {hh : Nat → Nat} {aa : Nat → Nat → Nat} {pa : Nat → Nat} (K : Int32 → Prop) (E : mE D cy RX9 cX9_lane 3 (some .int) wsX9_lane A p s m args meth c) (u : FS)
     (H : Heap) (locs : List Loc) (ls : Array Slot) (hl : lv_has ls 3 []) (hP : va_P D kCl (wF cy ad hh aa pa u) H) (hD : va_D A (wF cy ad hh aa pa u)) (hS : va_S A s.heap H locs) (h1 : Ok (hX9_lane_b9 u) K) :
    kW p l e rmX9_lane s m args below meth c H locs (va_Qi (fun r (_ : Unit) => K r) (fun _ => kPost D A (wF cy ad hh aa pa u)) A) A 9 ls [] := by
  obtain ⟨hx, hb, hr, hml, hown, hts, hlocks, hK, hA⟩ := id E
  unfold hX9_lane_b9 at h1
  exact h1.no
def hX9_lane_b0 (x1 : Int32) (x2 : Int32) (u : FS) : Option (Int32) :=
  (if x1 < 0 then hX9_lane_b9 u else (if x1 < 3 then (if x2 = 0 then grd (inb x1 3) (some (sW (fN u) (ix x1))) else grd (inb x1 3) (some ((sT (fN u) 6) - (sN (fN u) (ix x1))))) else hX9_lane_b9 u))
set_option maxHeartbeats 4000000 in
set_option maxRecDepth 100000 in
theorem tX9_lane_b0 {p : Program} {l : Launch} {e : Env} {s : State} {m : MethodId} {args : Array Value} {below : List Frame} {meth : Method} {c : Code} {D : va_G} {cy : Nat → ClassId} {A : Nat → Prop} {ad : Nat → Nat} {hh : Nat → Nat} {aa : Nat → Nat → Nat} {pa : Nat → Nat} (K : Int32 → Prop) (E : mE D cy RX9 cX9_lane 3 (some .int) wsX9_lane A p s m args meth c) (u : FS)
     (x1 : Int32) (x2 : Int32) (H : Heap) (locs : List Loc) (ls : Array Slot) (hl : lv_has ls 3 [(0, .ref (ad 0)), (1, .int x1), (2, .int x2)]) (hP : va_P D kCl (wF cy ad hh aa pa u) H) (hD : va_D A (wF cy ad hh aa pa u)) (hS : va_S A s.heap H locs) (h1 : Ok (hX9_lane_b0 x1 x2 u) K) :
    kW p l e rmX9_lane s m args below meth c H locs (va_Qi (fun r (_ : Unit) => K r) (fun _ => kPost D A (wF cy ad hh aa pa u)) A) A 0 ls [] := by
  obtain ⟨hx, hb, hr, hml, hown, hts, hlocks, hK, hA⟩ := id E
  unfold hX9_lane_b0 at h1
  refine lv_iload_n hx hb dX9_lane_0 rfl (lv_at hl 1 rfl) ?_
  refine lv_if_lt (tgt := 9) hx hb dX9_lane_1 (by decide) (fun c1 => ?_) (fun c1 => ?_)
  · replace h1 := Ok.pos c1 h1
    exact tX9_lane_b9 K E u H locs ls (lv_sub hl [] rfl) hP hD hS h1
  · replace h1 := Ok.neg c1 h1
    refine lv_iload_n hx hb dX9_lane_4 rfl (lv_at hl 1 rfl) ?_
    refine lv_iconst (v := 3) hx hb dX9_lane_5 rfl ?_
    refine lv_icmp_lt (tgt := 19) hx hb dX9_lane_6 (by decide) (fun c6 => ?_) (fun c6 => ?_)
    · replace h1 := Ok.pos c6 h1
      refine lv_iload_n hx hb dX9_lane_19 rfl (lv_at hl 2 rfl) ?_
      refine lv_if_eq (tgt := 46) hx hb dX9_lane_20 (by decide) (fun c20 => ?_) (fun c20 => ?_)
      · replace h1 := Ok.pos c20 h1
        refine lv_aload_n hx hb dX9_lane_46 rfl (lv_at hl 0 rfl) ?_
        refine k_get (v := .ref (hh 0)) (C := RX9) (T := TX9) (N := 9) hx hb hts inX9_lane_X9 hown hK hP 0 (wF_c0 _ _ _ _ _ _) rfl 0 (by decide) lkX9_lane_10 (fFs_0 _ _ _ _) dX9_lane_47 ?_
        refine k_get (v := .ref ((aa 0) 7)) (C := RX8) (T := TX8) (N := 13) hx hb hts inX9_lane_X8 hown hK hP 5 (wF_c5 _ _ _ _ _ _) rfl 7 (by decide) lkX9_lane_152 (sFs_7 _ _) dX9_lane_50 ?_
        refine lv_iload_n hx hb dX9_lane_53 rfl (lv_at hl 1 rfl) ?_
        have g54 := h1.grd1
        replace h1 := h1.grd2
        refine k_iald (k := (ix x1)) hx hb hK hP 13 (wF_c13 _ _ _ _ _ _) g54 rfl dX9_lane_54 ?_
        exact kret_r hx hb hr hlocks hP hD hS h1 dX9_lane_55
      · replace h1 := Ok.neg c20 h1
        refine lv_aload_n hx hb dX9_lane_23 rfl (lv_at hl 0 rfl) ?_
        refine k_get (v := .ref (hh 0)) (C := RX9) (T := TX9) (N := 9) hx hb hts inX9_lane_X9 hown hK hP 0 (wF_c0 _ _ _ _ _ _) rfl 0 (by decide) lkX9_lane_10 (fFs_0 _ _ _ _) dX9_lane_24 ?_
        refine k_get (v := .ref ((aa 0) 1)) (C := RX8) (T := TX8) (N := 13) hx hb hts inX9_lane_X8 hown hK hP 5 (wF_c5 _ _ _ _ _ _) rfl 1 (by decide) lkX9_lane_116 (sFs_1 _ _) dX9_lane_27 ?_
        refine lv_bipush (v := 6) hx hb dX9_lane_30 rfl ?_
        refine k_iald (k := 6) hx hb hK hP 7 (wF_c7 _ _ _ _ _ _) rfl rfl dX9_lane_32 ?_
        refine lv_aload_n hx hb dX9_lane_33 rfl (lv_at hl 0 rfl) ?_
        refine k_get (v := .ref (hh 0)) (C := RX9) (T := TX9) (N := 9) hx hb hts inX9_lane_X9 hown hK hP 0 (wF_c0 _ _ _ _ _ _) rfl 0 (by decide) lkX9_lane_10 (fFs_0 _ _ _ _) dX9_lane_34 ?_
        refine k_get (v := .ref ((aa 0) 8)) (C := RX8) (T := TX8) (N := 13) hx hb hts inX9_lane_X8 hown hK hP 5 (wF_c5 _ _ _ _ _ _) rfl 8 (by decide) lkX9_lane_149 (sFs_8 _ _) dX9_lane_37 ?_
        refine lv_iload_n hx hb dX9_lane_40 rfl (lv_at hl 1 rfl) ?_
        have g41 := h1.grd1
        replace h1 := h1.grd2
        refine k_iald (k := (ix x1)) hx hb hK hP 14 (wF_c14 _ _ _ _ _ _) g41 rfl dX9_lane_41 ?_
        refine lv_isub hx hb dX9_lane_42 ?_
        refine lv_goto (tgt := 55) hx hb dX9_lane_43 (by decide) ?_
        exact kret_r hx hb hr hlocks hP hD hS h1 dX9_lane_55
    · replace h1 := Ok.neg c6 h1
      exact tX9_lane_b9 K E u H locs ls (lv_sub hl [] rfl) hP hD hS h1
def hX9_lane (p1 : Int32) (p2 : Int32) (u : FS) : Option (Int32) := hX9_lane_b0 p1 p2 u
set_option maxHeartbeats 4000000 in
set_option maxRecDepth 100000 in
theorem cX9_laneM (l : Launch) (D : va_G) (cy : Nat → ClassId) (ad : Nat → Nat) (hh : Nat → Nat) (aa : Nat → Nat → Nat) (pa : Nat → Nat) (sz : Nat) (u : FS) (p1 : Int32) (p2 : Int32) : ∀ (K : Int32 → Prop), Ok (hX9_lane p1 p2 u) K → Met l yX9_lane wsX9_lane rmX9_lane (va_Pc [.ref (ad 0), .int p1, .int p2] (kPre D cy sz (wF cy ad hh aa pa u))) (va_Qi (fun r (_ : Unit) => K r) (fun _ => kPost D (va_A (wF cy ad hh aa pa u) sz) (wF cy ad hh aa pa u)) (va_A (wF cy ad hh aa pa u) sz)) 0 0 (va_A (wF cy ad hh aa pa u) sz) := by
  intro K h1
  refine Met.ofW (cc := cX9_lane) (maxL := 3) (ret := (some .int)) (by decide) rfl ?_
  intro p e s m args below meth c s₁ B hml hv
  obtain ⟨rfl, hsz, hP, hK, hD0⟩ := hv
  subst hsz
  have E : mE D cy RX9 cX9_lane 3 (some .int) wsX9_lane (va_A (wF cy ad hh aa pa u) s.heap.size) p s m _ meth c := ⟨B.exec, B.bytes, B.returns, hml, findClass_of_methodNamed B.named, atoms_spec (ws := wsX9_lane) B.pre, B.notSynchronized, hK, fun q h => Or.inr h⟩
  have hl := lv_entry ([.ref (ad 0), .int p1, .int p2]) (n := 3) (Nat.le_of_ble_eq_true rfl)
  rw [lg_entry_eq]
  generalize (lg_sl ([.ref (ad 0), .int p1, .int p2]) ++ List.replicate (3 - (lg_sl ([.ref (ad 0), .int p1, .int p2])).length) Slot.unset).toArray = ls at hl ⊢
  exact tX9_lane_b0 K E u p1 p2 _ _ _ hl hP hD0.self va_S.rf h1
-- X9_call
theorem inX9_call_X9 : ∀ w ∈ u_ws RX9 TX9 9, w ∈ wsX9_call := k_lays 12 rfl
theorem lkX9_call_10 : Cond.fieldLink RX9 10 "FerryRamp" "now" "LFerryRamp$State;" ∈ wsX9_call := List.mem_of_getElem? (i := 5) rfl
theorem inX9_call_X8 : ∀ w ∈ u_ws RX8 TX8 13, w ∈ wsX9_call := k_lays 21 rfl
theorem lkX9_call_87 : Cond.fieldLink RX9 87 "FerryRamp$State" "counts" "[I" ∈ wsX9_call := List.mem_of_getElem? (i := 6) rfl
theorem lkX9_call_159 : Cond.fieldLink RX9 159 "FerryRamp$State" "calls" "[I" ∈ wsX9_call := List.mem_of_getElem? (i := 7) rfl
theorem wF_c15 (cy : Nat → ClassId) (ad : Nat → Nat) (hh : Nat → Nat) (aa : Nat → Nat → Nat) (pa : Nat → Nat) (u : FS) : (wF cy ad hh aa pa u)[15]? = some (((aa 0) 9), .inl (cy 0, 80, .inl (sL (fN u)))) := fl_atj (l := wFl cy ad hh aa pa u) (j := 1) (q := 10) rfl rfl rfl
abbrev rmX9_call : Room := { frames := 1, cells := 0, slots := 0, locals := 21 }
def hX9_call_b26 (u : FS) : Option (Int32) :=
  none
set_option maxHeartbeats 4000000 in
set_option maxRecDepth 100000 in
theorem tX9_call_b26 {p : Program} {l : Launch} {e : Env} {s : State} {m : MethodId} {args : Array Value} {below : List Frame} {meth : Method} {c : Code} {D : va_G} {cy : Nat → ClassId} {A : Nat → Prop} {ad : Nat → Nat} {hh : Nat → Nat} {aa : Nat → Nat → Nat} {pa : Nat → Nat} (K : Int32 → Prop) (E : mE D cy RX9 cX9_call 4 (some .int) wsX9_call A p s m args meth c) (u : FS)
     (H : Heap) (locs : List Loc) (ls : Array Slot) (hl : lv_has ls 4 []) (hP : va_P D kCl (wF cy ad hh aa pa u) H) (hD : va_D A (wF cy ad hh aa pa u)) (hS : va_S A s.heap H locs) (h1 : Ok (hX9_call_b26 u) K) :
    kW p l e rmX9_call s m args below meth c H locs (va_Qi (fun r (_ : Unit) => K r) (fun _ => kPost D A (wF cy ad hh aa pa u)) A) A 26 ls [] := by
  obtain ⟨hx, hb, hr, hml, hown, hts, hlocks, hK, hA⟩ := id E
  unfold hX9_call_b26 at h1
  exact h1.no
def hX9_call_b45 (u : FS) : Option (Int32) :=
  none
set_option maxHeartbeats 4000000 in
set_option maxRecDepth 100000 in
theorem tX9_call_b45 {p : Program} {l : Launch} {e : Env} {s : State} {m : MethodId} {args : Array Value} {below : List Frame} {meth : Method} {c : Code} {D : va_G} {cy : Nat → ClassId} {A : Nat → Prop} {ad : Nat → Nat} {hh : Nat → Nat} {aa : Nat → Nat → Nat} {pa : Nat → Nat} (K : Int32 → Prop) (E : mE D cy RX9 cX9_call 4 (some .int) wsX9_call A p s m args meth c) (u : FS)
     (H : Heap) (locs : List Loc) (ls : Array Slot) (hl : lv_has ls 4 []) (hP : va_P D kCl (wF cy ad hh aa pa u) H) (hD : va_D A (wF cy ad hh aa pa u)) (hS : va_S A s.heap H locs) (h1 : Ok (hX9_call_b45 u) K) :
    kW p l e rmX9_call s m args below meth c H locs (va_Qi (fun r (_ : Unit) => K r) (fun _ => kPost D A (wF cy ad hh aa pa u)) A) A 45 ls [] := by
  obtain ⟨hx, hb, hr, hml, hown, hts, hlocks, hK, hA⟩ := id E
  unfold hX9_call_b45 at h1
  exact h1.no
def hX9_call_b0 (x1 : Int32) (x2 : Int32) (u : FS) : Option (Int32) :=
  (if x1 < 0 then hX9_call_b26 u else (if (sC (fN u) 12) ≤ x1 then hX9_call_b26 u else (if x1 < 20 then (if x2 < 0 then hX9_call_b45 u else (if x2 < 4 then bnd (fX9_at ((((((sC (fN u) 12) - 1) - x1) - (((sC (fN u) 12) - 1) - x1) / 20 * 20) * 4) + x2) 80 (sL (fN u))) (fun r74 => some r74) else hX9_call_b45 u)) else hX9_call_b26 u)))
set_option maxHeartbeats 4000000 in
set_option maxRecDepth 100000 in
theorem tX9_call_b0 {p : Program} {l : Launch} {e : Env} {s : State} {m : MethodId} {args : Array Value} {below : List Frame} {meth : Method} {c : Code} {D : va_G} {cy : Nat → ClassId} {A : Nat → Prop} {ad : Nat → Nat} {hh : Nat → Nat} {aa : Nat → Nat → Nat} {pa : Nat → Nat} (K : Int32 → Prop) (E : mE D cy RX9 cX9_call 4 (some .int) wsX9_call A p s m args meth c) (u : FS)
     (x1 : Int32) (x2 : Int32) (H : Heap) (locs : List Loc) (ls : Array Slot) (hl : lv_has ls 4 [(0, .ref (ad 0)), (1, .int x1), (2, .int x2)]) (hP : va_P D kCl (wF cy ad hh aa pa u) H) (hD : va_D A (wF cy ad hh aa pa u)) (hS : va_S A s.heap H locs) (h1 : Ok (hX9_call_b0 x1 x2 u) K) :
    kW p l e rmX9_call s m args below meth c H locs (va_Qi (fun r (_ : Unit) => K r) (fun _ => kPost D A (wF cy ad hh aa pa u)) A) A 0 ls [] := by
  obtain ⟨hx, hb, hr, hml, hown, hts, hlocks, hK, hA⟩ := id E
  unfold hX9_call_b0 at h1
  refine lv_aload_n hx hb dX9_call_0 rfl (lv_at hl 0 rfl) ?_
  refine k_get (v := .ref (hh 0)) (C := RX9) (T := TX9) (N := 9) hx hb hts inX9_call_X9 hown hK hP 0 (wF_c0 _ _ _ _ _ _) rfl 0 (by decide) lkX9_call_10 (fFs_0 _ _ _ _) dX9_call_1 ?_
  refine k_get (v := .ref ((aa 0) 0)) (C := RX8) (T := TX8) (N := 13) hx hb hts inX9_call_X8 hown hK hP 5 (wF_c5 _ _ _ _ _ _) rfl 0 (by decide) lkX9_call_87 (sFs_0 _ _) dX9_call_4 ?_
  refine lv_bipush (v := 12) hx hb dX9_call_7 rfl ?_
  refine k_iald (k := 12) hx hb hK hP 6 (wF_c6 _ _ _ _ _ _) rfl rfl dX9_call_9 ?_
  refine lv_istore_n (lv' := [(3, .int (sC (fN u) 12)), (0, .ref (ad 0)), (1, .int x1), (2, .int x2)]) hx hb dX9_call_10 rfl hl (by decide) rfl (fun ls hl => ?_)
  refine lv_iload_n hx hb dX9_call_11 rfl (lv_at hl 2 rfl) ?_
  refine lv_if_lt (tgt := 26) hx hb dX9_call_12 (by decide) (fun c12 => ?_) (fun c12 => ?_)
  · replace h1 := Ok.pos c12 h1
    exact tX9_call_b26 K E u H locs ls (lv_sub hl [] rfl) hP hD hS h1
  · replace h1 := Ok.neg c12 h1
    refine lv_iload_n hx hb dX9_call_15 rfl (lv_at hl 2 rfl) ?_
    refine lv_iload_n hx hb dX9_call_16 rfl (lv_at hl 0 rfl) ?_
    refine lv_icmp_ge (tgt := 26) hx hb dX9_call_17 (by decide) (fun c17 => ?_) (fun c17 => ?_)
    · replace h1 := Ok.pos c17 h1
      exact tX9_call_b26 K E u H locs ls (lv_sub hl [] rfl) hP hD hS h1
    · replace h1 := Ok.neg c17 h1
      refine lv_iload_n hx hb dX9_call_20 rfl (lv_at hl 2 rfl) ?_
      refine lv_bipush (v := 20) hx hb dX9_call_21 rfl ?_
      refine lv_icmp_lt (tgt := 36) hx hb dX9_call_23 (by decide) (fun c23 => ?_) (fun c23 => ?_)
      · replace h1 := Ok.pos c23 h1
        refine lv_iload_n hx hb dX9_call_36 rfl (lv_at hl 3 rfl) ?_
        refine lv_if_lt (tgt := 45) hx hb dX9_call_37 (by decide) (fun c37 => ?_) (fun c37 => ?_)
        · replace h1 := Ok.pos c37 h1
          exact tX9_call_b45 K E u H locs ls (lv_sub hl [] rfl) hP hD hS h1
        · replace h1 := Ok.neg c37 h1
          refine lv_iload_n hx hb dX9_call_40 rfl (lv_at hl 3 rfl) ?_
          refine lv_iconst (v := 4) hx hb dX9_call_41 rfl ?_
          refine lv_icmp_lt (tgt := 55) hx hb dX9_call_42 (by decide) (fun c42 => ?_) (fun c42 => ?_)
          · replace h1 := Ok.pos c42 h1
            refine lv_aload_n hx hb dX9_call_55 rfl (lv_at hl 1 rfl) ?_
            refine k_get (v := .ref (hh 0)) (C := RX9) (T := TX9) (N := 9) hx hb hts inX9_call_X9 hown hK hP 0 (wF_c0 _ _ _ _ _ _) rfl 0 (by decide) lkX9_call_10 (fFs_0 _ _ _ _) dX9_call_56 ?_
            refine k_get (v := .ref ((aa 0) 9)) (C := RX8) (T := TX8) (N := 13) hx hb hts inX9_call_X8 hown hK hP 5 (wF_c5 _ _ _ _ _ _) rfl 9 (by decide) lkX9_call_159 (sFs_9 _ _) dX9_call_59 ?_
            refine lv_iload_n hx hb dX9_call_62 rfl (lv_at hl 0 rfl) ?_
            refine lv_iconst (v := 1) hx hb dX9_call_63 rfl ?_
            refine lv_isub hx hb dX9_call_64 ?_
            refine lv_iload_n hx hb dX9_call_65 rfl (lv_at hl 2 rfl) ?_
            refine lv_isub hx hb dX9_call_66 ?_
            refine lv_bipush (v := 20) hx hb dX9_call_67 rfl ?_
            refine lv_irem hx hb dX9_call_69 (by decide) ?_
            refine lv_iconst (v := 4) hx hb dX9_call_70 rfl ?_
            refine lv_imul hx hb dX9_call_71 ?_
            refine lv_iload_n hx hb dX9_call_72 rfl (lv_at hl 3 rfl) ?_
            refine lv_iadd hx hb dX9_call_73 ?_
            refine kc_rS (As := [.ref ((aa 0) 9), .int ((((((sC (fN u) 12) - 1) - x1) - (((sC (fN u) 12) - 1) - x1) / 20 * 20) * 4) + x2)]) (rest := []) h1 ⟨hx, hb, hml, hown, hts⟩ (cX9_atM l D cy ((aa 0) 9) H.size 80 (sL (fN u)) ((((((sC (fN u) 12) - 1) - x1) - (((sC (fN u) 12) - 1) - x1) / 20 * 20) * 4) + x2)) (va_cwS 2 hts gX9_call_X9_at rfl rfl rfl heX9_at ⟨Nat.le_of_ble_eq_true rfl, Nat.le_of_ble_eq_true rfl⟩) hK (k_pick (k := 15) (wF_c15 _ _ _ _ _ _)) hP hD hS hA rfl hl.1 rfl (Nat.le_of_ble_eq_true rfl) dX9_call_74 ⟨Nat.zero_le _, Nat.zero_le _⟩ (fun r74 H locs h1 hP hS => ?_)
            exact kret_r hx hb hr hlocks hP hD hS h1 dX9_call_77
          · replace h1 := Ok.neg c42 h1
            exact tX9_call_b45 K E u H locs ls (lv_sub hl [] rfl) hP hD hS h1
      · replace h1 := Ok.neg c23 h1
        exact tX9_call_b26 K E u H locs ls (lv_sub hl [] rfl) hP hD hS h1
def hX9_call (p1 : Int32) (p2 : Int32) (u : FS) : Option (Int32) := hX9_call_b0 p1 p2 u
set_option maxHeartbeats 4000000 in
set_option maxRecDepth 100000 in
theorem cX9_callM (l : Launch) (D : va_G) (cy : Nat → ClassId) (ad : Nat → Nat) (hh : Nat → Nat) (aa : Nat → Nat → Nat) (pa : Nat → Nat) (sz : Nat) (u : FS) (p1 : Int32) (p2 : Int32) : ∀ (K : Int32 → Prop), Ok (hX9_call p1 p2 u) K → Met l yX9_call wsX9_call rmX9_call (va_Pc [.ref (ad 0), .int p1, .int p2] (kPre D cy sz (wF cy ad hh aa pa u))) (va_Qi (fun r (_ : Unit) => K r) (fun _ => kPost D (va_A (wF cy ad hh aa pa u) sz) (wF cy ad hh aa pa u)) (va_A (wF cy ad hh aa pa u) sz)) 0 0 (va_A (wF cy ad hh aa pa u) sz) := by
  intro K h1
  refine Met.ofW (cc := cX9_call) (maxL := 4) (ret := (some .int)) (by decide) rfl ?_
  intro p e s m args below meth c s₁ B hml hv
  obtain ⟨rfl, hsz, hP, hK, hD0⟩ := hv
  subst hsz
  have E : mE D cy RX9 cX9_call 4 (some .int) wsX9_call (va_A (wF cy ad hh aa pa u) s.heap.size) p s m _ meth c := ⟨B.exec, B.bytes, B.returns, hml, findClass_of_methodNamed B.named, atoms_spec (ws := wsX9_call) B.pre, B.notSynchronized, hK, fun q h => Or.inr h⟩
  have hl := lv_entry ([.ref (ad 0), .int p1, .int p2]) (n := 4) (Nat.le_of_ble_eq_true rfl)
  rw [lg_entry_eq]
  generalize (lg_sl ([.ref (ad 0), .int p1, .int p2]) ++ List.replicate (4 - (lg_sl ([.ref (ad 0), .int p1, .int p2])).length) Slot.unset).toArray = ls at hl ⊢
  exact tX9_call_b0 K E u p1 p2 _ _ _ hl hP hD0.self va_S.rf h1
-- X9_tide
theorem inX9_tide_X9 : ∀ w ∈ u_ws RX9 TX9 9, w ∈ wsX9_tide := k_lays 10 rfl
theorem lkX9_tide_10 : Cond.fieldLink RX9 10 "FerryRamp" "now" "LFerryRamp$State;" ∈ wsX9_tide := List.mem_of_getElem? (i := 3) rfl
abbrev rmX9_tide : Room := { frames := 1, cells := 0, slots := 0, locals := 25 }
def hX9_tide_b0 (x1 : Int32) (u : FS) : Option (Int32) :=
  (if 0 ≤ x1 then bnd (fX8_tideAt x1 (fN u)) (fun r19 => some r19) else none)
set_option maxHeartbeats 4000000 in
set_option maxRecDepth 100000 in
theorem tX9_tide_b0 {p : Program} {l : Launch} {e : Env} {s : State} {m : MethodId} {args : Array Value} {below : List Frame} {meth : Method} {c : Code} {D : va_G} {cy : Nat → ClassId} {A : Nat → Prop} {ad : Nat → Nat} {hh : Nat → Nat} {aa : Nat → Nat → Nat} {pa : Nat → Nat} (K : Int32 → Prop) (E : mE D cy RX9 cX9_tide 2 (some .int) wsX9_tide A p s m args meth c) (u : FS)
     (x1 : Int32) (H : Heap) (locs : List Loc) (ls : Array Slot) (hl : lv_has ls 2 [(0, .ref (ad 0)), (1, .int x1)]) (hP : va_P D kCl (wF cy ad hh aa pa u) H) (hD : va_D A (wF cy ad hh aa pa u)) (hS : va_S A s.heap H locs) (h1 : Ok (hX9_tide_b0 x1 u) K) :
    kW p l e rmX9_tide s m args below meth c H locs (va_Qi (fun r (_ : Unit) => K r) (fun _ => kPost D A (wF cy ad hh aa pa u)) A) A 0 ls [] := by
  obtain ⟨hx, hb, hr, hml, hown, hts, hlocks, hK, hA⟩ := id E
  unfold hX9_tide_b0 at h1
  refine lv_iload_n hx hb dX9_tide_0 rfl (lv_at hl 1 rfl) ?_
  refine lv_if_ge (tgt := 14) hx hb dX9_tide_1 (by decide) (fun c1 => ?_) (fun c1 => ?_)
  · replace h1 := Ok.pos c1 h1
    refine lv_aload_n hx hb dX9_tide_14 rfl (lv_at hl 0 rfl) ?_
    refine k_get (v := .ref (hh 0)) (C := RX9) (T := TX9) (N := 9) hx hb hts inX9_tide_X9 hown hK hP 0 (wF_c0 _ _ _ _ _ _) rfl 0 (by decide) lkX9_tide_10 (fFs_0 _ _ _ _) dX9_tide_15 ?_
    refine lv_iload_n hx hb dX9_tide_18 rfl (lv_at hl 1 rfl) ?_
    refine kc_rV (b := (hh 0)) (As := [.int x1]) (rest := []) h1 ⟨hx, hb, hml, hown, hts⟩ (cX8_tideAtM l D cy (hh 0) (aa 0) H.size (fN u) x1) (cwV 1 hts gX9_tide_X8_tideAt rfl rfl rfl hdX8_tideAt ⟨Nat.le_of_ble_eq_true rfl, Nat.le_of_ble_eq_true rfl⟩) hK (wF_sel1 _ _ _ _ _ _) hP hD hS hA (q0 := 0) rfl rfl rfl hl.1 rfl (Nat.le_of_ble_eq_true rfl) dX9_tide_19 ⟨Nat.zero_le _, Nat.zero_le _⟩ (fun r19 H locs h1 hP hS => ?_)
    exact kret_r hx hb hr hlocks hP hD hS h1 dX9_tide_22
  · replace h1 := Ok.neg c1 h1
    exact h1.no
def hX9_tide (p1 : Int32) (u : FS) : Option (Int32) := hX9_tide_b0 p1 u
set_option maxHeartbeats 4000000 in
set_option maxRecDepth 100000 in
theorem cX9_tideM (l : Launch) (D : va_G) (cy : Nat → ClassId) (ad : Nat → Nat) (hh : Nat → Nat) (aa : Nat → Nat → Nat) (pa : Nat → Nat) (sz : Nat) (u : FS) (p1 : Int32) : ∀ (K : Int32 → Prop), Ok (hX9_tide p1 u) K → Met l yX9_tide wsX9_tide rmX9_tide (va_Pc [.ref (ad 0), .int p1] (kPre D cy sz (wF cy ad hh aa pa u))) (va_Qi (fun r (_ : Unit) => K r) (fun _ => kPost D (va_A (wF cy ad hh aa pa u) sz) (wF cy ad hh aa pa u)) (va_A (wF cy ad hh aa pa u) sz)) 0 0 (va_A (wF cy ad hh aa pa u) sz) := by
  intro K h1
  refine Met.ofW (cc := cX9_tide) (maxL := 2) (ret := (some .int)) (by decide) rfl ?_
  intro p e s m args below meth c s₁ B hml hv
  obtain ⟨rfl, hsz, hP, hK, hD0⟩ := hv
  subst hsz
  have E : mE D cy RX9 cX9_tide 2 (some .int) wsX9_tide (va_A (wF cy ad hh aa pa u) s.heap.size) p s m _ meth c := ⟨B.exec, B.bytes, B.returns, hml, findClass_of_methodNamed B.named, atoms_spec (ws := wsX9_tide) B.pre, B.notSynchronized, hK, fun q h => Or.inr h⟩
  have hl := lv_entry ([.ref (ad 0), .int p1]) (n := 2) (Nat.le_of_ble_eq_true rfl)
  rw [lg_entry_eq]
  generalize (lg_sl ([.ref (ad 0), .int p1]) ++ List.replicate (2 - (lg_sl ([.ref (ad 0), .int p1])).length) Slot.unset).toArray = ls at hl ⊢
  exact tX9_tide_b0 K E u p1 _ _ _ hl hP hD0.self va_S.rf h1
-- X9_deck
theorem inX9_deck_X9 : ∀ w ∈ u_ws RX9 TX9 9, w ∈ wsX9_deck := k_lays 15 rfl
theorem lkX9_deck_10 : Cond.fieldLink RX9 10 "FerryRamp" "now" "LFerryRamp$State;" ∈ wsX9_deck := List.mem_of_getElem? (i := 3) rfl
abbrev rmX9_deck : Room := { frames := 2, cells := 0, slots := 0, locals := 48 }
def hX9_deck_b0 (x1 : Int32) (u : FS) : Option (Int32) :=
  (if 0 ≤ x1 then bnd (fX8_deckAt x1 (fN u)) (fun r19 => some r19) else none)
set_option maxHeartbeats 4000000 in
set_option maxRecDepth 100000 in
theorem tX9_deck_b0 {p : Program} {l : Launch} {e : Env} {s : State} {m : MethodId} {args : Array Value} {below : List Frame} {meth : Method} {c : Code} {D : va_G} {cy : Nat → ClassId} {A : Nat → Prop} {ad : Nat → Nat} {hh : Nat → Nat} {aa : Nat → Nat → Nat} {pa : Nat → Nat} (K : Int32 → Prop) (E : mE D cy RX9 cX9_deck 2 (some .int) wsX9_deck A p s m args meth c) (u : FS)
     (x1 : Int32) (H : Heap) (locs : List Loc) (ls : Array Slot) (hl : lv_has ls 2 [(0, .ref (ad 0)), (1, .int x1)]) (hP : va_P D kCl (wF cy ad hh aa pa u) H) (hD : va_D A (wF cy ad hh aa pa u)) (hS : va_S A s.heap H locs) (h1 : Ok (hX9_deck_b0 x1 u) K) :
    kW p l e rmX9_deck s m args below meth c H locs (va_Qi (fun r (_ : Unit) => K r) (fun _ => kPost D A (wF cy ad hh aa pa u)) A) A 0 ls [] := by
  obtain ⟨hx, hb, hr, hml, hown, hts, hlocks, hK, hA⟩ := id E
  unfold hX9_deck_b0 at h1
  refine lv_iload_n hx hb dX9_deck_0 rfl (lv_at hl 1 rfl) ?_
  refine lv_if_ge (tgt := 14) hx hb dX9_deck_1 (by decide) (fun c1 => ?_) (fun c1 => ?_)
  · replace h1 := Ok.pos c1 h1
    refine lv_aload_n hx hb dX9_deck_14 rfl (lv_at hl 0 rfl) ?_
    refine k_get (v := .ref (hh 0)) (C := RX9) (T := TX9) (N := 9) hx hb hts inX9_deck_X9 hown hK hP 0 (wF_c0 _ _ _ _ _ _) rfl 0 (by decide) lkX9_deck_10 (fFs_0 _ _ _ _) dX9_deck_15 ?_
    refine lv_iload_n hx hb dX9_deck_18 rfl (lv_at hl 1 rfl) ?_
    refine kc_rV (b := (hh 0)) (As := [.int x1]) (rest := []) h1 ⟨hx, hb, hml, hown, hts⟩ (cX8_deckAtM l D cy (hh 0) (aa 0) H.size (fN u) x1) (cwV 1 hts gX9_deck_X8_deckAt rfl rfl rfl hdX8_deckAt ⟨Nat.le_of_ble_eq_true rfl, Nat.le_of_ble_eq_true rfl⟩) hK (wF_sel1 _ _ _ _ _ _) hP hD hS hA (q0 := 0) rfl rfl rfl hl.1 rfl (Nat.le_of_ble_eq_true rfl) dX9_deck_19 ⟨Nat.zero_le _, Nat.zero_le _⟩ (fun r19 H locs h1 hP hS => ?_)
    exact kret_r hx hb hr hlocks hP hD hS h1 dX9_deck_22
  · replace h1 := Ok.neg c1 h1
    exact h1.no
def hX9_deck (p1 : Int32) (u : FS) : Option (Int32) := hX9_deck_b0 p1 u
set_option maxHeartbeats 4000000 in
set_option maxRecDepth 100000 in
theorem cX9_deckM (l : Launch) (D : va_G) (cy : Nat → ClassId) (ad : Nat → Nat) (hh : Nat → Nat) (aa : Nat → Nat → Nat) (pa : Nat → Nat) (sz : Nat) (u : FS) (p1 : Int32) : ∀ (K : Int32 → Prop), Ok (hX9_deck p1 u) K → Met l yX9_deck wsX9_deck rmX9_deck (va_Pc [.ref (ad 0), .int p1] (kPre D cy sz (wF cy ad hh aa pa u))) (va_Qi (fun r (_ : Unit) => K r) (fun _ => kPost D (va_A (wF cy ad hh aa pa u) sz) (wF cy ad hh aa pa u)) (va_A (wF cy ad hh aa pa u) sz)) 0 0 (va_A (wF cy ad hh aa pa u) sz) := by
  intro K h1
  refine Met.ofW (cc := cX9_deck) (maxL := 2) (ret := (some .int)) (by decide) rfl ?_
  intro p e s m args below meth c s₁ B hml hv
  obtain ⟨rfl, hsz, hP, hK, hD0⟩ := hv
  subst hsz
  have E : mE D cy RX9 cX9_deck 2 (some .int) wsX9_deck (va_A (wF cy ad hh aa pa u) s.heap.size) p s m _ meth c := ⟨B.exec, B.bytes, B.returns, hml, findClass_of_methodNamed B.named, atoms_spec (ws := wsX9_deck) B.pre, B.notSynchronized, hK, fun q h => Or.inr h⟩
  have hl := lv_entry ([.ref (ad 0), .int p1]) (n := 2) (Nat.le_of_ble_eq_true rfl)
  rw [lg_entry_eq]
  generalize (lg_sl ([.ref (ad 0), .int p1]) ++ List.replicate (2 - (lg_sl ([.ref (ad 0), .int p1])).length) Slot.unset).toArray = ls at hl ⊢
  exact tX9_deck_b0 K E u p1 _ _ _ hl hP hD0.self va_S.rf h1
-- X9_whyNot
theorem inX9_whyNot_X9 : ∀ w ∈ u_ws RX9 TX9 9, w ∈ wsX9_whyNot := k_lays 38 rfl
theorem lkX9_whyNot_10 : Cond.fieldLink RX9 10 "FerryRamp" "now" "LFerryRamp$State;" ∈ wsX9_whyNot := List.mem_of_getElem? (i := 3) rfl
abbrev rmX9_whyNot : Room := { frames := 2, cells := 0, slots := 0, locals := 52 }
def hX9_whyNot_b0 (x1 : Int32) (u : FS) : Option (Int32) :=
  bnd (fX8_placeOf x1 (fN u)) (fun r5 => (if r5 = (-1) then none else bnd (fX8_reasonFor x1 (fN u)) (fun r27 => some r27)))
set_option maxHeartbeats 4000000 in
set_option maxRecDepth 100000 in
theorem tX9_whyNot_b0 {p : Program} {l : Launch} {e : Env} {s : State} {m : MethodId} {args : Array Value} {below : List Frame} {meth : Method} {c : Code} {D : va_G} {cy : Nat → ClassId} {A : Nat → Prop} {ad : Nat → Nat} {hh : Nat → Nat} {aa : Nat → Nat → Nat} {pa : Nat → Nat} (K : Int32 → Prop) (E : mE D cy RX9 cX9_whyNot 2 (some .int) wsX9_whyNot A p s m args meth c) (u : FS)
     (x1 : Int32) (H : Heap) (locs : List Loc) (ls : Array Slot) (hl : lv_has ls 2 [(0, .ref (ad 0)), (1, .int x1)]) (hP : va_P D kCl (wF cy ad hh aa pa u) H) (hD : va_D A (wF cy ad hh aa pa u)) (hS : va_S A s.heap H locs) (h1 : Ok (hX9_whyNot_b0 x1 u) K) :
    kW p l e rmX9_whyNot s m args below meth c H locs (va_Qi (fun r (_ : Unit) => K r) (fun _ => kPost D A (wF cy ad hh aa pa u)) A) A 0 ls [] := by
  obtain ⟨hx, hb, hr, hml, hown, hts, hlocks, hK, hA⟩ := id E
  unfold hX9_whyNot_b0 at h1
  refine lv_aload_n hx hb dX9_whyNot_0 rfl (lv_at hl 0 rfl) ?_
  refine k_get (v := .ref (hh 0)) (C := RX9) (T := TX9) (N := 9) hx hb hts inX9_whyNot_X9 hown hK hP 0 (wF_c0 _ _ _ _ _ _) rfl 0 (by decide) lkX9_whyNot_10 (fFs_0 _ _ _ _) dX9_whyNot_1 ?_
  refine lv_iload_n hx hb dX9_whyNot_4 rfl (lv_at hl 1 rfl) ?_
  refine kc_rV (b := (hh 0)) (As := [.int x1]) (rest := []) h1 ⟨hx, hb, hml, hown, hts⟩ (cX8_placeOfM l D cy (hh 0) (aa 0) H.size (fN u) x1) (cwV 1 hts gX9_whyNot_X8_placeOf rfl rfl rfl hdX8_placeOf ⟨Nat.le_of_ble_eq_true rfl, Nat.le_of_ble_eq_true rfl⟩) hK (wF_sel1 _ _ _ _ _ _) hP hD hS hA (q0 := 0) rfl rfl rfl hl.1 rfl (Nat.le_of_ble_eq_true rfl) dX9_whyNot_5 ⟨Nat.zero_le _, Nat.zero_le _⟩ (fun r5 H locs h1 hP hS => ?_)
  refine lv_iconst (v := (-1)) hx hb dX9_whyNot_8 rfl ?_
  refine lv_icmp_ne (tgt := 22) hx hb dX9_whyNot_9 (by decide) (fun c9 => ?_) (fun c9 => ?_)
  · replace h1 := Ok.neg c9 h1
    refine lv_aload_n hx hb dX9_whyNot_22 rfl (lv_at hl 0 rfl) ?_
    refine k_get (v := .ref (hh 0)) (C := RX9) (T := TX9) (N := 9) hx hb hts inX9_whyNot_X9 hown hK hP 0 (wF_c0 _ _ _ _ _ _) rfl 0 (by decide) lkX9_whyNot_10 (fFs_0 _ _ _ _) dX9_whyNot_23 ?_
    refine lv_iload_n hx hb dX9_whyNot_26 rfl (lv_at hl 1 rfl) ?_
    refine kc_rV (b := (hh 0)) (As := [.int x1]) (rest := []) h1 ⟨hx, hb, hml, hown, hts⟩ (cX8_reasonForM l D cy (hh 0) (aa 0) H.size (fN u) x1) (cwV 1 hts gX9_whyNot_X8_reasonFor rfl rfl rfl hdX8_reasonFor ⟨Nat.le_of_ble_eq_true rfl, Nat.le_of_ble_eq_true rfl⟩) hK (wF_sel1 _ _ _ _ _ _) hP hD hS hA (q0 := 0) rfl rfl rfl hl.1 rfl (Nat.le_of_ble_eq_true rfl) dX9_whyNot_27 ⟨Nat.zero_le _, Nat.zero_le _⟩ (fun r27 H locs h1 hP hS => ?_)
    exact kret_r hx hb hr hlocks hP hD hS h1 dX9_whyNot_30
  · replace h1 := Ok.pos c9 h1
    exact h1.no
def hX9_whyNot (p1 : Int32) (u : FS) : Option (Int32) := hX9_whyNot_b0 p1 u
set_option maxHeartbeats 4000000 in
set_option maxRecDepth 100000 in
theorem cX9_whyNotM (l : Launch) (D : va_G) (cy : Nat → ClassId) (ad : Nat → Nat) (hh : Nat → Nat) (aa : Nat → Nat → Nat) (pa : Nat → Nat) (sz : Nat) (u : FS) (p1 : Int32) : ∀ (K : Int32 → Prop), Ok (hX9_whyNot p1 u) K → Met l yX9_whyNot wsX9_whyNot rmX9_whyNot (va_Pc [.ref (ad 0), .int p1] (kPre D cy sz (wF cy ad hh aa pa u))) (va_Qi (fun r (_ : Unit) => K r) (fun _ => kPost D (va_A (wF cy ad hh aa pa u) sz) (wF cy ad hh aa pa u)) (va_A (wF cy ad hh aa pa u) sz)) 0 0 (va_A (wF cy ad hh aa pa u) sz) := by
  intro K h1
  refine Met.ofW (cc := cX9_whyNot) (maxL := 2) (ret := (some .int)) (by decide) rfl ?_
  intro p e s m args below meth c s₁ B hml hv
  obtain ⟨rfl, hsz, hP, hK, hD0⟩ := hv
  subst hsz
  have E : mE D cy RX9 cX9_whyNot 2 (some .int) wsX9_whyNot (va_A (wF cy ad hh aa pa u) s.heap.size) p s m _ meth c := ⟨B.exec, B.bytes, B.returns, hml, findClass_of_methodNamed B.named, atoms_spec (ws := wsX9_whyNot) B.pre, B.notSynchronized, hK, fun q h => Or.inr h⟩
  have hl := lv_entry ([.ref (ad 0), .int p1]) (n := 2) (Nat.le_of_ble_eq_true rfl)
  rw [lg_entry_eq]
  generalize (lg_sl ([.ref (ad 0), .int p1]) ++ List.replicate (2 - (lg_sl ([.ref (ad 0), .int p1])).length) Slot.unset).toArray = ls at hl ⊢
  exact tX9_whyNot_b0 K E u p1 _ _ _ hl hP hD0.self va_S.rf h1
-- X9_boardIn
theorem inX9_boardIn_X9 : ∀ w ∈ u_ws RX9 TX9 9, w ∈ wsX9_boardIn := k_lays 116 rfl
theorem lkX9_boardIn_16 : Cond.fieldLink RX9 16 "FerryRamp" "trial" "LFerryRamp$State;" ∈ wsX9_boardIn := List.mem_of_getElem? (i := 3) rfl
theorem lkX9_boardIn_10 : Cond.fieldLink RX9 10 "FerryRamp" "now" "LFerryRamp$State;" ∈ wsX9_boardIn := List.mem_of_getElem? (i := 4) rfl
abbrev rmX9_boardIn : Room := { frames := 5, cells := 0, slots := 0, locals := 121 }
def hX9_boardIn_b12 (u : FS) : Option (Int32 × FS) :=
  none
set_option maxHeartbeats 4000000 in
set_option maxRecDepth 100000 in
theorem tX9_boardIn_b12 {p : Program} {l : Launch} {e : Env} {s : State} {m : MethodId} {args : Array Value} {below : List Frame} {meth : Method} {c : Code} {D : va_G} {cy : Nat → ClassId} {A : Nat → Prop} {ad : Nat → Nat} {hh : Nat → Nat} {aa : Nat → Nat → Nat} {pa : Nat → Nat} (K : Int32 × FS → Prop) (E : mE D cy RX9 cX9_boardIn 2 (some .int) wsX9_boardIn A p s m args meth c)
     (u : FS) (H : Heap) (locs : List Loc) (ls : Array Slot) (hl : lv_has ls 2 []) (hP : va_P D kCl (wF cy ad hh aa pa u) H) (hD : va_D A (wF cy ad hh aa pa u)) (hS : va_S A s.heap H locs) (h1 : Ok (hX9_boardIn_b12 u) K) :
    kW p l e rmX9_boardIn s m args below meth c H locs (va_Qi (fun r q => K (r, q)) (fun q => kPost D A (wF cy ad hh aa pa q)) A) A 12 ls [] := by
  obtain ⟨hx, hb, hr, hml, hown, hts, hlocks, hK, hA⟩ := id E
  unfold hX9_boardIn_b12 at h1
  exact h1.no
def hX9_boardIn_b0 (x1 : Int32) (u : FS) : Option (Int32 × FS) :=
  (if x1 < 1 then hX9_boardIn_b12 u else (if x1 ≤ 200 then bnd (fX8_copyFrom (fT u) (fN u)) (fun u30 => bnd2 (fX8_passTicks x1 (fT (gT u u30))) (fun r38 u38 => some (r38, gT (gT u u30) u38))) else hX9_boardIn_b12 u))
set_option maxHeartbeats 4000000 in
set_option maxRecDepth 100000 in
theorem tX9_boardIn_b0 {p : Program} {l : Launch} {e : Env} {s : State} {m : MethodId} {args : Array Value} {below : List Frame} {meth : Method} {c : Code} {D : va_G} {cy : Nat → ClassId} {A : Nat → Prop} {ad : Nat → Nat} {hh : Nat → Nat} {aa : Nat → Nat → Nat} {pa : Nat → Nat} (K : Int32 × FS → Prop) (E : mE D cy RX9 cX9_boardIn 2 (some .int) wsX9_boardIn A p s m args meth c)
     (x1 : Int32) (u : FS) (H : Heap) (locs : List Loc) (ls : Array Slot) (hl : lv_has ls 2 [(0, .ref (ad 0)), (1, .int x1)]) (hP : va_P D kCl (wF cy ad hh aa pa u) H) (hD : va_D A (wF cy ad hh aa pa u)) (hS : va_S A s.heap H locs) (h1 : Ok (hX9_boardIn_b0 x1 u) K) :
    kW p l e rmX9_boardIn s m args below meth c H locs (va_Qi (fun r q => K (r, q)) (fun q => kPost D A (wF cy ad hh aa pa q)) A) A 0 ls [] := by
  obtain ⟨hx, hb, hr, hml, hown, hts, hlocks, hK, hA⟩ := id E
  unfold hX9_boardIn_b0 at h1
  refine lv_iload_n hx hb dX9_boardIn_0 rfl (lv_at hl 1 rfl) ?_
  refine lv_iconst (v := 1) hx hb dX9_boardIn_1 rfl ?_
  refine lv_icmp_lt (tgt := 12) hx hb dX9_boardIn_2 (by decide) (fun c2 => ?_) (fun c2 => ?_)
  · replace h1 := Ok.pos c2 h1
    exact tX9_boardIn_b12 K E u H locs ls (lv_sub hl [] rfl) hP hD hS h1
  · replace h1 := Ok.neg c2 h1
    refine lv_iload_n hx hb dX9_boardIn_5 rfl (lv_at hl 1 rfl) ?_
    refine lv_sipush (v := 200) hx hb dX9_boardIn_6 rfl ?_
    refine lv_icmp_le (tgt := 22) hx hb dX9_boardIn_9 (by decide) (fun c9 => ?_) (fun c9 => ?_)
    · replace h1 := Ok.pos c9 h1
      refine lv_aload_n hx hb dX9_boardIn_22 rfl (lv_at hl 0 rfl) ?_
      refine k_get (v := .ref (hh 1)) (C := RX9) (T := TX9) (N := 9) hx hb hts inX9_boardIn_X9 hown hK hP 0 (wF_c0 _ _ _ _ _ _) rfl 1 (by decide) lkX9_boardIn_16 (fFs_1 _ _ _ _) dX9_boardIn_23 ?_
      refine lv_aload_n hx hb dX9_boardIn_26 rfl (lv_at hl 0 rfl) ?_
      refine k_get (v := .ref (hh 0)) (C := RX9) (T := TX9) (N := 9) hx hb hts inX9_boardIn_X9 hown hK hP 0 (wF_c0 _ _ _ _ _ _) rfl 0 (by decide) lkX9_boardIn_10 (fFs_0 _ _ _ _) dX9_boardIn_27 ?_
      refine kc_vV (b := (hh 1)) (As := [.ref (hh 0)]) (rest := []) h1 ⟨hx, hb, hml, hown, hts⟩ (cX8_copyFromM l D cy (hh 1) (aa 1) (hh 0) (aa 0) H.size (fT u) (fN u)) (cwV 1 hts gX9_boardIn_X8_copyFrom rfl rfl rfl hdX8_copyFrom ⟨Nat.le_of_ble_eq_true rfl, Nat.le_of_ble_eq_true rfl⟩) hK (wF_sel2_1 _ _ _ _ _ _) hP hD hS hA (q0 := 0) rfl rfl rfl hl.1 rfl (Nat.le_of_ble_eq_true rfl) dX9_boardIn_30 ⟨Nat.zero_le _, Nat.zero_le _⟩ (fun u30 H locs h1 hP hD hS => ?_)
      replace hP := kP_perm (wF_uns2_1_0 cy ad hh aa pa u u30).symm hP
      replace hD := kD_perm (wF_uns2_1_0 cy ad hh aa pa u u30).symm hD
      refine lv_aload_n hx hb dX9_boardIn_33 rfl (lv_at hl 0 rfl) ?_
      refine k_get (v := .ref (hh 1)) (C := RX9) (T := TX9) (N := 9) hx hb hts inX9_boardIn_X9 hown hK hP 0 (wF_c0 _ _ _ _ _ _) rfl 1 (by decide) lkX9_boardIn_16 (fFs_1 _ _ _ _) dX9_boardIn_34 ?_
      refine lv_iload_n hx hb dX9_boardIn_37 rfl (lv_at hl 1 rfl) ?_
      refine kc_iV (b := (hh 1)) (As := [.int x1]) (rest := []) h1 ⟨hx, hb, hml, hown, hts⟩ (cX8_passTicksM l D cy (hh 1) (aa 1) H.size (fT (gT u u30)) x1) (cwV 1 hts gX9_boardIn_X8_passTicks rfl rfl rfl hdX8_passTicks ⟨Nat.le_of_ble_eq_true rfl, Nat.le_of_ble_eq_true rfl⟩) hK (wF_sel2 _ _ _ _ _ _) hP hD hS hA (q0 := 0) rfl rfl rfl hl.1 rfl (Nat.le_of_ble_eq_true rfl) dX9_boardIn_38 ⟨Nat.zero_le _, Nat.zero_le _⟩ (fun r38 u38 H locs h1 hP hD hS => ?_)
      replace hP := kP_perm (wF_uns2_0 cy ad hh aa pa (gT u u30) u38).symm hP
      replace hD := kD_perm (wF_uns2_0 cy ad hh aa pa (gT u u30) u38).symm hD
      exact kret_i hx hb hr hlocks hP hD hS h1 dX9_boardIn_41
    · replace h1 := Ok.neg c9 h1
      exact tX9_boardIn_b12 K E u H locs ls (lv_sub hl [] rfl) hP hD hS h1
def hX9_boardIn (p1 : Int32) (u : FS) : Option (Int32 × FS) := hX9_boardIn_b0 p1 u
set_option maxHeartbeats 4000000 in
set_option maxRecDepth 100000 in
theorem cX9_boardInM (l : Launch) (D : va_G) (cy : Nat → ClassId) (ad : Nat → Nat) (hh : Nat → Nat) (aa : Nat → Nat → Nat) (pa : Nat → Nat) (sz : Nat) (u : FS) (p1 : Int32) : ∀ (K : Int32 → FS → Prop), Ok (hX9_boardIn p1 u) (fun q => K q.1 q.2) → Met l yX9_boardIn wsX9_boardIn rmX9_boardIn (va_Pc [.ref (ad 0), .int p1] (kPre D cy sz (wF cy ad hh aa pa u))) (va_Qi K (fun q => kPost D (va_A (wF cy ad hh aa pa u) sz) (wF cy ad hh aa pa q)) (va_A (wF cy ad hh aa pa u) sz)) 0 0 (va_A (wF cy ad hh aa pa u) sz) := by
  intro K h1
  refine Met.ofW (cc := cX9_boardIn) (maxL := 2) (ret := (some .int)) (by decide) rfl ?_
  intro p e s m args below meth c s₁ B hml hv
  obtain ⟨rfl, hsz, hP, hK, hD0⟩ := hv
  subst hsz
  have E : mE D cy RX9 cX9_boardIn 2 (some .int) wsX9_boardIn (va_A (wF cy ad hh aa pa u) s.heap.size) p s m _ meth c := ⟨B.exec, B.bytes, B.returns, hml, findClass_of_methodNamed B.named, atoms_spec (ws := wsX9_boardIn) B.pre, B.notSynchronized, hK, fun q h => Or.inr h⟩
  have hl := lv_entry ([.ref (ad 0), .int p1]) (n := 2) (Nat.le_of_ble_eq_true rfl)
  rw [lg_entry_eq]
  generalize (lg_sl ([.ref (ad 0), .int p1]) ++ List.replicate (2 - (lg_sl ([.ref (ad 0), .int p1])).length) Slot.unset).toArray = ls at hl ⊢
  exact tX9_boardIn_b0 (fun q => K q.1 q.2) E p1 u _ _ _ hl hP hD0.self va_S.rf h1
-- X9_easyIn
theorem inX9_easyIn_X9 : ∀ w ∈ u_ws RX9 TX9 9, w ∈ wsX9_easyIn := k_lays 119 rfl
theorem lkX9_easyIn_16 : Cond.fieldLink RX9 16 "FerryRamp" "trial" "LFerryRamp$State;" ∈ wsX9_easyIn := List.mem_of_getElem? (i := 3) rfl
theorem lkX9_easyIn_10 : Cond.fieldLink RX9 10 "FerryRamp" "now" "LFerryRamp$State;" ∈ wsX9_easyIn := List.mem_of_getElem? (i := 4) rfl
theorem inX9_easyIn_X8 : ∀ w ∈ u_ws RX8 TX8 13, w ∈ wsX9_easyIn := k_lays 128 rfl
theorem lkX9_easyIn_170 : Cond.fieldLink RX9 170 "FerryRamp$State" "slope" "I" ∈ wsX9_easyIn := List.mem_of_getElem? (i := 5) rfl
theorem lkX9_easyIn_173 : Cond.fieldLink RX9 173 "FerryRamp$State" "lip" "I" ∈ wsX9_easyIn := List.mem_of_getElem? (i := 6) rfl
abbrev rmX9_easyIn : Room := { frames := 5, cells := 0, slots := 0, locals := 121 }
def hX9_easyIn_b9 (u : FS) : Option (Int32 × FS) :=
  none
set_option maxHeartbeats 4000000 in
set_option maxRecDepth 100000 in
theorem tX9_easyIn_b9 {p : Program} {l : Launch} {e : Env} {s : State} {m : MethodId} {args : Array Value} {below : List Frame} {meth : Method} {c : Code} {D : va_G} {cy : Nat → ClassId} {A : Nat → Prop} {ad : Nat → Nat} {hh : Nat → Nat} {aa : Nat → Nat → Nat} {pa : Nat → Nat} (K : Int32 × FS → Prop) (E : mE D cy RX9 cX9_easyIn 3 (some .int) wsX9_easyIn A p s m args meth c)
     (u : FS) (H : Heap) (locs : List Loc) (ls : Array Slot) (hl : lv_has ls 3 []) (hP : va_P D kCl (wF cy ad hh aa pa u) H) (hD : va_D A (wF cy ad hh aa pa u)) (hS : va_S A s.heap H locs) (h1 : Ok (hX9_easyIn_b9 u) K) :
    kW p l e rmX9_easyIn s m args below meth c H locs (va_Qi (fun r q => K (r, q)) (fun q => kPost D A (wF cy ad hh aa pa q)) A) A 9 ls [] := by
  obtain ⟨hx, hb, hr, hml, hown, hts, hlocks, hK, hA⟩ := id E
  unfold hX9_easyIn_b9 at h1
  exact h1.no
def hX9_easyIn_b79 (k32 : Int32 × Int32 × FS → Option (Int32 × FS)) (x1 : Int32) (x2 : Int32) (u : FS) : Option (Int32 × FS) :=
  bnd2 (fX8_passTicks 1 (fT u)) (fun r84 u84 => k32 (x1, x2 + 1, gT u u84))
set_option maxHeartbeats 4000000 in
set_option maxRecDepth 100000 in
theorem tX9_easyIn_b79 {p : Program} {l : Launch} {e : Env} {s : State} {m : MethodId} {args : Array Value} {below : List Frame} {meth : Method} {c : Code} {D : va_G} {cy : Nat → ClassId} {A : Nat → Prop} {ad : Nat → Nat} {hh : Nat → Nat} {aa : Nat → Nat → Nat} {pa : Nat → Nat} (K : Int32 × FS → Prop) (E : mE D cy RX9 cX9_easyIn 3 (some .int) wsX9_easyIn A p s m args meth c)
    (k32 : Int32 × Int32 × FS → Option (Int32 × FS)) (hk32 : ∀ (x1 : Int32) (x2 : Int32) (u : FS) (H : Heap) (locs : List Loc) (ls : Array Slot), lv_has ls 3 [(0, .ref (ad 0)), (1, .int x1), (2, .int x2)] → va_P D kCl (wF cy ad hh aa pa u) H → va_D A (wF cy ad hh aa pa u) → va_S A s.heap H locs → Ok (k32 (x1, x2, u)) K → kW p l e rmX9_easyIn s m args below meth c H locs (va_Qi (fun r q => K (r, q)) (fun q => kPost D A (wF cy ad hh aa pa q)) A) A 32 ls [])
     (x1 : Int32) (x2 : Int32) (u : FS) (H : Heap) (locs : List Loc) (ls : Array Slot) (hl : lv_has ls 3 [(0, .ref (ad 0)), (1, .int x1), (2, .int x2)]) (hP : va_P D kCl (wF cy ad hh aa pa u) H) (hD : va_D A (wF cy ad hh aa pa u)) (hS : va_S A s.heap H locs) (h1 : Ok (hX9_easyIn_b79 k32 x1 x2 u) K) :
    kW p l e rmX9_easyIn s m args below meth c H locs (va_Qi (fun r q => K (r, q)) (fun q => kPost D A (wF cy ad hh aa pa q)) A) A 79 ls [] := by
  obtain ⟨hx, hb, hr, hml, hown, hts, hlocks, hK, hA⟩ := id E
  unfold hX9_easyIn_b79 at h1
  refine lv_aload_n hx hb dX9_easyIn_79 rfl (lv_at hl 0 rfl) ?_
  refine k_get (v := .ref (hh 1)) (C := RX9) (T := TX9) (N := 9) hx hb hts inX9_easyIn_X9 hown hK hP 0 (wF_c0 _ _ _ _ _ _) rfl 1 (by decide) lkX9_easyIn_16 (fFs_1 _ _ _ _) dX9_easyIn_80 ?_
  refine lv_iconst (v := 1) hx hb dX9_easyIn_83 rfl ?_
  refine kc_iV (b := (hh 1)) (As := [.int 1]) (rest := []) h1 ⟨hx, hb, hml, hown, hts⟩ (cX8_passTicksM l D cy (hh 1) (aa 1) H.size (fT u) 1) (cwV 1 hts gX9_easyIn_X8_passTicks rfl rfl rfl hdX8_passTicks ⟨Nat.le_of_ble_eq_true rfl, Nat.le_of_ble_eq_true rfl⟩) hK (wF_sel2 _ _ _ _ _ _) hP hD hS hA (q0 := 0) rfl rfl rfl hl.1 rfl (Nat.le_of_ble_eq_true rfl) dX9_easyIn_84 ⟨Nat.zero_le _, Nat.zero_le _⟩ (fun r84 u84 H locs h1 hP hD hS => ?_)
  replace hP := kP_perm (wF_uns2_0 cy ad hh aa pa u u84).symm hP
  replace hD := kD_perm (wF_uns2_0 cy ad hh aa pa u u84).symm hD
  refine lv_pop hx hb dX9_easyIn_87 rfl ?_
  refine lv_iinc (v := x2 + 1) (lv' := [(2, .int (x2 + 1)), (0, .ref (ad 0)), (1, .int x1)]) hx hb dX9_easyIn_88 hl (k := 2) rfl rfl (by decide) rfl (fun ls hl => ?_)
  refine lv_goto (tgt := 32) hx hb dX9_easyIn_91 (by decide) ?_
  exact hk32 x1 (x2 + 1) (gT u u84) H locs ls (lv_sub hl [1, 2, 0] rfl) hP hD hS h1
def hX9_easyIn_b32 (k32 : Int32 × Int32 × FS → Option (Int32 × FS)) (x1 : Int32) (x2 : Int32) (u : FS) : Option (Int32 × FS) :=
  (if 200 < x2 then some ((-1), u) else bnd (fX8_kindFact x1 0 (fT u)) (fun r52 => (if r52 < (sp (fT u)) then hX9_easyIn_b79 k32 x1 x2 u else bnd (fX8_kindFact x1 1 (fT u)) (fun r71 => (if r71 < (si (fT u)) then hX9_easyIn_b79 k32 x1 x2 u else some (x2, u))))))
set_option maxHeartbeats 4000000 in
set_option maxRecDepth 100000 in
theorem tX9_easyIn_b32 {p : Program} {l : Launch} {e : Env} {s : State} {m : MethodId} {args : Array Value} {below : List Frame} {meth : Method} {c : Code} {D : va_G} {cy : Nat → ClassId} {A : Nat → Prop} {ad : Nat → Nat} {hh : Nat → Nat} {aa : Nat → Nat → Nat} {pa : Nat → Nat} (K : Int32 × FS → Prop) (E : mE D cy RX9 cX9_easyIn 3 (some .int) wsX9_easyIn A p s m args meth c)
    (k32 : Int32 × Int32 × FS → Option (Int32 × FS)) (hk32 : ∀ (x1 : Int32) (x2 : Int32) (u : FS) (H : Heap) (locs : List Loc) (ls : Array Slot), lv_has ls 3 [(0, .ref (ad 0)), (1, .int x1), (2, .int x2)] → va_P D kCl (wF cy ad hh aa pa u) H → va_D A (wF cy ad hh aa pa u) → va_S A s.heap H locs → Ok (k32 (x1, x2, u)) K → kW p l e rmX9_easyIn s m args below meth c H locs (va_Qi (fun r q => K (r, q)) (fun q => kPost D A (wF cy ad hh aa pa q)) A) A 32 ls [])
     (x1 : Int32) (x2 : Int32) (u : FS) (H : Heap) (locs : List Loc) (ls : Array Slot) (hl : lv_has ls 3 [(0, .ref (ad 0)), (1, .int x1), (2, .int x2)]) (hP : va_P D kCl (wF cy ad hh aa pa u) H) (hD : va_D A (wF cy ad hh aa pa u)) (hS : va_S A s.heap H locs) (h1 : Ok (hX9_easyIn_b32 k32 x1 x2 u) K) :
    kW p l e rmX9_easyIn s m args below meth c H locs (va_Qi (fun r q => K (r, q)) (fun q => kPost D A (wF cy ad hh aa pa q)) A) A 32 ls [] := by
  obtain ⟨hx, hb, hr, hml, hown, hts, hlocks, hK, hA⟩ := id E
  unfold hX9_easyIn_b32 at h1
  refine lv_iload_n hx hb dX9_easyIn_32 rfl (lv_at hl 2 rfl) ?_
  refine lv_sipush (v := 200) hx hb dX9_easyIn_33 rfl ?_
  refine lv_icmp_gt (tgt := 94) hx hb dX9_easyIn_36 (by decide) (fun c36 => ?_) (fun c36 => ?_)
  · replace h1 := Ok.pos c36 h1
    refine lv_iconst (v := (-1)) hx hb dX9_easyIn_94 rfl ?_
    exact kret_i hx hb hr hlocks hP hD hS h1 dX9_easyIn_95
  · replace h1 := Ok.neg c36 h1
    refine lv_aload_n hx hb dX9_easyIn_39 rfl (lv_at hl 0 rfl) ?_
    refine k_get (v := .ref (hh 1)) (C := RX9) (T := TX9) (N := 9) hx hb hts inX9_easyIn_X9 hown hK hP 0 (wF_c0 _ _ _ _ _ _) rfl 1 (by decide) lkX9_easyIn_16 (fFs_1 _ _ _ _) dX9_easyIn_40 ?_
    refine k_get (v := .int (sp (fT u))) (C := RX8) (T := TX8) (N := 13) hx hb hts inX9_easyIn_X8 hown hK hP 16 (wF_c16 _ _ _ _ _ _) rfl 11 (by decide) lkX9_easyIn_170 (sFs_11 _ _) dX9_easyIn_43 ?_
    refine lv_aload_n hx hb dX9_easyIn_46 rfl (lv_at hl 0 rfl) ?_
    refine k_get (v := .ref (hh 1)) (C := RX9) (T := TX9) (N := 9) hx hb hts inX9_easyIn_X9 hown hK hP 0 (wF_c0 _ _ _ _ _ _) rfl 1 (by decide) lkX9_easyIn_16 (fFs_1 _ _ _ _) dX9_easyIn_47 ?_
    refine lv_iload_n hx hb dX9_easyIn_50 rfl (lv_at hl 1 rfl) ?_
    refine lv_iconst (v := 0) hx hb dX9_easyIn_51 rfl ?_
    refine kc_rV (b := (hh 1)) (As := [.int x1, .int 0]) (rest := [.int (sp (fT u))]) h1 ⟨hx, hb, hml, hown, hts⟩ (cX8_kindFactM l D cy (hh 1) (aa 1) H.size (fT u) x1 0) (cwV 2 hts gX9_easyIn_X8_kindFact rfl rfl rfl hdX8_kindFact ⟨Nat.le_of_ble_eq_true rfl, Nat.le_of_ble_eq_true rfl⟩) hK (wF_sel2 _ _ _ _ _ _) hP hD hS hA (q0 := 0) rfl rfl rfl hl.1 rfl (Nat.le_of_ble_eq_true rfl) dX9_easyIn_52 ⟨Nat.zero_le _, Nat.zero_le _⟩ (fun r52 H locs h1 hP hS => ?_)
    refine lv_icmp_gt (tgt := 79) hx hb dX9_easyIn_55 (by decide) (fun c55 => ?_) (fun c55 => ?_)
    · replace h1 := Ok.pos c55 h1
      exact tX9_easyIn_b79 K E k32 hk32 x1 x2 u H locs ls (lv_sub hl [0, 1, 2] rfl) hP hD hS h1
    · replace h1 := Ok.neg c55 h1
      refine lv_aload_n hx hb dX9_easyIn_58 rfl (lv_at hl 0 rfl) ?_
      refine k_get (v := .ref (hh 1)) (C := RX9) (T := TX9) (N := 9) hx hb hts inX9_easyIn_X9 hown hK hP 0 (wF_c0 _ _ _ _ _ _) rfl 1 (by decide) lkX9_easyIn_16 (fFs_1 _ _ _ _) dX9_easyIn_59 ?_
      refine k_get (v := .int (si (fT u))) (C := RX8) (T := TX8) (N := 13) hx hb hts inX9_easyIn_X8 hown hK hP 16 (wF_c16 _ _ _ _ _ _) rfl 12 (by decide) lkX9_easyIn_173 (sFs_12 _ _) dX9_easyIn_62 ?_
      refine lv_aload_n hx hb dX9_easyIn_65 rfl (lv_at hl 0 rfl) ?_
      refine k_get (v := .ref (hh 1)) (C := RX9) (T := TX9) (N := 9) hx hb hts inX9_easyIn_X9 hown hK hP 0 (wF_c0 _ _ _ _ _ _) rfl 1 (by decide) lkX9_easyIn_16 (fFs_1 _ _ _ _) dX9_easyIn_66 ?_
      refine lv_iload_n hx hb dX9_easyIn_69 rfl (lv_at hl 1 rfl) ?_
      refine lv_iconst (v := 1) hx hb dX9_easyIn_70 rfl ?_
      refine kc_rV (b := (hh 1)) (As := [.int x1, .int 1]) (rest := [.int (si (fT u))]) h1 ⟨hx, hb, hml, hown, hts⟩ (cX8_kindFactM l D cy (hh 1) (aa 1) H.size (fT u) x1 1) (cwV 2 hts gX9_easyIn_X8_kindFact rfl rfl rfl hdX8_kindFact ⟨Nat.le_of_ble_eq_true rfl, Nat.le_of_ble_eq_true rfl⟩) hK (wF_sel2 _ _ _ _ _ _) hP hD hS hA (q0 := 0) rfl rfl rfl hl.1 rfl (Nat.le_of_ble_eq_true rfl) dX9_easyIn_71 ⟨Nat.zero_le _, Nat.zero_le _⟩ (fun r71 H locs h1 hP hS => ?_)
      refine lv_icmp_gt (tgt := 79) hx hb dX9_easyIn_74 (by decide) (fun c74 => ?_) (fun c74 => ?_)
      · replace h1 := Ok.pos c74 h1
        exact tX9_easyIn_b79 K E k32 hk32 x1 x2 u H locs ls (lv_sub hl [0, 1, 2] rfl) hP hD hS h1
      · replace h1 := Ok.neg c74 h1
        refine lv_iload_n hx hb dX9_easyIn_77 rfl (lv_at hl 2 rfl) ?_
        exact kret_i hx hb hr hlocks hP hD hS h1 dX9_easyIn_78
theorem tX9_easyIn_l32 {p : Program} {l : Launch} {e : Env} {s : State} {m : MethodId} {args : Array Value} {below : List Frame} {meth : Method} {c : Code} {D : va_G} {cy : Nat → ClassId} {A : Nat → Prop} {ad : Nat → Nat} {hh : Nat → Nat} {aa : Nat → Nat → Nat} {pa : Nat → Nat} (K : Int32 × FS → Prop) (E : mE D cy RX9 cX9_easyIn 3 (some .int) wsX9_easyIn A p s m args meth c) : ∀ (n9 : Nat) (x1 : Int32) (x2 : Int32) (u : FS) (H : Heap) (locs : List Loc) (ls : Array Slot), lv_has ls 3 [(0, .ref (ad 0)), (1, .int x1), (2, .int x2)] → va_P D kCl (wF cy ad hh aa pa u) H → va_D A (wF cy ad hh aa pa u) → va_S A s.heap H locs → Ok (lop (fun y z => hX9_easyIn_b32 y z.1 z.2.1 z.2.2) n9 (x1, x2, u)) K → kW p l e rmX9_easyIn s m args below meth c H locs (va_Qi (fun r q => K (r, q)) (fun q => kPost D A (wF cy ad hh aa pa q)) A) A 32 ls [] := by
  intro n9
  induction n9 with
  | zero =>
    intro x1 x2 u H locs ls hl hP hD hS h1
    exact h1.no
  | succ n9 ih =>
    intro x1 x2 u H locs ls hl hP hD hS h1
    exact tX9_easyIn_b32 K E (lop (fun y z => hX9_easyIn_b32 y z.1 z.2.1 z.2.2) n9) (fun x1 x2 u H locs ls hl hP hD hS h1 => ih x1 x2 u H locs ls hl hP hD hS h1) x1 x2 u H locs ls hl hP hD hS h1
def hX9_easyIn_b0 (x1 : Int32) (u : FS) : Option (Int32 × FS) :=
  (if x1 < 0 then hX9_easyIn_b9 u else (if x1 < 4 then bnd (fX8_copyFrom (fT u) (fN u)) (fun u27 => lop (fun y z => hX9_easyIn_b32 y z.1 z.2.1 z.2.2) LF (x1, 0, gT u u27)) else hX9_easyIn_b9 u))
set_option maxHeartbeats 4000000 in
set_option maxRecDepth 100000 in
theorem tX9_easyIn_b0 {p : Program} {l : Launch} {e : Env} {s : State} {m : MethodId} {args : Array Value} {below : List Frame} {meth : Method} {c : Code} {D : va_G} {cy : Nat → ClassId} {A : Nat → Prop} {ad : Nat → Nat} {hh : Nat → Nat} {aa : Nat → Nat → Nat} {pa : Nat → Nat} (K : Int32 × FS → Prop) (E : mE D cy RX9 cX9_easyIn 3 (some .int) wsX9_easyIn A p s m args meth c)
     (x1 : Int32) (u : FS) (H : Heap) (locs : List Loc) (ls : Array Slot) (hl : lv_has ls 3 [(0, .ref (ad 0)), (1, .int x1)]) (hP : va_P D kCl (wF cy ad hh aa pa u) H) (hD : va_D A (wF cy ad hh aa pa u)) (hS : va_S A s.heap H locs) (h1 : Ok (hX9_easyIn_b0 x1 u) K) :
    kW p l e rmX9_easyIn s m args below meth c H locs (va_Qi (fun r q => K (r, q)) (fun q => kPost D A (wF cy ad hh aa pa q)) A) A 0 ls [] := by
  obtain ⟨hx, hb, hr, hml, hown, hts, hlocks, hK, hA⟩ := id E
  unfold hX9_easyIn_b0 at h1
  refine lv_iload_n hx hb dX9_easyIn_0 rfl (lv_at hl 1 rfl) ?_
  refine lv_if_lt (tgt := 9) hx hb dX9_easyIn_1 (by decide) (fun c1 => ?_) (fun c1 => ?_)
  · replace h1 := Ok.pos c1 h1
    exact tX9_easyIn_b9 K E u H locs ls (lv_sub hl [] rfl) hP hD hS h1
  · replace h1 := Ok.neg c1 h1
    refine lv_iload_n hx hb dX9_easyIn_4 rfl (lv_at hl 1 rfl) ?_
    refine lv_iconst (v := 4) hx hb dX9_easyIn_5 rfl ?_
    refine lv_icmp_lt (tgt := 19) hx hb dX9_easyIn_6 (by decide) (fun c6 => ?_) (fun c6 => ?_)
    · replace h1 := Ok.pos c6 h1
      refine lv_aload_n hx hb dX9_easyIn_19 rfl (lv_at hl 0 rfl) ?_
      refine k_get (v := .ref (hh 1)) (C := RX9) (T := TX9) (N := 9) hx hb hts inX9_easyIn_X9 hown hK hP 0 (wF_c0 _ _ _ _ _ _) rfl 1 (by decide) lkX9_easyIn_16 (fFs_1 _ _ _ _) dX9_easyIn_20 ?_
      refine lv_aload_n hx hb dX9_easyIn_23 rfl (lv_at hl 0 rfl) ?_
      refine k_get (v := .ref (hh 0)) (C := RX9) (T := TX9) (N := 9) hx hb hts inX9_easyIn_X9 hown hK hP 0 (wF_c0 _ _ _ _ _ _) rfl 0 (by decide) lkX9_easyIn_10 (fFs_0 _ _ _ _) dX9_easyIn_24 ?_
      refine kc_vV (b := (hh 1)) (As := [.ref (hh 0)]) (rest := []) h1 ⟨hx, hb, hml, hown, hts⟩ (cX8_copyFromM l D cy (hh 1) (aa 1) (hh 0) (aa 0) H.size (fT u) (fN u)) (cwV 1 hts gX9_easyIn_X8_copyFrom rfl rfl rfl hdX8_copyFrom ⟨Nat.le_of_ble_eq_true rfl, Nat.le_of_ble_eq_true rfl⟩) hK (wF_sel2_1 _ _ _ _ _ _) hP hD hS hA (q0 := 0) rfl rfl rfl hl.1 rfl (Nat.le_of_ble_eq_true rfl) dX9_easyIn_27 ⟨Nat.zero_le _, Nat.zero_le _⟩ (fun u27 H locs h1 hP hD hS => ?_)
      replace hP := kP_perm (wF_uns2_1_0 cy ad hh aa pa u u27).symm hP
      replace hD := kD_perm (wF_uns2_1_0 cy ad hh aa pa u u27).symm hD
      refine lv_iconst (v := 0) hx hb dX9_easyIn_30 rfl ?_
      refine lv_istore_n (lv' := [(2, .int 0), (0, .ref (ad 0)), (1, .int x1)]) hx hb dX9_easyIn_31 rfl hl (by decide) rfl (fun ls hl => ?_)
      exact tX9_easyIn_l32 K E LF x1 0 (gT u u27) H locs ls (lv_sub hl [1, 2, 0] rfl) hP hD hS h1
    · replace h1 := Ok.neg c6 h1
      exact tX9_easyIn_b9 K E u H locs ls (lv_sub hl [] rfl) hP hD hS h1
def hX9_easyIn (p1 : Int32) (u : FS) : Option (Int32 × FS) := hX9_easyIn_b0 p1 u
set_option maxHeartbeats 4000000 in
set_option maxRecDepth 100000 in
theorem cX9_easyInM (l : Launch) (D : va_G) (cy : Nat → ClassId) (ad : Nat → Nat) (hh : Nat → Nat) (aa : Nat → Nat → Nat) (pa : Nat → Nat) (sz : Nat) (u : FS) (p1 : Int32) : ∀ (K : Int32 → FS → Prop), Ok (hX9_easyIn p1 u) (fun q => K q.1 q.2) → Met l yX9_easyIn wsX9_easyIn rmX9_easyIn (va_Pc [.ref (ad 0), .int p1] (kPre D cy sz (wF cy ad hh aa pa u))) (va_Qi K (fun q => kPost D (va_A (wF cy ad hh aa pa u) sz) (wF cy ad hh aa pa q)) (va_A (wF cy ad hh aa pa u) sz)) 0 0 (va_A (wF cy ad hh aa pa u) sz) := by
  intro K h1
  refine Met.ofW (cc := cX9_easyIn) (maxL := 3) (ret := (some .int)) (by decide) rfl ?_
  intro p e s m args below meth c s₁ B hml hv
  obtain ⟨rfl, hsz, hP, hK, hD0⟩ := hv
  subst hsz
  have E : mE D cy RX9 cX9_easyIn 3 (some .int) wsX9_easyIn (va_A (wF cy ad hh aa pa u) s.heap.size) p s m _ meth c := ⟨B.exec, B.bytes, B.returns, hml, findClass_of_methodNamed B.named, atoms_spec (ws := wsX9_easyIn) B.pre, B.notSynchronized, hK, fun q h => Or.inr h⟩
  have hl := lv_entry ([.ref (ad 0), .int p1]) (n := 3) (Nat.le_of_ble_eq_true rfl)
  rw [lg_entry_eq]
  generalize (lg_sl ([.ref (ad 0), .int p1]) ++ List.replicate (3 - (lg_sl ([.ref (ad 0), .int p1])).length) Slot.unset).toArray = ls at hl ⊢
  exact tX9_easyIn_b0 (fun q => K q.1 q.2) E p1 u _ _ _ hl hP hD0.self va_S.rf h1
-- X9_bestFirst
theorem inX9_bestFirst_X9 : ∀ w ∈ u_ws RX9 TX9 9, w ∈ wsX9_bestFirst := k_lays 123 rfl
theorem lkX9_bestFirst_10 : Cond.fieldLink RX9 10 "FerryRamp" "now" "LFerryRamp$State;" ∈ wsX9_bestFirst := List.mem_of_getElem? (i := 3) rfl
theorem inX9_bestFirst_X8 : ∀ w ∈ u_ws RX8 TX8 13, w ∈ wsX9_bestFirst := k_lays 132 rfl
theorem lkX9_bestFirst_87 : Cond.fieldLink RX9 87 "FerryRamp$State" "counts" "[I" ∈ wsX9_bestFirst := List.mem_of_getElem? (i := 4) rfl
theorem lkX9_bestFirst_16 : Cond.fieldLink RX9 16 "FerryRamp" "trial" "LFerryRamp$State;" ∈ wsX9_bestFirst := List.mem_of_getElem? (i := 5) rfl
theorem lkX9_bestFirst_137 : Cond.fieldLink RX9 137 "FerryRamp$State" "queue" "[I" ∈ wsX9_bestFirst := List.mem_of_getElem? (i := 6) rfl
abbrev rmX9_bestFirst : Room := { frames := 5, cells := 0, slots := 0, locals := 121 }
def hX9_bestFirst_b11 (u : FS) : Option (Int32 × FS) :=
  none
set_option maxHeartbeats 4000000 in
set_option maxRecDepth 100000 in
theorem tX9_bestFirst_b11 {p : Program} {l : Launch} {e : Env} {s : State} {m : MethodId} {args : Array Value} {below : List Frame} {meth : Method} {c : Code} {D : va_G} {cy : Nat → ClassId} {A : Nat → Prop} {ad : Nat → Nat} {hh : Nat → Nat} {aa : Nat → Nat → Nat} {pa : Nat → Nat} (K : Int32 × FS → Prop) (E : mE D cy RX9 cX9_bestFirst 6 (some .int) wsX9_bestFirst A p s m args meth c)
     (u : FS) (H : Heap) (locs : List Loc) (ls : Array Slot) (hl : lv_has ls 6 []) (hP : va_P D kCl (wF cy ad hh aa pa u) H) (hD : va_D A (wF cy ad hh aa pa u)) (hS : va_S A s.heap H locs) (h1 : Ok (hX9_bestFirst_b11 u) K) :
    kW p l e rmX9_bestFirst s m args below meth c H locs (va_Qi (fun r q => K (r, q)) (fun q => kPost D A (wF cy ad hh aa pa q)) A) A 11 ls [] := by
  obtain ⟨hx, hb, hr, hml, hown, hts, hlocks, hK, hA⟩ := id E
  unfold hX9_bestFirst_b11 at h1
  exact h1.no
def hX9_bestFirst_b94 (k28 : Int32 × Int32 × Int32 × Int32 × FS → Option (Int32 × FS)) (x1 : Int32) (x2 : Int32) (x3 : Int32) (x4 : Int32) (u : FS) : Option (Int32 × FS) :=
  k28 (x1, x2, x3, x4 + 1, u)
set_option maxHeartbeats 4000000 in
set_option maxRecDepth 100000 in
theorem tX9_bestFirst_b94 {p : Program} {l : Launch} {e : Env} {s : State} {m : MethodId} {args : Array Value} {below : List Frame} {meth : Method} {c : Code} {D : va_G} {cy : Nat → ClassId} {A : Nat → Prop} {ad : Nat → Nat} {hh : Nat → Nat} {aa : Nat → Nat → Nat} {pa : Nat → Nat} (K : Int32 × FS → Prop) (E : mE D cy RX9 cX9_bestFirst 6 (some .int) wsX9_bestFirst A p s m args meth c)
    (k28 : Int32 × Int32 × Int32 × Int32 × FS → Option (Int32 × FS)) (hk28 : ∀ (x1 : Int32) (x2 : Int32) (x3 : Int32) (x4 : Int32) (u : FS) (H : Heap) (locs : List Loc) (ls : Array Slot), lv_has ls 6 [(0, .ref (ad 0)), (1, .int x1), (2, .int x2), (3, .int x3), (4, .int x4)] → va_P D kCl (wF cy ad hh aa pa u) H → va_D A (wF cy ad hh aa pa u) → va_S A s.heap H locs → Ok (k28 (x1, x2, x3, x4, u)) K → kW p l e rmX9_bestFirst s m args below meth c H locs (va_Qi (fun r q => K (r, q)) (fun q => kPost D A (wF cy ad hh aa pa q)) A) A 28 ls [])
     (x1 : Int32) (x2 : Int32) (x3 : Int32) (x4 : Int32) (u : FS) (H : Heap) (locs : List Loc) (ls : Array Slot) (hl : lv_has ls 6 [(0, .ref (ad 0)), (1, .int x1), (2, .int x2), (3, .int x3), (4, .int x4)]) (hP : va_P D kCl (wF cy ad hh aa pa u) H) (hD : va_D A (wF cy ad hh aa pa u)) (hS : va_S A s.heap H locs) (h1 : Ok (hX9_bestFirst_b94 k28 x1 x2 x3 x4 u) K) :
    kW p l e rmX9_bestFirst s m args below meth c H locs (va_Qi (fun r q => K (r, q)) (fun q => kPost D A (wF cy ad hh aa pa q)) A) A 94 ls [] := by
  obtain ⟨hx, hb, hr, hml, hown, hts, hlocks, hK, hA⟩ := id E
  unfold hX9_bestFirst_b94 at h1
  refine lv_iinc (v := x4 + 1) (lv' := [(4, .int (x4 + 1)), (0, .ref (ad 0)), (1, .int x1), (2, .int x2), (3, .int x3)]) hx hb dX9_bestFirst_94 hl (k := 4) rfl rfl (by decide) rfl (fun ls hl => ?_)
  refine lv_goto (tgt := 28) hx hb dX9_bestFirst_97 (by decide) ?_
  exact hk28 x1 x2 x3 (x4 + 1) u H locs ls (lv_sub hl [1, 2, 3, 4, 0] rfl) hP hD hS h1
def hX9_bestFirst_b28 (k28 : Int32 × Int32 × Int32 × Int32 × FS → Option (Int32 × FS)) (x1 : Int32) (x2 : Int32) (x3 : Int32) (x4 : Int32) (u : FS) : Option (Int32 × FS) :=
  (if (sC (fN u) 1) ≤ x4 then some (x2, u) else bnd (fX8_copyFrom (fT u) (fN u)) (fun u50 => bnd (fX8_bringToFront x4 (fT (gT u u50))) (fun u59 => bnd2 (fX8_passTicks x1 (fT (gT (gT u u50) u59))) (fun r67 u67 => (if r67 ≤ x3 then hX9_bestFirst_b94 k28 x1 x2 x3 x4 (gT (gT (gT u u50) u59) u67) else bnd (fX9_at x4 20 (sQ (fN (gT (gT (gT u u50) u59) u67)))) (fun r87 => hX9_bestFirst_b94 k28 x1 r87 r67 x4 (gT (gT (gT u u50) u59) u67)))))))
set_option maxHeartbeats 4000000 in
set_option maxRecDepth 100000 in
theorem tX9_bestFirst_b28 {p : Program} {l : Launch} {e : Env} {s : State} {m : MethodId} {args : Array Value} {below : List Frame} {meth : Method} {c : Code} {D : va_G} {cy : Nat → ClassId} {A : Nat → Prop} {ad : Nat → Nat} {hh : Nat → Nat} {aa : Nat → Nat → Nat} {pa : Nat → Nat} (K : Int32 × FS → Prop) (E : mE D cy RX9 cX9_bestFirst 6 (some .int) wsX9_bestFirst A p s m args meth c)
    (k28 : Int32 × Int32 × Int32 × Int32 × FS → Option (Int32 × FS)) (hk28 : ∀ (x1 : Int32) (x2 : Int32) (x3 : Int32) (x4 : Int32) (u : FS) (H : Heap) (locs : List Loc) (ls : Array Slot), lv_has ls 6 [(0, .ref (ad 0)), (1, .int x1), (2, .int x2), (3, .int x3), (4, .int x4)] → va_P D kCl (wF cy ad hh aa pa u) H → va_D A (wF cy ad hh aa pa u) → va_S A s.heap H locs → Ok (k28 (x1, x2, x3, x4, u)) K → kW p l e rmX9_bestFirst s m args below meth c H locs (va_Qi (fun r q => K (r, q)) (fun q => kPost D A (wF cy ad hh aa pa q)) A) A 28 ls [])
     (x1 : Int32) (x2 : Int32) (x3 : Int32) (x4 : Int32) (u : FS) (H : Heap) (locs : List Loc) (ls : Array Slot) (hl : lv_has ls 6 [(0, .ref (ad 0)), (1, .int x1), (2, .int x2), (3, .int x3), (4, .int x4)]) (hP : va_P D kCl (wF cy ad hh aa pa u) H) (hD : va_D A (wF cy ad hh aa pa u)) (hS : va_S A s.heap H locs) (h1 : Ok (hX9_bestFirst_b28 k28 x1 x2 x3 x4 u) K) :
    kW p l e rmX9_bestFirst s m args below meth c H locs (va_Qi (fun r q => K (r, q)) (fun q => kPost D A (wF cy ad hh aa pa q)) A) A 28 ls [] := by
  obtain ⟨hx, hb, hr, hml, hown, hts, hlocks, hK, hA⟩ := id E
  unfold hX9_bestFirst_b28 at h1
  refine lv_iload hx hb dX9_bestFirst_28 (lv_at hl 4 rfl) ?_
  refine lv_aload_n hx hb dX9_bestFirst_30 rfl (lv_at hl 0 rfl) ?_
  refine k_get (v := .ref (hh 0)) (C := RX9) (T := TX9) (N := 9) hx hb hts inX9_bestFirst_X9 hown hK hP 0 (wF_c0 _ _ _ _ _ _) rfl 0 (by decide) lkX9_bestFirst_10 (fFs_0 _ _ _ _) dX9_bestFirst_31 ?_
  refine k_get (v := .ref ((aa 0) 0)) (C := RX8) (T := TX8) (N := 13) hx hb hts inX9_bestFirst_X8 hown hK hP 5 (wF_c5 _ _ _ _ _ _) rfl 0 (by decide) lkX9_bestFirst_87 (sFs_0 _ _) dX9_bestFirst_34 ?_
  refine lv_iconst (v := 1) hx hb dX9_bestFirst_37 rfl ?_
  refine k_iald (k := 1) hx hb hK hP 6 (wF_c6 _ _ _ _ _ _) rfl rfl dX9_bestFirst_38 ?_
  refine lv_icmp_ge (tgt := 100) hx hb dX9_bestFirst_39 (by decide) (fun c39 => ?_) (fun c39 => ?_)
  · replace h1 := Ok.pos c39 h1
    refine lv_iload_n hx hb dX9_bestFirst_100 rfl (lv_at hl 2 rfl) ?_
    exact kret_i hx hb hr hlocks hP hD hS h1 dX9_bestFirst_101
  · replace h1 := Ok.neg c39 h1
    refine lv_aload_n hx hb dX9_bestFirst_42 rfl (lv_at hl 0 rfl) ?_
    refine k_get (v := .ref (hh 1)) (C := RX9) (T := TX9) (N := 9) hx hb hts inX9_bestFirst_X9 hown hK hP 0 (wF_c0 _ _ _ _ _ _) rfl 1 (by decide) lkX9_bestFirst_16 (fFs_1 _ _ _ _) dX9_bestFirst_43 ?_
    refine lv_aload_n hx hb dX9_bestFirst_46 rfl (lv_at hl 0 rfl) ?_
    refine k_get (v := .ref (hh 0)) (C := RX9) (T := TX9) (N := 9) hx hb hts inX9_bestFirst_X9 hown hK hP 0 (wF_c0 _ _ _ _ _ _) rfl 0 (by decide) lkX9_bestFirst_10 (fFs_0 _ _ _ _) dX9_bestFirst_47 ?_
    refine kc_vV (b := (hh 1)) (As := [.ref (hh 0)]) (rest := []) h1 ⟨hx, hb, hml, hown, hts⟩ (cX8_copyFromM l D cy (hh 1) (aa 1) (hh 0) (aa 0) H.size (fT u) (fN u)) (cwV 1 hts gX9_bestFirst_X8_copyFrom rfl rfl rfl hdX8_copyFrom ⟨Nat.le_of_ble_eq_true rfl, Nat.le_of_ble_eq_true rfl⟩) hK (wF_sel2_1 _ _ _ _ _ _) hP hD hS hA (q0 := 0) rfl rfl rfl hl.1 rfl (Nat.le_of_ble_eq_true rfl) dX9_bestFirst_50 ⟨Nat.zero_le _, Nat.zero_le _⟩ (fun u50 H locs h1 hP hD hS => ?_)
    replace hP := kP_perm (wF_uns2_1_0 cy ad hh aa pa u u50).symm hP
    replace hD := kD_perm (wF_uns2_1_0 cy ad hh aa pa u u50).symm hD
    refine lv_aload_n hx hb dX9_bestFirst_53 rfl (lv_at hl 0 rfl) ?_
    refine k_get (v := .ref (hh 1)) (C := RX9) (T := TX9) (N := 9) hx hb hts inX9_bestFirst_X9 hown hK hP 0 (wF_c0 _ _ _ _ _ _) rfl 1 (by decide) lkX9_bestFirst_16 (fFs_1 _ _ _ _) dX9_bestFirst_54 ?_
    refine lv_iload hx hb dX9_bestFirst_57 (lv_at hl 4 rfl) ?_
    refine kc_vV (b := (hh 1)) (As := [.int x4]) (rest := []) h1 ⟨hx, hb, hml, hown, hts⟩ (cX8_bringToFrontM l D cy (hh 1) (aa 1) H.size (fT (gT u u50)) x4) (cwV 1 hts gX9_bestFirst_X8_bringToFront rfl rfl rfl hdX8_bringToFront ⟨Nat.le_of_ble_eq_true rfl, Nat.le_of_ble_eq_true rfl⟩) hK (wF_sel2 _ _ _ _ _ _) hP hD hS hA (q0 := 0) rfl rfl rfl hl.1 rfl (Nat.le_of_ble_eq_true rfl) dX9_bestFirst_59 ⟨Nat.zero_le _, Nat.zero_le _⟩ (fun u59 H locs h1 hP hD hS => ?_)
    replace hP := kP_perm (wF_uns2_0 cy ad hh aa pa (gT u u50) u59).symm hP
    replace hD := kD_perm (wF_uns2_0 cy ad hh aa pa (gT u u50) u59).symm hD
    refine lv_aload_n hx hb dX9_bestFirst_62 rfl (lv_at hl 0 rfl) ?_
    refine k_get (v := .ref (hh 1)) (C := RX9) (T := TX9) (N := 9) hx hb hts inX9_bestFirst_X9 hown hK hP 0 (wF_c0 _ _ _ _ _ _) rfl 1 (by decide) lkX9_bestFirst_16 (fFs_1 _ _ _ _) dX9_bestFirst_63 ?_
    refine lv_iload_n hx hb dX9_bestFirst_66 rfl (lv_at hl 1 rfl) ?_
    refine kc_iV (b := (hh 1)) (As := [.int x1]) (rest := []) h1 ⟨hx, hb, hml, hown, hts⟩ (cX8_passTicksM l D cy (hh 1) (aa 1) H.size (fT (gT (gT u u50) u59)) x1) (cwV 1 hts gX9_bestFirst_X8_passTicks rfl rfl rfl hdX8_passTicks ⟨Nat.le_of_ble_eq_true rfl, Nat.le_of_ble_eq_true rfl⟩) hK (wF_sel2 _ _ _ _ _ _) hP hD hS hA (q0 := 0) rfl rfl rfl hl.1 rfl (Nat.le_of_ble_eq_true rfl) dX9_bestFirst_67 ⟨Nat.zero_le _, Nat.zero_le _⟩ (fun r67 u67 H locs h1 hP hD hS => ?_)
    replace hP := kP_perm (wF_uns2_0 cy ad hh aa pa (gT (gT u u50) u59) u67).symm hP
    replace hD := kD_perm (wF_uns2_0 cy ad hh aa pa (gT (gT u u50) u59) u67).symm hD
    refine lv_istore (lv' := [(5, .int r67), (0, .ref (ad 0)), (1, .int x1), (2, .int x2), (3, .int x3), (4, .int x4)]) hx hb dX9_bestFirst_70 hl (by decide) rfl (fun ls hl => ?_)
    refine lv_iload hx hb dX9_bestFirst_72 (lv_at hl 0 rfl) ?_
    refine lv_iload_n hx hb dX9_bestFirst_74 rfl (lv_at hl 4 rfl) ?_
    refine lv_icmp_le (tgt := 94) hx hb dX9_bestFirst_75 (by decide) (fun c75 => ?_) (fun c75 => ?_)
    · replace h1 := Ok.pos c75 h1
      exact tX9_bestFirst_b94 K E k28 hk28 x1 x2 x3 x4 (gT (gT (gT u u50) u59) u67) H locs ls (lv_sub hl [1, 2, 3, 4, 5] rfl) hP hD hS h1
    · replace h1 := Ok.neg c75 h1
      refine lv_aload_n hx hb dX9_bestFirst_78 rfl (lv_at hl 1 rfl) ?_
      refine k_get (v := .ref (hh 0)) (C := RX9) (T := TX9) (N := 9) hx hb hts inX9_bestFirst_X9 hown hK hP 0 (wF_c0 _ _ _ _ _ _) rfl 0 (by decide) lkX9_bestFirst_10 (fFs_0 _ _ _ _) dX9_bestFirst_79 ?_
      refine k_get (v := .ref ((aa 0) 4)) (C := RX8) (T := TX8) (N := 13) hx hb hts inX9_bestFirst_X8 hown hK hP 5 (wF_c5 _ _ _ _ _ _) rfl 4 (by decide) lkX9_bestFirst_137 (sFs_4 _ _) dX9_bestFirst_82 ?_
      refine lv_iload hx hb dX9_bestFirst_85 (lv_at hl 5 rfl) ?_
      refine kc_rS (As := [.ref ((aa 0) 4), .int x4]) (rest := []) h1 ⟨hx, hb, hml, hown, hts⟩ (cX9_atM l D cy ((aa 0) 4) H.size 20 (sQ (fN (gT (gT (gT u u50) u59) u67))) x4) (va_cwS 2 hts gX9_bestFirst_X9_at rfl rfl rfl heX9_at ⟨Nat.le_of_ble_eq_true rfl, Nat.le_of_ble_eq_true rfl⟩) hK (k_pick (k := 10) (wF_c10 _ _ _ _ _ _)) hP hD hS hA rfl hl.1 rfl (Nat.le_of_ble_eq_true rfl) dX9_bestFirst_87 ⟨Nat.zero_le _, Nat.zero_le _⟩ (fun r87 H locs h1 hP hS => ?_)
      refine lv_istore_n (lv' := [(2, .int r87), (5, .int r67), (0, .ref (ad 0)), (1, .int x1), (3, .int x3), (4, .int x4)]) hx hb dX9_bestFirst_90 rfl hl (by decide) rfl (fun ls hl => ?_)
      refine lv_iload hx hb dX9_bestFirst_91 (lv_at hl 1 rfl) ?_
      refine lv_istore_n (lv' := [(3, .int r67), (2, .int r87), (5, .int r67), (0, .ref (ad 0)), (1, .int x1), (4, .int x4)]) hx hb dX9_bestFirst_93 rfl hl (by decide) rfl (fun ls hl => ?_)
      exact tX9_bestFirst_b94 K E k28 hk28 x1 r87 r67 x4 (gT (gT (gT u u50) u59) u67) H locs ls (lv_sub hl [3, 4, 1, 0, 5] rfl) hP hD hS h1
theorem tX9_bestFirst_l28 {p : Program} {l : Launch} {e : Env} {s : State} {m : MethodId} {args : Array Value} {below : List Frame} {meth : Method} {c : Code} {D : va_G} {cy : Nat → ClassId} {A : Nat → Prop} {ad : Nat → Nat} {hh : Nat → Nat} {aa : Nat → Nat → Nat} {pa : Nat → Nat} (K : Int32 × FS → Prop) (E : mE D cy RX9 cX9_bestFirst 6 (some .int) wsX9_bestFirst A p s m args meth c) : ∀ (n9 : Nat) (x1 : Int32) (x2 : Int32) (x3 : Int32) (x4 : Int32) (u : FS) (H : Heap) (locs : List Loc) (ls : Array Slot), lv_has ls 6 [(0, .ref (ad 0)), (1, .int x1), (2, .int x2), (3, .int x3), (4, .int x4)] → va_P D kCl (wF cy ad hh aa pa u) H → va_D A (wF cy ad hh aa pa u) → va_S A s.heap H locs → Ok (lop (fun y z => hX9_bestFirst_b28 y z.1 z.2.1 z.2.2.1 z.2.2.2.1 z.2.2.2.2) n9 (x1, x2, x3, x4, u)) K → kW p l e rmX9_bestFirst s m args below meth c H locs (va_Qi (fun r q => K (r, q)) (fun q => kPost D A (wF cy ad hh aa pa q)) A) A 28 ls [] := by
  intro n9
  induction n9 with
  | zero =>
    intro x1 x2 x3 x4 u H locs ls hl hP hD hS h1
    exact h1.no
  | succ n9 ih =>
    intro x1 x2 x3 x4 u H locs ls hl hP hD hS h1
    exact tX9_bestFirst_b28 K E (lop (fun y z => hX9_bestFirst_b28 y z.1 z.2.1 z.2.2.1 z.2.2.2.1 z.2.2.2.2) n9) (fun x1 x2 x3 x4 u H locs ls hl hP hD hS h1 => ih x1 x2 x3 x4 u H locs ls hl hP hD hS h1) x1 x2 x3 x4 u H locs ls hl hP hD hS h1
def hX9_bestFirst_b0 (x1 : Int32) (u : FS) : Option (Int32 × FS) :=
  (if x1 < 1 then hX9_bestFirst_b11 u else (if x1 ≤ 99 then lop (fun y z => hX9_bestFirst_b28 y z.1 z.2.1 z.2.2.1 z.2.2.2.1 z.2.2.2.2) LF (x1, (-1), (-1), 0, u) else hX9_bestFirst_b11 u))
set_option maxHeartbeats 4000000 in
set_option maxRecDepth 100000 in
theorem tX9_bestFirst_b0 {p : Program} {l : Launch} {e : Env} {s : State} {m : MethodId} {args : Array Value} {below : List Frame} {meth : Method} {c : Code} {D : va_G} {cy : Nat → ClassId} {A : Nat → Prop} {ad : Nat → Nat} {hh : Nat → Nat} {aa : Nat → Nat → Nat} {pa : Nat → Nat} (K : Int32 × FS → Prop) (E : mE D cy RX9 cX9_bestFirst 6 (some .int) wsX9_bestFirst A p s m args meth c)
     (x1 : Int32) (u : FS) (H : Heap) (locs : List Loc) (ls : Array Slot) (hl : lv_has ls 6 [(0, .ref (ad 0)), (1, .int x1)]) (hP : va_P D kCl (wF cy ad hh aa pa u) H) (hD : va_D A (wF cy ad hh aa pa u)) (hS : va_S A s.heap H locs) (h1 : Ok (hX9_bestFirst_b0 x1 u) K) :
    kW p l e rmX9_bestFirst s m args below meth c H locs (va_Qi (fun r q => K (r, q)) (fun q => kPost D A (wF cy ad hh aa pa q)) A) A 0 ls [] := by
  obtain ⟨hx, hb, hr, hml, hown, hts, hlocks, hK, hA⟩ := id E
  unfold hX9_bestFirst_b0 at h1
  refine lv_iload_n hx hb dX9_bestFirst_0 rfl (lv_at hl 1 rfl) ?_
  refine lv_iconst (v := 1) hx hb dX9_bestFirst_1 rfl ?_
  refine lv_icmp_lt (tgt := 11) hx hb dX9_bestFirst_2 (by decide) (fun c2 => ?_) (fun c2 => ?_)
  · replace h1 := Ok.pos c2 h1
    exact tX9_bestFirst_b11 K E u H locs ls (lv_sub hl [] rfl) hP hD hS h1
  · replace h1 := Ok.neg c2 h1
    refine lv_iload_n hx hb dX9_bestFirst_5 rfl (lv_at hl 1 rfl) ?_
    refine lv_bipush (v := 99) hx hb dX9_bestFirst_6 rfl ?_
    refine lv_icmp_le (tgt := 21) hx hb dX9_bestFirst_8 (by decide) (fun c8 => ?_) (fun c8 => ?_)
    · replace h1 := Ok.pos c8 h1
      refine lv_iconst (v := (-1)) hx hb dX9_bestFirst_21 rfl ?_
      refine lv_istore_n (lv' := [(2, .int (-1)), (0, .ref (ad 0)), (1, .int x1)]) hx hb dX9_bestFirst_22 rfl hl (by decide) rfl (fun ls hl => ?_)
      refine lv_iconst (v := (-1)) hx hb dX9_bestFirst_23 rfl ?_
      refine lv_istore_n (lv' := [(3, .int (-1)), (2, .int (-1)), (0, .ref (ad 0)), (1, .int x1)]) hx hb dX9_bestFirst_24 rfl hl (by decide) rfl (fun ls hl => ?_)
      refine lv_iconst (v := 0) hx hb dX9_bestFirst_25 rfl ?_
      refine lv_istore (lv' := [(4, .int 0), (3, .int (-1)), (2, .int (-1)), (0, .ref (ad 0)), (1, .int x1)]) hx hb dX9_bestFirst_26 hl (by decide) rfl (fun ls hl => ?_)
      exact tX9_bestFirst_l28 K E LF x1 (-1) (-1) 0 u H locs ls (lv_sub hl [3, 4, 2, 1, 0] rfl) hP hD hS h1
    · replace h1 := Ok.neg c8 h1
      exact tX9_bestFirst_b11 K E u H locs ls (lv_sub hl [] rfl) hP hD hS h1
def hX9_bestFirst (p1 : Int32) (u : FS) : Option (Int32 × FS) := hX9_bestFirst_b0 p1 u
set_option maxHeartbeats 4000000 in
set_option maxRecDepth 100000 in
theorem cX9_bestFirstM (l : Launch) (D : va_G) (cy : Nat → ClassId) (ad : Nat → Nat) (hh : Nat → Nat) (aa : Nat → Nat → Nat) (pa : Nat → Nat) (sz : Nat) (u : FS) (p1 : Int32) : ∀ (K : Int32 → FS → Prop), Ok (hX9_bestFirst p1 u) (fun q => K q.1 q.2) → Met l yX9_bestFirst wsX9_bestFirst rmX9_bestFirst (va_Pc [.ref (ad 0), .int p1] (kPre D cy sz (wF cy ad hh aa pa u))) (va_Qi K (fun q => kPost D (va_A (wF cy ad hh aa pa u) sz) (wF cy ad hh aa pa q)) (va_A (wF cy ad hh aa pa u) sz)) 0 0 (va_A (wF cy ad hh aa pa u) sz) := by
  intro K h1
  refine Met.ofW (cc := cX9_bestFirst) (maxL := 6) (ret := (some .int)) (by decide) rfl ?_
  intro p e s m args below meth c s₁ B hml hv
  obtain ⟨rfl, hsz, hP, hK, hD0⟩ := hv
  subst hsz
  have E : mE D cy RX9 cX9_bestFirst 6 (some .int) wsX9_bestFirst (va_A (wF cy ad hh aa pa u) s.heap.size) p s m _ meth c := ⟨B.exec, B.bytes, B.returns, hml, findClass_of_methodNamed B.named, atoms_spec (ws := wsX9_bestFirst) B.pre, B.notSynchronized, hK, fun q h => Or.inr h⟩
  have hl := lv_entry ([.ref (ad 0), .int p1]) (n := 6) (Nat.le_of_ble_eq_true rfl)
  rw [lg_entry_eq]
  generalize (lg_sl ([.ref (ad 0), .int p1]) ++ List.replicate (6 - (lg_sl ([.ref (ad 0), .int p1])).length) Slot.unset).toArray = ls at hl ⊢
  exact tX9_bestFirst_b0 (fun q => K q.1 q.2) E p1 u _ _ _ hl hP hD0.self va_S.rf h1
-- X9_tick
theorem hdX9_doTick : yX9_doTick.cls = RX9 ∧ yX9_doTick.cls ≠ "java/lang/invoke/MethodHandle" ∧ yX9_doTick.cls ≠ "java/lang/invoke/VarHandle" ∧ (parseMethodDescriptor yX9_doTick.desc).map (fun d => d.parameters.length) = some 1 := by decide +kernel
abbrev rmX9_tick : Room := { frames := 6, cells := 0, slots := 0, locals := 142 }
def hX9_tick_b11 (u : FS) : Option (Int32 × FS) :=
  none
set_option maxHeartbeats 4000000 in
set_option maxRecDepth 100000 in
theorem tX9_tick_b11 {p : Program} {l : Launch} {e : Env} {s : State} {m : MethodId} {args : Array Value} {below : List Frame} {meth : Method} {c : Code} {D : va_G} {cy : Nat → ClassId} {A : Nat → Prop} {ad : Nat → Nat} {hh : Nat → Nat} {aa : Nat → Nat → Nat} {pa : Nat → Nat} (K : Int32 × FS → Prop) (E : mE D cy RX9 cX9_tick 2 (some .int) wsX9_tick A p s m args meth c)
     (u : FS) (H : Heap) (locs : List Loc) (ls : Array Slot) (hl : lv_has ls 2 []) (hP : va_P D kCl (wF cy ad hh aa pa u) H) (hD : va_D A (wF cy ad hh aa pa u)) (hS : va_S A s.heap H locs) (h1 : Ok (hX9_tick_b11 u) K) :
    kW p l e rmX9_tick s m args below meth c H locs (va_Qi (fun r q => K (r, q)) (fun q => kPost D A (wF cy ad hh aa pa q)) A) A 11 ls [] := by
  obtain ⟨hx, hb, hr, hml, hown, hts, hlocks, hK, hA⟩ := id E
  unfold hX9_tick_b11 at h1
  exact h1.no
def hX9_tick_b0 (x1 : Int32) (u : FS) : Option (Int32 × FS) :=
  (if x1 < 1 then hX9_tick_b11 u else (if x1 ≤ 50 then bnd2 (fX9_doTick x1 u) (fun r23 u23 => some (r23, u23)) else hX9_tick_b11 u))
set_option maxHeartbeats 4000000 in
set_option maxRecDepth 100000 in
theorem tX9_tick_b0 {p : Program} {l : Launch} {e : Env} {s : State} {m : MethodId} {args : Array Value} {below : List Frame} {meth : Method} {c : Code} {D : va_G} {cy : Nat → ClassId} {A : Nat → Prop} {ad : Nat → Nat} {hh : Nat → Nat} {aa : Nat → Nat → Nat} {pa : Nat → Nat} (K : Int32 × FS → Prop) (E : mE D cy RX9 cX9_tick 2 (some .int) wsX9_tick A p s m args meth c)
     (x1 : Int32) (u : FS) (H : Heap) (locs : List Loc) (ls : Array Slot) (hl : lv_has ls 2 [(0, .ref (ad 0)), (1, .int x1)]) (hP : va_P D kCl (wF cy ad hh aa pa u) H) (hD : va_D A (wF cy ad hh aa pa u)) (hS : va_S A s.heap H locs) (h1 : Ok (hX9_tick_b0 x1 u) K) :
    kW p l e rmX9_tick s m args below meth c H locs (va_Qi (fun r q => K (r, q)) (fun q => kPost D A (wF cy ad hh aa pa q)) A) A 0 ls [] := by
  obtain ⟨hx, hb, hr, hml, hown, hts, hlocks, hK, hA⟩ := id E
  unfold hX9_tick_b0 at h1
  refine lv_iload_n hx hb dX9_tick_0 rfl (lv_at hl 1 rfl) ?_
  refine lv_iconst (v := 1) hx hb dX9_tick_1 rfl ?_
  refine lv_icmp_lt (tgt := 11) hx hb dX9_tick_2 (by decide) (fun c2 => ?_) (fun c2 => ?_)
  · replace h1 := Ok.pos c2 h1
    exact tX9_tick_b11 K E u H locs ls (lv_sub hl [] rfl) hP hD hS h1
  · replace h1 := Ok.neg c2 h1
    refine lv_iload_n hx hb dX9_tick_5 rfl (lv_at hl 1 rfl) ?_
    refine lv_bipush (v := 50) hx hb dX9_tick_6 rfl ?_
    refine lv_icmp_le (tgt := 21) hx hb dX9_tick_8 (by decide) (fun c8 => ?_) (fun c8 => ?_)
    · replace h1 := Ok.pos c8 h1
      refine lv_aload_n hx hb dX9_tick_21 rfl (lv_at hl 0 rfl) ?_
      refine lv_iload_n hx hb dX9_tick_22 rfl (lv_at hl 1 rfl) ?_
      refine kc_iV0 (b := (ad 0)) (As := [.int x1]) (rest := []) h1 ⟨hx, hb, hml, hown, hts⟩ (cX9_doTickM l D cy ad hh aa pa H.size u x1) (cwV 1 hts gX9_tick_X9_doTick rfl rfl rfl hdX9_doTick ⟨Nat.le_of_ble_eq_true rfl, Nat.le_of_ble_eq_true rfl⟩) hK hP hD hS hA (q0 := 0) rfl rfl rfl hl.1 rfl (Nat.le_of_ble_eq_true rfl) dX9_tick_23 ⟨Nat.zero_le _, Nat.zero_le _⟩ (fun r23 u23 H locs h1 hP hD hS => ?_)
      exact kret_i hx hb hr hlocks hP hD hS h1 dX9_tick_26
    · replace h1 := Ok.neg c8 h1
      exact tX9_tick_b11 K E u H locs ls (lv_sub hl [] rfl) hP hD hS h1
def hX9_tick (p1 : Int32) (u : FS) : Option (Int32 × FS) := hX9_tick_b0 p1 u
set_option maxHeartbeats 4000000 in
set_option maxRecDepth 100000 in
theorem cX9_tickM (l : Launch) (D : va_G) (cy : Nat → ClassId) (ad : Nat → Nat) (hh : Nat → Nat) (aa : Nat → Nat → Nat) (pa : Nat → Nat) (sz : Nat) (u : FS) (p1 : Int32) : ∀ (K : Int32 → FS → Prop), Ok (hX9_tick p1 u) (fun q => K q.1 q.2) → Met l yX9_tick wsX9_tick rmX9_tick (va_Pc [.ref (ad 0), .int p1] (kPre D cy sz (wF cy ad hh aa pa u))) (va_Qi K (fun q => kPost D (va_A (wF cy ad hh aa pa u) sz) (wF cy ad hh aa pa q)) (va_A (wF cy ad hh aa pa u) sz)) 0 0 (va_A (wF cy ad hh aa pa u) sz) := by
  intro K h1
  refine Met.ofW (cc := cX9_tick) (maxL := 2) (ret := (some .int)) (by decide) rfl ?_
  intro p e s m args below meth c s₁ B hml hv
  obtain ⟨rfl, hsz, hP, hK, hD0⟩ := hv
  subst hsz
  have E : mE D cy RX9 cX9_tick 2 (some .int) wsX9_tick (va_A (wF cy ad hh aa pa u) s.heap.size) p s m _ meth c := ⟨B.exec, B.bytes, B.returns, hml, findClass_of_methodNamed B.named, atoms_spec (ws := wsX9_tick) B.pre, B.notSynchronized, hK, fun q h => Or.inr h⟩
  have hl := lv_entry ([.ref (ad 0), .int p1]) (n := 2) (Nat.le_of_ble_eq_true rfl)
  rw [lg_entry_eq]
  generalize (lg_sl ([.ref (ad 0), .int p1]) ++ List.replicate (2 - (lg_sl ([.ref (ad 0), .int p1])).length) Slot.unset).toArray = ls at hl ⊢
  exact tX9_tick_b0 (fun q => K q.1 q.2) E p1 u _ _ _ hl hP hD0.self va_S.rf h1
-- X9_arrive
theorem hdX9_doArrive : yX9_doArrive.cls = RX9 ∧ yX9_doArrive.cls ≠ "java/lang/invoke/MethodHandle" ∧ yX9_doArrive.cls ≠ "java/lang/invoke/VarHandle" ∧ (parseMethodDescriptor yX9_doArrive.desc).map (fun d => d.parameters.length) = some 2 := by decide +kernel
abbrev rmX9_arrive : Room := { frames := 5, cells := 0, slots := 0, locals := 125 }
def hX9_arrive_b9 (u : FS) : Option (Int32 × FS) :=
  none
set_option maxHeartbeats 4000000 in
set_option maxRecDepth 100000 in
theorem tX9_arrive_b9 {p : Program} {l : Launch} {e : Env} {s : State} {m : MethodId} {args : Array Value} {below : List Frame} {meth : Method} {c : Code} {D : va_G} {cy : Nat → ClassId} {A : Nat → Prop} {ad : Nat → Nat} {hh : Nat → Nat} {aa : Nat → Nat → Nat} {pa : Nat → Nat} (K : Int32 × FS → Prop) (E : mE D cy RX9 cX9_arrive 3 (some .int) wsX9_arrive A p s m args meth c)
     (u : FS) (H : Heap) (locs : List Loc) (ls : Array Slot) (hl : lv_has ls 3 []) (hP : va_P D kCl (wF cy ad hh aa pa u) H) (hD : va_D A (wF cy ad hh aa pa u)) (hS : va_S A s.heap H locs) (h1 : Ok (hX9_arrive_b9 u) K) :
    kW p l e rmX9_arrive s m args below meth c H locs (va_Qi (fun r q => K (r, q)) (fun q => kPost D A (wF cy ad hh aa pa q)) A) A 9 ls [] := by
  obtain ⟨hx, hb, hr, hml, hown, hts, hlocks, hK, hA⟩ := id E
  unfold hX9_arrive_b9 at h1
  exact h1.no
def hX9_arrive_b31 (u : FS) : Option (Int32 × FS) :=
  none
set_option maxHeartbeats 4000000 in
set_option maxRecDepth 100000 in
theorem tX9_arrive_b31 {p : Program} {l : Launch} {e : Env} {s : State} {m : MethodId} {args : Array Value} {below : List Frame} {meth : Method} {c : Code} {D : va_G} {cy : Nat → ClassId} {A : Nat → Prop} {ad : Nat → Nat} {hh : Nat → Nat} {aa : Nat → Nat → Nat} {pa : Nat → Nat} (K : Int32 × FS → Prop) (E : mE D cy RX9 cX9_arrive 3 (some .int) wsX9_arrive A p s m args meth c)
     (u : FS) (H : Heap) (locs : List Loc) (ls : Array Slot) (hl : lv_has ls 3 []) (hP : va_P D kCl (wF cy ad hh aa pa u) H) (hD : va_D A (wF cy ad hh aa pa u)) (hS : va_S A s.heap H locs) (h1 : Ok (hX9_arrive_b31 u) K) :
    kW p l e rmX9_arrive s m args below meth c H locs (va_Qi (fun r q => K (r, q)) (fun q => kPost D A (wF cy ad hh aa pa q)) A) A 31 ls [] := by
  obtain ⟨hx, hb, hr, hml, hown, hts, hlocks, hK, hA⟩ := id E
  unfold hX9_arrive_b31 at h1
  exact h1.no
def hX9_arrive_b0 (x1 : Int32) (x2 : Int32) (u : FS) : Option (Int32 × FS) :=
  (if x1 < 0 then hX9_arrive_b9 u else (if x1 < 4 then (if x2 < 1 then hX9_arrive_b31 u else (if x2 ≤ 999 then bnd2 (fX9_doArrive x1 x2 u) (fun r44 u44 => some (r44, u44)) else hX9_arrive_b31 u)) else hX9_arrive_b9 u))
set_option maxHeartbeats 4000000 in
set_option maxRecDepth 100000 in
theorem tX9_arrive_b0 {p : Program} {l : Launch} {e : Env} {s : State} {m : MethodId} {args : Array Value} {below : List Frame} {meth : Method} {c : Code} {D : va_G} {cy : Nat → ClassId} {A : Nat → Prop} {ad : Nat → Nat} {hh : Nat → Nat} {aa : Nat → Nat → Nat} {pa : Nat → Nat} (K : Int32 × FS → Prop) (E : mE D cy RX9 cX9_arrive 3 (some .int) wsX9_arrive A p s m args meth c)
     (x1 : Int32) (x2 : Int32) (u : FS) (H : Heap) (locs : List Loc) (ls : Array Slot) (hl : lv_has ls 3 [(0, .ref (ad 0)), (1, .int x1), (2, .int x2)]) (hP : va_P D kCl (wF cy ad hh aa pa u) H) (hD : va_D A (wF cy ad hh aa pa u)) (hS : va_S A s.heap H locs) (h1 : Ok (hX9_arrive_b0 x1 x2 u) K) :
    kW p l e rmX9_arrive s m args below meth c H locs (va_Qi (fun r q => K (r, q)) (fun q => kPost D A (wF cy ad hh aa pa q)) A) A 0 ls [] := by
  obtain ⟨hx, hb, hr, hml, hown, hts, hlocks, hK, hA⟩ := id E
  unfold hX9_arrive_b0 at h1
  refine lv_iload_n hx hb dX9_arrive_0 rfl (lv_at hl 1 rfl) ?_
  refine lv_if_lt (tgt := 9) hx hb dX9_arrive_1 (by decide) (fun c1 => ?_) (fun c1 => ?_)
  · replace h1 := Ok.pos c1 h1
    exact tX9_arrive_b9 K E u H locs ls (lv_sub hl [] rfl) hP hD hS h1
  · replace h1 := Ok.neg c1 h1
    refine lv_iload_n hx hb dX9_arrive_4 rfl (lv_at hl 1 rfl) ?_
    refine lv_iconst (v := 4) hx hb dX9_arrive_5 rfl ?_
    refine lv_icmp_lt (tgt := 19) hx hb dX9_arrive_6 (by decide) (fun c6 => ?_) (fun c6 => ?_)
    · replace h1 := Ok.pos c6 h1
      refine lv_iload_n hx hb dX9_arrive_19 rfl (lv_at hl 2 rfl) ?_
      refine lv_iconst (v := 1) hx hb dX9_arrive_20 rfl ?_
      refine lv_icmp_lt (tgt := 31) hx hb dX9_arrive_21 (by decide) (fun c21 => ?_) (fun c21 => ?_)
      · replace h1 := Ok.pos c21 h1
        exact tX9_arrive_b31 K E u H locs ls (lv_sub hl [] rfl) hP hD hS h1
      · replace h1 := Ok.neg c21 h1
        refine lv_iload_n hx hb dX9_arrive_24 rfl (lv_at hl 2 rfl) ?_
        refine lv_sipush (v := 999) hx hb dX9_arrive_25 rfl ?_
        refine lv_icmp_le (tgt := 41) hx hb dX9_arrive_28 (by decide) (fun c28 => ?_) (fun c28 => ?_)
        · replace h1 := Ok.pos c28 h1
          refine lv_aload_n hx hb dX9_arrive_41 rfl (lv_at hl 0 rfl) ?_
          refine lv_iload_n hx hb dX9_arrive_42 rfl (lv_at hl 1 rfl) ?_
          refine lv_iload_n hx hb dX9_arrive_43 rfl (lv_at hl 2 rfl) ?_
          refine kc_iV0 (b := (ad 0)) (As := [.int x1, .int x2]) (rest := []) h1 ⟨hx, hb, hml, hown, hts⟩ (cX9_doArriveM l D cy ad hh aa pa H.size u x1 x2) (cwV 2 hts gX9_arrive_X9_doArrive rfl rfl rfl hdX9_doArrive ⟨Nat.le_of_ble_eq_true rfl, Nat.le_of_ble_eq_true rfl⟩) hK hP hD hS hA (q0 := 0) rfl rfl rfl hl.1 rfl (Nat.le_of_ble_eq_true rfl) dX9_arrive_44 ⟨Nat.zero_le _, Nat.zero_le _⟩ (fun r44 u44 H locs h1 hP hD hS => ?_)
          exact kret_i hx hb hr hlocks hP hD hS h1 dX9_arrive_47
        · replace h1 := Ok.neg c28 h1
          exact tX9_arrive_b31 K E u H locs ls (lv_sub hl [] rfl) hP hD hS h1
    · replace h1 := Ok.neg c6 h1
      exact tX9_arrive_b9 K E u H locs ls (lv_sub hl [] rfl) hP hD hS h1
def hX9_arrive (p1 : Int32) (p2 : Int32) (u : FS) : Option (Int32 × FS) := hX9_arrive_b0 p1 p2 u
set_option maxHeartbeats 4000000 in
set_option maxRecDepth 100000 in
theorem cX9_arriveM (l : Launch) (D : va_G) (cy : Nat → ClassId) (ad : Nat → Nat) (hh : Nat → Nat) (aa : Nat → Nat → Nat) (pa : Nat → Nat) (sz : Nat) (u : FS) (p1 : Int32) (p2 : Int32) : ∀ (K : Int32 → FS → Prop), Ok (hX9_arrive p1 p2 u) (fun q => K q.1 q.2) → Met l yX9_arrive wsX9_arrive rmX9_arrive (va_Pc [.ref (ad 0), .int p1, .int p2] (kPre D cy sz (wF cy ad hh aa pa u))) (va_Qi K (fun q => kPost D (va_A (wF cy ad hh aa pa u) sz) (wF cy ad hh aa pa q)) (va_A (wF cy ad hh aa pa u) sz)) 0 0 (va_A (wF cy ad hh aa pa u) sz) := by
  intro K h1
  refine Met.ofW (cc := cX9_arrive) (maxL := 3) (ret := (some .int)) (by decide) rfl ?_
  intro p e s m args below meth c s₁ B hml hv
  obtain ⟨rfl, hsz, hP, hK, hD0⟩ := hv
  subst hsz
  have E : mE D cy RX9 cX9_arrive 3 (some .int) wsX9_arrive (va_A (wF cy ad hh aa pa u) s.heap.size) p s m _ meth c := ⟨B.exec, B.bytes, B.returns, hml, findClass_of_methodNamed B.named, atoms_spec (ws := wsX9_arrive) B.pre, B.notSynchronized, hK, fun q h => Or.inr h⟩
  have hl := lv_entry ([.ref (ad 0), .int p1, .int p2]) (n := 3) (Nat.le_of_ble_eq_true rfl)
  rw [lg_entry_eq]
  generalize (lg_sl ([.ref (ad 0), .int p1, .int p2]) ++ List.replicate (3 - (lg_sl ([.ref (ad 0), .int p1, .int p2])).length) Slot.unset).toArray = ls at hl ⊢
  exact tX9_arrive_b0 (fun q => K q.1 q.2) E p1 p2 u _ _ _ hl hP hD0.self va_S.rf h1
-- X9_wave
theorem hdX9_doWave : yX9_doWave.cls = RX9 ∧ yX9_doWave.cls ≠ "java/lang/invoke/MethodHandle" ∧ yX9_doWave.cls ≠ "java/lang/invoke/VarHandle" ∧ (parseMethodDescriptor yX9_doWave.desc).map (fun d => d.parameters.length) = some 1 := by decide +kernel
abbrev rmX9_wave : Room := { frames := 5, cells := 0, slots := 0, locals := 125 }
def hX9_wave_b10 (u : FS) : Option (Int32 × FS) :=
  none
set_option maxHeartbeats 4000000 in
set_option maxRecDepth 100000 in
theorem tX9_wave_b10 {p : Program} {l : Launch} {e : Env} {s : State} {m : MethodId} {args : Array Value} {below : List Frame} {meth : Method} {c : Code} {D : va_G} {cy : Nat → ClassId} {A : Nat → Prop} {ad : Nat → Nat} {hh : Nat → Nat} {aa : Nat → Nat → Nat} {pa : Nat → Nat} (K : Int32 × FS → Prop) (E : mE D cy RX9 cX9_wave 2 (some .int) wsX9_wave A p s m args meth c)
     (u : FS) (H : Heap) (locs : List Loc) (ls : Array Slot) (hl : lv_has ls 2 []) (hP : va_P D kCl (wF cy ad hh aa pa u) H) (hD : va_D A (wF cy ad hh aa pa u)) (hS : va_S A s.heap H locs) (h1 : Ok (hX9_wave_b10 u) K) :
    kW p l e rmX9_wave s m args below meth c H locs (va_Qi (fun r q => K (r, q)) (fun q => kPost D A (wF cy ad hh aa pa q)) A) A 10 ls [] := by
  obtain ⟨hx, hb, hr, hml, hown, hts, hlocks, hK, hA⟩ := id E
  unfold hX9_wave_b10 at h1
  exact h1.no
def hX9_wave_b0 (x1 : Int32) (u : FS) : Option (Int32 × FS) :=
  (if x1 < 0 then hX9_wave_b10 u else (if x1 < 60 then bnd2 (fX9_doWave x1 u) (fun r22 u22 => some (r22, u22)) else hX9_wave_b10 u))
set_option maxHeartbeats 4000000 in
set_option maxRecDepth 100000 in
theorem tX9_wave_b0 {p : Program} {l : Launch} {e : Env} {s : State} {m : MethodId} {args : Array Value} {below : List Frame} {meth : Method} {c : Code} {D : va_G} {cy : Nat → ClassId} {A : Nat → Prop} {ad : Nat → Nat} {hh : Nat → Nat} {aa : Nat → Nat → Nat} {pa : Nat → Nat} (K : Int32 × FS → Prop) (E : mE D cy RX9 cX9_wave 2 (some .int) wsX9_wave A p s m args meth c)
     (x1 : Int32) (u : FS) (H : Heap) (locs : List Loc) (ls : Array Slot) (hl : lv_has ls 2 [(0, .ref (ad 0)), (1, .int x1)]) (hP : va_P D kCl (wF cy ad hh aa pa u) H) (hD : va_D A (wF cy ad hh aa pa u)) (hS : va_S A s.heap H locs) (h1 : Ok (hX9_wave_b0 x1 u) K) :
    kW p l e rmX9_wave s m args below meth c H locs (va_Qi (fun r q => K (r, q)) (fun q => kPost D A (wF cy ad hh aa pa q)) A) A 0 ls [] := by
  obtain ⟨hx, hb, hr, hml, hown, hts, hlocks, hK, hA⟩ := id E
  unfold hX9_wave_b0 at h1
  refine lv_iload_n hx hb dX9_wave_0 rfl (lv_at hl 1 rfl) ?_
  refine lv_if_lt (tgt := 10) hx hb dX9_wave_1 (by decide) (fun c1 => ?_) (fun c1 => ?_)
  · replace h1 := Ok.pos c1 h1
    exact tX9_wave_b10 K E u H locs ls (lv_sub hl [] rfl) hP hD hS h1
  · replace h1 := Ok.neg c1 h1
    refine lv_iload_n hx hb dX9_wave_4 rfl (lv_at hl 1 rfl) ?_
    refine lv_bipush (v := 60) hx hb dX9_wave_5 rfl ?_
    refine lv_icmp_lt (tgt := 20) hx hb dX9_wave_7 (by decide) (fun c7 => ?_) (fun c7 => ?_)
    · replace h1 := Ok.pos c7 h1
      refine lv_aload_n hx hb dX9_wave_20 rfl (lv_at hl 0 rfl) ?_
      refine lv_iload_n hx hb dX9_wave_21 rfl (lv_at hl 1 rfl) ?_
      refine kc_iV0 (b := (ad 0)) (As := [.int x1]) (rest := []) h1 ⟨hx, hb, hml, hown, hts⟩ (cX9_doWaveM l D cy ad hh aa pa H.size u x1) (cwV 1 hts gX9_wave_X9_doWave rfl rfl rfl hdX9_doWave ⟨Nat.le_of_ble_eq_true rfl, Nat.le_of_ble_eq_true rfl⟩) hK hP hD hS hA (q0 := 0) rfl rfl rfl hl.1 rfl (Nat.le_of_ble_eq_true rfl) dX9_wave_22 ⟨Nat.zero_le _, Nat.zero_le _⟩ (fun r22 u22 H locs h1 hP hD hS => ?_)
      exact kret_i hx hb hr hlocks hP hD hS h1 dX9_wave_25
    · replace h1 := Ok.neg c7 h1
      exact tX9_wave_b10 K E u H locs ls (lv_sub hl [] rfl) hP hD hS h1
def hX9_wave (p1 : Int32) (u : FS) : Option (Int32 × FS) := hX9_wave_b0 p1 u
set_option maxHeartbeats 4000000 in
set_option maxRecDepth 100000 in
theorem cX9_waveM (l : Launch) (D : va_G) (cy : Nat → ClassId) (ad : Nat → Nat) (hh : Nat → Nat) (aa : Nat → Nat → Nat) (pa : Nat → Nat) (sz : Nat) (u : FS) (p1 : Int32) : ∀ (K : Int32 → FS → Prop), Ok (hX9_wave p1 u) (fun q => K q.1 q.2) → Met l yX9_wave wsX9_wave rmX9_wave (va_Pc [.ref (ad 0), .int p1] (kPre D cy sz (wF cy ad hh aa pa u))) (va_Qi K (fun q => kPost D (va_A (wF cy ad hh aa pa u) sz) (wF cy ad hh aa pa q)) (va_A (wF cy ad hh aa pa u) sz)) 0 0 (va_A (wF cy ad hh aa pa u) sz) := by
  intro K h1
  refine Met.ofW (cc := cX9_wave) (maxL := 2) (ret := (some .int)) (by decide) rfl ?_
  intro p e s m args below meth c s₁ B hml hv
  obtain ⟨rfl, hsz, hP, hK, hD0⟩ := hv
  subst hsz
  have E : mE D cy RX9 cX9_wave 2 (some .int) wsX9_wave (va_A (wF cy ad hh aa pa u) s.heap.size) p s m _ meth c := ⟨B.exec, B.bytes, B.returns, hml, findClass_of_methodNamed B.named, atoms_spec (ws := wsX9_wave) B.pre, B.notSynchronized, hK, fun q h => Or.inr h⟩
  have hl := lv_entry ([.ref (ad 0), .int p1]) (n := 2) (Nat.le_of_ble_eq_true rfl)
  rw [lg_entry_eq]
  generalize (lg_sl ([.ref (ad 0), .int p1]) ++ List.replicate (2 - (lg_sl ([.ref (ad 0), .int p1])).length) Slot.unset).toArray = ls at hl ⊢
  exact tX9_wave_b0 (fun q => K q.1 q.2) E p1 u _ _ _ hl hP hD0.self va_S.rf h1
-- X9_dismiss
theorem hdX9_doDismiss : yX9_doDismiss.cls = RX9 ∧ yX9_doDismiss.cls ≠ "java/lang/invoke/MethodHandle" ∧ yX9_doDismiss.cls ≠ "java/lang/invoke/VarHandle" ∧ (parseMethodDescriptor yX9_doDismiss.desc).map (fun d => d.parameters.length) = some 1 := by decide +kernel
abbrev rmX9_dismiss : Room := { frames := 5, cells := 0, slots := 0, locals := 125 }
def hX9_dismiss_b10 (u : FS) : Option (Int32 × FS) :=
  none
set_option maxHeartbeats 4000000 in
set_option maxRecDepth 100000 in
theorem tX9_dismiss_b10 {p : Program} {l : Launch} {e : Env} {s : State} {m : MethodId} {args : Array Value} {below : List Frame} {meth : Method} {c : Code} {D : va_G} {cy : Nat → ClassId} {A : Nat → Prop} {ad : Nat → Nat} {hh : Nat → Nat} {aa : Nat → Nat → Nat} {pa : Nat → Nat} (K : Int32 × FS → Prop) (E : mE D cy RX9 cX9_dismiss 2 (some .int) wsX9_dismiss A p s m args meth c)
     (u : FS) (H : Heap) (locs : List Loc) (ls : Array Slot) (hl : lv_has ls 2 []) (hP : va_P D kCl (wF cy ad hh aa pa u) H) (hD : va_D A (wF cy ad hh aa pa u)) (hS : va_S A s.heap H locs) (h1 : Ok (hX9_dismiss_b10 u) K) :
    kW p l e rmX9_dismiss s m args below meth c H locs (va_Qi (fun r q => K (r, q)) (fun q => kPost D A (wF cy ad hh aa pa q)) A) A 10 ls [] := by
  obtain ⟨hx, hb, hr, hml, hown, hts, hlocks, hK, hA⟩ := id E
  unfold hX9_dismiss_b10 at h1
  exact h1.no
def hX9_dismiss_b0 (x1 : Int32) (u : FS) : Option (Int32 × FS) :=
  (if x1 < 0 then hX9_dismiss_b10 u else (if x1 < 60 then bnd2 (fX9_doDismiss x1 u) (fun r22 u22 => some (r22, u22)) else hX9_dismiss_b10 u))
set_option maxHeartbeats 4000000 in
set_option maxRecDepth 100000 in
theorem tX9_dismiss_b0 {p : Program} {l : Launch} {e : Env} {s : State} {m : MethodId} {args : Array Value} {below : List Frame} {meth : Method} {c : Code} {D : va_G} {cy : Nat → ClassId} {A : Nat → Prop} {ad : Nat → Nat} {hh : Nat → Nat} {aa : Nat → Nat → Nat} {pa : Nat → Nat} (K : Int32 × FS → Prop) (E : mE D cy RX9 cX9_dismiss 2 (some .int) wsX9_dismiss A p s m args meth c)
     (x1 : Int32) (u : FS) (H : Heap) (locs : List Loc) (ls : Array Slot) (hl : lv_has ls 2 [(0, .ref (ad 0)), (1, .int x1)]) (hP : va_P D kCl (wF cy ad hh aa pa u) H) (hD : va_D A (wF cy ad hh aa pa u)) (hS : va_S A s.heap H locs) (h1 : Ok (hX9_dismiss_b0 x1 u) K) :
    kW p l e rmX9_dismiss s m args below meth c H locs (va_Qi (fun r q => K (r, q)) (fun q => kPost D A (wF cy ad hh aa pa q)) A) A 0 ls [] := by
  obtain ⟨hx, hb, hr, hml, hown, hts, hlocks, hK, hA⟩ := id E
  unfold hX9_dismiss_b0 at h1
  refine lv_iload_n hx hb dX9_dismiss_0 rfl (lv_at hl 1 rfl) ?_
  refine lv_if_lt (tgt := 10) hx hb dX9_dismiss_1 (by decide) (fun c1 => ?_) (fun c1 => ?_)
  · replace h1 := Ok.pos c1 h1
    exact tX9_dismiss_b10 K E u H locs ls (lv_sub hl [] rfl) hP hD hS h1
  · replace h1 := Ok.neg c1 h1
    refine lv_iload_n hx hb dX9_dismiss_4 rfl (lv_at hl 1 rfl) ?_
    refine lv_bipush (v := 60) hx hb dX9_dismiss_5 rfl ?_
    refine lv_icmp_lt (tgt := 20) hx hb dX9_dismiss_7 (by decide) (fun c7 => ?_) (fun c7 => ?_)
    · replace h1 := Ok.pos c7 h1
      refine lv_aload_n hx hb dX9_dismiss_20 rfl (lv_at hl 0 rfl) ?_
      refine lv_iload_n hx hb dX9_dismiss_21 rfl (lv_at hl 1 rfl) ?_
      refine kc_iV0 (b := (ad 0)) (As := [.int x1]) (rest := []) h1 ⟨hx, hb, hml, hown, hts⟩ (cX9_doDismissM l D cy ad hh aa pa H.size u x1) (cwV 1 hts gX9_dismiss_X9_doDismiss rfl rfl rfl hdX9_doDismiss ⟨Nat.le_of_ble_eq_true rfl, Nat.le_of_ble_eq_true rfl⟩) hK hP hD hS hA (q0 := 0) rfl rfl rfl hl.1 rfl (Nat.le_of_ble_eq_true rfl) dX9_dismiss_22 ⟨Nat.zero_le _, Nat.zero_le _⟩ (fun r22 u22 H locs h1 hP hD hS => ?_)
      exact kret_i hx hb hr hlocks hP hD hS h1 dX9_dismiss_25
    · replace h1 := Ok.neg c7 h1
      exact tX9_dismiss_b10 K E u H locs ls (lv_sub hl [] rfl) hP hD hS h1
def hX9_dismiss (p1 : Int32) (u : FS) : Option (Int32 × FS) := hX9_dismiss_b0 p1 u
set_option maxHeartbeats 4000000 in
set_option maxRecDepth 100000 in
theorem cX9_dismissM (l : Launch) (D : va_G) (cy : Nat → ClassId) (ad : Nat → Nat) (hh : Nat → Nat) (aa : Nat → Nat → Nat) (pa : Nat → Nat) (sz : Nat) (u : FS) (p1 : Int32) : ∀ (K : Int32 → FS → Prop), Ok (hX9_dismiss p1 u) (fun q => K q.1 q.2) → Met l yX9_dismiss wsX9_dismiss rmX9_dismiss (va_Pc [.ref (ad 0), .int p1] (kPre D cy sz (wF cy ad hh aa pa u))) (va_Qi K (fun q => kPost D (va_A (wF cy ad hh aa pa u) sz) (wF cy ad hh aa pa q)) (va_A (wF cy ad hh aa pa u) sz)) 0 0 (va_A (wF cy ad hh aa pa u) sz) := by
  intro K h1
  refine Met.ofW (cc := cX9_dismiss) (maxL := 2) (ret := (some .int)) (by decide) rfl ?_
  intro p e s m args below meth c s₁ B hml hv
  obtain ⟨rfl, hsz, hP, hK, hD0⟩ := hv
  subst hsz
  have E : mE D cy RX9 cX9_dismiss 2 (some .int) wsX9_dismiss (va_A (wF cy ad hh aa pa u) s.heap.size) p s m _ meth c := ⟨B.exec, B.bytes, B.returns, hml, findClass_of_methodNamed B.named, atoms_spec (ws := wsX9_dismiss) B.pre, B.notSynchronized, hK, fun q h => Or.inr h⟩
  have hl := lv_entry ([.ref (ad 0), .int p1]) (n := 2) (Nat.le_of_ble_eq_true rfl)
  rw [lg_entry_eq]
  generalize (lg_sl ([.ref (ad 0), .int p1]) ++ List.replicate (2 - (lg_sl ([.ref (ad 0), .int p1])).length) Slot.unset).toArray = ls at hl ⊢
  exact tX9_dismiss_b0 (fun q => K q.1 q.2) E p1 u _ _ _ hl hP hD0.self va_S.rf h1
-- X9_unload
theorem hdX9_doUnload : yX9_doUnload.cls = RX9 ∧ yX9_doUnload.cls ≠ "java/lang/invoke/MethodHandle" ∧ yX9_doUnload.cls ≠ "java/lang/invoke/VarHandle" ∧ (parseMethodDescriptor yX9_doUnload.desc).map (fun d => d.parameters.length) = some 1 := by decide +kernel
abbrev rmX9_unload : Room := { frames := 5, cells := 0, slots := 0, locals := 125 }
def hX9_unload_b9 (u : FS) : Option (Int32 × FS) :=
  none
set_option maxHeartbeats 4000000 in
set_option maxRecDepth 100000 in
theorem tX9_unload_b9 {p : Program} {l : Launch} {e : Env} {s : State} {m : MethodId} {args : Array Value} {below : List Frame} {meth : Method} {c : Code} {D : va_G} {cy : Nat → ClassId} {A : Nat → Prop} {ad : Nat → Nat} {hh : Nat → Nat} {aa : Nat → Nat → Nat} {pa : Nat → Nat} (K : Int32 × FS → Prop) (E : mE D cy RX9 cX9_unload 2 (some .int) wsX9_unload A p s m args meth c)
     (u : FS) (H : Heap) (locs : List Loc) (ls : Array Slot) (hl : lv_has ls 2 []) (hP : va_P D kCl (wF cy ad hh aa pa u) H) (hD : va_D A (wF cy ad hh aa pa u)) (hS : va_S A s.heap H locs) (h1 : Ok (hX9_unload_b9 u) K) :
    kW p l e rmX9_unload s m args below meth c H locs (va_Qi (fun r q => K (r, q)) (fun q => kPost D A (wF cy ad hh aa pa q)) A) A 9 ls [] := by
  obtain ⟨hx, hb, hr, hml, hown, hts, hlocks, hK, hA⟩ := id E
  unfold hX9_unload_b9 at h1
  exact h1.no
def hX9_unload_b0 (x1 : Int32) (u : FS) : Option (Int32 × FS) :=
  (if x1 < 0 then hX9_unload_b9 u else (if x1 < 3 then bnd2 (fX9_doUnload x1 u) (fun r21 u21 => some (r21, u21)) else hX9_unload_b9 u))
set_option maxHeartbeats 4000000 in
set_option maxRecDepth 100000 in
theorem tX9_unload_b0 {p : Program} {l : Launch} {e : Env} {s : State} {m : MethodId} {args : Array Value} {below : List Frame} {meth : Method} {c : Code} {D : va_G} {cy : Nat → ClassId} {A : Nat → Prop} {ad : Nat → Nat} {hh : Nat → Nat} {aa : Nat → Nat → Nat} {pa : Nat → Nat} (K : Int32 × FS → Prop) (E : mE D cy RX9 cX9_unload 2 (some .int) wsX9_unload A p s m args meth c)
     (x1 : Int32) (u : FS) (H : Heap) (locs : List Loc) (ls : Array Slot) (hl : lv_has ls 2 [(0, .ref (ad 0)), (1, .int x1)]) (hP : va_P D kCl (wF cy ad hh aa pa u) H) (hD : va_D A (wF cy ad hh aa pa u)) (hS : va_S A s.heap H locs) (h1 : Ok (hX9_unload_b0 x1 u) K) :
    kW p l e rmX9_unload s m args below meth c H locs (va_Qi (fun r q => K (r, q)) (fun q => kPost D A (wF cy ad hh aa pa q)) A) A 0 ls [] := by
  obtain ⟨hx, hb, hr, hml, hown, hts, hlocks, hK, hA⟩ := id E
  unfold hX9_unload_b0 at h1
  refine lv_iload_n hx hb dX9_unload_0 rfl (lv_at hl 1 rfl) ?_
  refine lv_if_lt (tgt := 9) hx hb dX9_unload_1 (by decide) (fun c1 => ?_) (fun c1 => ?_)
  · replace h1 := Ok.pos c1 h1
    exact tX9_unload_b9 K E u H locs ls (lv_sub hl [] rfl) hP hD hS h1
  · replace h1 := Ok.neg c1 h1
    refine lv_iload_n hx hb dX9_unload_4 rfl (lv_at hl 1 rfl) ?_
    refine lv_iconst (v := 3) hx hb dX9_unload_5 rfl ?_
    refine lv_icmp_lt (tgt := 19) hx hb dX9_unload_6 (by decide) (fun c6 => ?_) (fun c6 => ?_)
    · replace h1 := Ok.pos c6 h1
      refine lv_aload_n hx hb dX9_unload_19 rfl (lv_at hl 0 rfl) ?_
      refine lv_iload_n hx hb dX9_unload_20 rfl (lv_at hl 1 rfl) ?_
      refine kc_iV0 (b := (ad 0)) (As := [.int x1]) (rest := []) h1 ⟨hx, hb, hml, hown, hts⟩ (cX9_doUnloadM l D cy ad hh aa pa H.size u x1) (cwV 1 hts gX9_unload_X9_doUnload rfl rfl rfl hdX9_doUnload ⟨Nat.le_of_ble_eq_true rfl, Nat.le_of_ble_eq_true rfl⟩) hK hP hD hS hA (q0 := 0) rfl rfl rfl hl.1 rfl (Nat.le_of_ble_eq_true rfl) dX9_unload_21 ⟨Nat.zero_le _, Nat.zero_le _⟩ (fun r21 u21 H locs h1 hP hD hS => ?_)
      exact kret_i hx hb hr hlocks hP hD hS h1 dX9_unload_24
    · replace h1 := Ok.neg c6 h1
      exact tX9_unload_b9 K E u H locs ls (lv_sub hl [] rfl) hP hD hS h1
def hX9_unload (p1 : Int32) (u : FS) : Option (Int32 × FS) := hX9_unload_b0 p1 u
set_option maxHeartbeats 4000000 in
set_option maxRecDepth 100000 in
theorem cX9_unloadM (l : Launch) (D : va_G) (cy : Nat → ClassId) (ad : Nat → Nat) (hh : Nat → Nat) (aa : Nat → Nat → Nat) (pa : Nat → Nat) (sz : Nat) (u : FS) (p1 : Int32) : ∀ (K : Int32 → FS → Prop), Ok (hX9_unload p1 u) (fun q => K q.1 q.2) → Met l yX9_unload wsX9_unload rmX9_unload (va_Pc [.ref (ad 0), .int p1] (kPre D cy sz (wF cy ad hh aa pa u))) (va_Qi K (fun q => kPost D (va_A (wF cy ad hh aa pa u) sz) (wF cy ad hh aa pa q)) (va_A (wF cy ad hh aa pa u) sz)) 0 0 (va_A (wF cy ad hh aa pa u) sz) := by
  intro K h1
  refine Met.ofW (cc := cX9_unload) (maxL := 2) (ret := (some .int)) (by decide) rfl ?_
  intro p e s m args below meth c s₁ B hml hv
  obtain ⟨rfl, hsz, hP, hK, hD0⟩ := hv
  subst hsz
  have E : mE D cy RX9 cX9_unload 2 (some .int) wsX9_unload (va_A (wF cy ad hh aa pa u) s.heap.size) p s m _ meth c := ⟨B.exec, B.bytes, B.returns, hml, findClass_of_methodNamed B.named, atoms_spec (ws := wsX9_unload) B.pre, B.notSynchronized, hK, fun q h => Or.inr h⟩
  have hl := lv_entry ([.ref (ad 0), .int p1]) (n := 2) (Nat.le_of_ble_eq_true rfl)
  rw [lg_entry_eq]
  generalize (lg_sl ([.ref (ad 0), .int p1]) ++ List.replicate (2 - (lg_sl ([.ref (ad 0), .int p1])).length) Slot.unset).toArray = ls at hl ⊢
  exact tX9_unload_b0 (fun q => K q.1 q.2) E p1 u _ _ _ hl hP hD0.self va_S.rf h1
-- X9_crank
theorem hdX9_doCrank : yX9_doCrank.cls = RX9 ∧ yX9_doCrank.cls ≠ "java/lang/invoke/MethodHandle" ∧ yX9_doCrank.cls ≠ "java/lang/invoke/VarHandle" ∧ (parseMethodDescriptor yX9_doCrank.desc).map (fun d => d.parameters.length) = some 1 := by decide +kernel
abbrev rmX9_crank : Room := { frames := 5, cells := 0, slots := 0, locals := 124 }
def hX9_crank_b12 (u : FS) : Option (Int32 × FS) :=
  none
set_option maxHeartbeats 4000000 in
set_option maxRecDepth 100000 in
theorem tX9_crank_b12 {p : Program} {l : Launch} {e : Env} {s : State} {m : MethodId} {args : Array Value} {below : List Frame} {meth : Method} {c : Code} {D : va_G} {cy : Nat → ClassId} {A : Nat → Prop} {ad : Nat → Nat} {hh : Nat → Nat} {aa : Nat → Nat → Nat} {pa : Nat → Nat} (K : Int32 × FS → Prop) (E : mE D cy RX9 cX9_crank 2 (some .int) wsX9_crank A p s m args meth c)
     (u : FS) (H : Heap) (locs : List Loc) (ls : Array Slot) (hl : lv_has ls 2 []) (hP : va_P D kCl (wF cy ad hh aa pa u) H) (hD : va_D A (wF cy ad hh aa pa u)) (hS : va_S A s.heap H locs) (h1 : Ok (hX9_crank_b12 u) K) :
    kW p l e rmX9_crank s m args below meth c H locs (va_Qi (fun r q => K (r, q)) (fun q => kPost D A (wF cy ad hh aa pa q)) A) A 12 ls [] := by
  obtain ⟨hx, hb, hr, hml, hown, hts, hlocks, hK, hA⟩ := id E
  unfold hX9_crank_b12 at h1
  exact h1.no
def hX9_crank_b0 (x1 : Int32) (u : FS) : Option (Int32 × FS) :=
  (if x1 < (-20) then hX9_crank_b12 u else (if x1 ≤ 20 then bnd2 (fX9_doCrank x1 u) (fun r24 u24 => some (r24, u24)) else hX9_crank_b12 u))
set_option maxHeartbeats 4000000 in
set_option maxRecDepth 100000 in
theorem tX9_crank_b0 {p : Program} {l : Launch} {e : Env} {s : State} {m : MethodId} {args : Array Value} {below : List Frame} {meth : Method} {c : Code} {D : va_G} {cy : Nat → ClassId} {A : Nat → Prop} {ad : Nat → Nat} {hh : Nat → Nat} {aa : Nat → Nat → Nat} {pa : Nat → Nat} (K : Int32 × FS → Prop) (E : mE D cy RX9 cX9_crank 2 (some .int) wsX9_crank A p s m args meth c)
     (x1 : Int32) (u : FS) (H : Heap) (locs : List Loc) (ls : Array Slot) (hl : lv_has ls 2 [(0, .ref (ad 0)), (1, .int x1)]) (hP : va_P D kCl (wF cy ad hh aa pa u) H) (hD : va_D A (wF cy ad hh aa pa u)) (hS : va_S A s.heap H locs) (h1 : Ok (hX9_crank_b0 x1 u) K) :
    kW p l e rmX9_crank s m args below meth c H locs (va_Qi (fun r q => K (r, q)) (fun q => kPost D A (wF cy ad hh aa pa q)) A) A 0 ls [] := by
  obtain ⟨hx, hb, hr, hml, hown, hts, hlocks, hK, hA⟩ := id E
  unfold hX9_crank_b0 at h1
  refine lv_iload_n hx hb dX9_crank_0 rfl (lv_at hl 1 rfl) ?_
  refine lv_bipush (v := (-20)) hx hb dX9_crank_1 rfl ?_
  refine lv_icmp_lt (tgt := 12) hx hb dX9_crank_3 (by decide) (fun c3 => ?_) (fun c3 => ?_)
  · replace h1 := Ok.pos c3 h1
    exact tX9_crank_b12 K E u H locs ls (lv_sub hl [] rfl) hP hD hS h1
  · replace h1 := Ok.neg c3 h1
    refine lv_iload_n hx hb dX9_crank_6 rfl (lv_at hl 1 rfl) ?_
    refine lv_bipush (v := 20) hx hb dX9_crank_7 rfl ?_
    refine lv_icmp_le (tgt := 22) hx hb dX9_crank_9 (by decide) (fun c9 => ?_) (fun c9 => ?_)
    · replace h1 := Ok.pos c9 h1
      refine lv_aload_n hx hb dX9_crank_22 rfl (lv_at hl 0 rfl) ?_
      refine lv_iload_n hx hb dX9_crank_23 rfl (lv_at hl 1 rfl) ?_
      refine kc_iV0 (b := (ad 0)) (As := [.int x1]) (rest := []) h1 ⟨hx, hb, hml, hown, hts⟩ (cX9_doCrankM l D cy ad hh aa pa H.size u x1) (cwV 1 hts gX9_crank_X9_doCrank rfl rfl rfl hdX9_doCrank ⟨Nat.le_of_ble_eq_true rfl, Nat.le_of_ble_eq_true rfl⟩) hK hP hD hS hA (q0 := 0) rfl rfl rfl hl.1 rfl (Nat.le_of_ble_eq_true rfl) dX9_crank_24 ⟨Nat.zero_le _, Nat.zero_le _⟩ (fun r24 u24 H locs h1 hP hD hS => ?_)
      exact kret_i hx hb hr hlocks hP hD hS h1 dX9_crank_27
    · replace h1 := Ok.neg c9 h1
      exact tX9_crank_b12 K E u H locs ls (lv_sub hl [] rfl) hP hD hS h1
def hX9_crank (p1 : Int32) (u : FS) : Option (Int32 × FS) := hX9_crank_b0 p1 u
set_option maxHeartbeats 4000000 in
set_option maxRecDepth 100000 in
theorem cX9_crankM (l : Launch) (D : va_G) (cy : Nat → ClassId) (ad : Nat → Nat) (hh : Nat → Nat) (aa : Nat → Nat → Nat) (pa : Nat → Nat) (sz : Nat) (u : FS) (p1 : Int32) : ∀ (K : Int32 → FS → Prop), Ok (hX9_crank p1 u) (fun q => K q.1 q.2) → Met l yX9_crank wsX9_crank rmX9_crank (va_Pc [.ref (ad 0), .int p1] (kPre D cy sz (wF cy ad hh aa pa u))) (va_Qi K (fun q => kPost D (va_A (wF cy ad hh aa pa u) sz) (wF cy ad hh aa pa q)) (va_A (wF cy ad hh aa pa u) sz)) 0 0 (va_A (wF cy ad hh aa pa u) sz) := by
  intro K h1
  refine Met.ofW (cc := cX9_crank) (maxL := 2) (ret := (some .int)) (by decide) rfl ?_
  intro p e s m args below meth c s₁ B hml hv
  obtain ⟨rfl, hsz, hP, hK, hD0⟩ := hv
  subst hsz
  have E : mE D cy RX9 cX9_crank 2 (some .int) wsX9_crank (va_A (wF cy ad hh aa pa u) s.heap.size) p s m _ meth c := ⟨B.exec, B.bytes, B.returns, hml, findClass_of_methodNamed B.named, atoms_spec (ws := wsX9_crank) B.pre, B.notSynchronized, hK, fun q h => Or.inr h⟩
  have hl := lv_entry ([.ref (ad 0), .int p1]) (n := 2) (Nat.le_of_ble_eq_true rfl)
  rw [lg_entry_eq]
  generalize (lg_sl ([.ref (ad 0), .int p1]) ++ List.replicate (2 - (lg_sl ([.ref (ad 0), .int p1])).length) Slot.unset).toArray = ls at hl ⊢
  exact tX9_crank_b0 (fun q => K q.1 q.2) E p1 u _ _ _ hl hP hD0.self va_S.rf h1
