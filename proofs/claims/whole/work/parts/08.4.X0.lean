-- X9_appendText
theorem inX9_appendText_X9 : ∀ w ∈ u_ws RX9 TX9 9, w ∈ wsX9_appendText := k_lays 12 rfl
theorem lkX9_appendText_37 : Cond.fieldLink RX9 37 "FerryRamp" "parser" "LFerryRamp$Parser;" ∈ wsX9_appendText := List.mem_of_getElem? (i := 3) rfl
theorem inX9_appendText_X6 : ∀ w ∈ u_ws RX6 TX6 11, w ∈ wsX9_appendText := k_lays 21 rfl
theorem lkX9_appendText_58 : Cond.fieldLink RX9 58 "FerryRamp$Parser" "length" "I" ∈ wsX9_appendText := List.mem_of_getElem? (i := 4) rfl
theorem hdX6_addByte : yX6_addByte.cls = RX6 ∧ yX6_addByte.cls ≠ "java/lang/invoke/MethodHandle" ∧ yX6_addByte.cls ≠ "java/lang/invoke/VarHandle" ∧ (parseMethodDescriptor yX6_addByte.desc).map (fun d => d.parameters.length) = some 1 := by decide +kernel
theorem xaX9_appendText_65 : ∀ w ∈ (vx_atS RX9 65 "java/lang/IllegalStateException" ["java/lang/RuntimeException", "java/lang/Exception"]).filter goodWord, w ∈ wsX9_appendText := fun w h => List.mem_cons_of_mem _ (List.mem_append_right _ h)
theorem xbRX9_65 : ∀ w ∈ (vx_atS RX9 65 "java/lang/IllegalStateException" ["java/lang/RuntimeException", "java/lang/Exception"]).filter (fun w => !goodWord w), w ∈ xCast "java/lang/IllegalStateException" := by decide +kernel
theorem xgRX9_61_65 : ∀ w ∈ Cond.classLink RX9 61 "java/lang/IllegalStateException" :: Cond.initialized "java/lang/IllegalStateException" :: vx_atS RX9 65 "java/lang/IllegalStateException" ["java/lang/RuntimeException", "java/lang/Exception"], vx_ot w = true := by decide +kernel
abbrev rmX9_appendText : Room := { frames := 6, cells := 1, slots := 6, locals := 90 }
def fX9_appendText_b28 (k28 : Int32 × Int32 × FS → Option ((String ⊕ Int32) × FS)) (x1 : Int32) (x2 : Int32) (u : FS) : Option ((String ⊕ Int32) × FS) :=
  (if x2 < 0 then some (.inr (pLe (fP u)), u) else bnd (fX6_addByte (((x1.toUInt32 >>> (x2.toUInt32 &&& Int32.toUInt32 31)).toInt32) &&& 255) (fP u)) (fun u43 => k28 (x1, x2 + (-8), gP u u43)))
set_option maxHeartbeats 4000000 in
set_option maxRecDepth 100000 in
theorem tX9_appendText_b28 {p : Program} {l : Launch} {e : Env} {s : State} {m : MethodId} {args : Array Value} {below : List Frame} {meth : Method} {c : Code} {D : va_G} {cy : Nat → ClassId} {A : Nat → Prop} {ad : Nat → Nat} {hh : Nat → Nat} {aa : Nat → Nat → Nat} {pa : Nat → Nat} {za zv : Nat → Nat} (K : (String ⊕ Int32) × FS → Prop) (E : mE D cy RX9 cX9_appendText 3 (some .int) wsX9_appendText A p s m args meth c) (hfl : l.stackTraces = false) (hex : ∀ x ∈ c.exceptionTable.toList, False) (hZ : mZ za zv A s s.heap)
    (k28 : Int32 × Int32 × FS → Option ((String ⊕ Int32) × FS)) (hk28 : ∀ (x1 : Int32) (x2 : Int32) (u : FS) (H : Heap) (locs : List Loc) (ls : Array Slot), lv_has ls 3 [(0, .ref (ad 0)), (1, .int x1), (2, .int x2)] → va_P D vwCl (wF cy ad hh aa pa u) H → va_D A (wF cy ad hh aa pa u) → va_S A s.heap H locs → Ok (k28 (x1, x2, u)) K → kWx p l e rmX9_appendText s m args below meth c H locs (va_Qi (fun r q => K (.inr r, q)) (fun q => kPost D A (wF cy ad hh aa pa q)) A) (vx_X (fun _ : FS => True) (fun E q t => K (.inl E, q) ∧ kPost D A (wF cy ad hh aa pa q) t) A) A 28 ls [])
     (x1 : Int32) (x2 : Int32) (u : FS) (H : Heap) (locs : List Loc) (ls : Array Slot) (hl : lv_has ls 3 [(0, .ref (ad 0)), (1, .int x1), (2, .int x2)]) (hP : va_P D vwCl (wF cy ad hh aa pa u) H) (hD : va_D A (wF cy ad hh aa pa u)) (hS : va_S A s.heap H locs) (h1 : Ok (fX9_appendText_b28 k28 x1 x2 u) K) :
    kWx p l e rmX9_appendText s m args below meth c H locs (va_Qi (fun r q => K (.inr r, q)) (fun q => kPost D A (wF cy ad hh aa pa q)) A) (vx_X (fun _ : FS => True) (fun E q t => K (.inl E, q) ∧ kPost D A (wF cy ad hh aa pa q) t) A) A 28 ls [] := by
  obtain ⟨hx, hb, hr, hml, hown, hts, hlocks, hK, hA⟩ := id E
  unfold fX9_appendText_b28 at h1
  refine lv_iload_n hx hb dX9_appendText_28 rfl (lv_at hl 2 rfl) ?_
  refine lv_if_lt (tgt := 52) hx hb dX9_appendText_29 (by decide) (fun c29 => ?_) (fun c29 => ?_)
  · replace h1 := Ok.pos c29 h1
    refine lv_aload_n hx hb dX9_appendText_52 rfl (lv_at hl 0 rfl) ?_
    refine k_get (v := .ref (pa 0)) (C := RX9) (T := TX9) (N := 9) hx hb hts inX9_appendText_X9 hown hK hP 0 (wF_c0 _ _ _ _ _ _) rfl 5 (by decide) lkX9_appendText_37 (fFs_5 _ _ _ _) dX9_appendText_53 ?_
    refine k_get (v := .int (pLe (fP u))) (C := RX6) (T := TX6) (N := 11) hx hb hts inX9_appendText_X6 hown hK hP 117 (wF_c117 _ _ _ _ _ _) rfl 1 (by decide) lkX9_appendText_58 (pFs_1 _ _) dX9_appendText_56 ?_
    exact kret_x hx hb hr hlocks hP hD hS h1 dX9_appendText_59
  · replace h1 := Ok.neg c29 h1
    refine lv_aload_n hx hb dX9_appendText_32 rfl (lv_at hl 0 rfl) ?_
    refine k_get (v := .ref (pa 0)) (C := RX9) (T := TX9) (N := 9) hx hb hts inX9_appendText_X9 hown hK hP 0 (wF_c0 _ _ _ _ _ _) rfl 5 (by decide) lkX9_appendText_37 (fFs_5 _ _ _ _) dX9_appendText_33 ?_
    refine lv_iload_n hx hb dX9_appendText_36 rfl (lv_at hl 1 rfl) ?_
    refine lv_iload_n hx hb dX9_appendText_37 rfl (lv_at hl 2 rfl) ?_
    refine lv_iushr hx hb dX9_appendText_38 rfl ?_
    refine lv_sipush (v := 255) hx hb dX9_appendText_39 rfl ?_
    refine lv_iand hx hb dX9_appendText_42 ?_
    refine kc_vV (b := (pa 0)) (As := [.int (((x1.toUInt32 >>> (x2.toUInt32 &&& Int32.toUInt32 31)).toInt32) &&& 255)]) (rest := []) h1 ⟨hx, hb, hml, hown, hts⟩ (cX6_addByteM l D cy pa H.size (fP u) (((x1.toUInt32 >>> (x2.toUInt32 &&& Int32.toUInt32 31)).toInt32) &&& 255)) (cwV 1 hts gX9_appendText_X6_addByte rfl rfl rfl hdX6_addByte ⟨Nat.le_of_ble_eq_true rfl, Nat.le_of_ble_eq_true rfl⟩) hK (wF_sel12 _ _ _ _ _ _) hP hD hS hA (q0 := 0) rfl rfl rfl hl.1 rfl (Nat.le_of_ble_eq_true rfl) dX9_appendText_43 ⟨Nat.zero_le _, Nat.zero_le _⟩ (fun u43 H locs h1 hP hD hS => ?_)
    replace hP := kP_perm (wF_uns12_0 cy ad hh aa pa u u43).symm hP
    replace hD := kD_perm (wF_uns12_0 cy ad hh aa pa u u43).symm hD
    refine lv_iinc (v := x2 + (-8)) (lv' := [(2, .int (x2 + (-8))), (0, .ref (ad 0)), (1, .int x1)]) hx hb dX9_appendText_46 hl (k := 2) rfl rfl (by decide) rfl (fun ls hl => ?_)
    refine lv_goto (tgt := 28) hx hb dX9_appendText_49 (by decide) ?_
    exact hk28 x1 (x2 + (-8)) (gP u u43) H locs ls (lv_sub hl [1, 2, 0] rfl) hP hD hS h1
theorem tX9_appendText_l28 {p : Program} {l : Launch} {e : Env} {s : State} {m : MethodId} {args : Array Value} {below : List Frame} {meth : Method} {c : Code} {D : va_G} {cy : Nat → ClassId} {A : Nat → Prop} {ad : Nat → Nat} {hh : Nat → Nat} {aa : Nat → Nat → Nat} {pa : Nat → Nat} {za zv : Nat → Nat} (K : (String ⊕ Int32) × FS → Prop) (E : mE D cy RX9 cX9_appendText 3 (some .int) wsX9_appendText A p s m args meth c) (hfl : l.stackTraces = false) (hex : ∀ x ∈ c.exceptionTable.toList, False) (hZ : mZ za zv A s s.heap) : ∀ (n9 : Nat) (x1 : Int32) (x2 : Int32) (u : FS) (H : Heap) (locs : List Loc) (ls : Array Slot), lv_has ls 3 [(0, .ref (ad 0)), (1, .int x1), (2, .int x2)] → va_P D vwCl (wF cy ad hh aa pa u) H → va_D A (wF cy ad hh aa pa u) → va_S A s.heap H locs → Ok (lop (fun y z => fX9_appendText_b28 y z.1 z.2.1 z.2.2) n9 (x1, x2, u)) K → kWx p l e rmX9_appendText s m args below meth c H locs (va_Qi (fun r q => K (.inr r, q)) (fun q => kPost D A (wF cy ad hh aa pa q)) A) (vx_X (fun _ : FS => True) (fun E q t => K (.inl E, q) ∧ kPost D A (wF cy ad hh aa pa q) t) A) A 28 ls [] := by
  intro n9
  induction n9 with
  | zero =>
    intro x1 x2 u H locs ls hl hP hD hS h1
    exact h1.no
  | succ n9 ih =>
    intro x1 x2 u H locs ls hl hP hD hS h1
    exact tX9_appendText_b28 K E hfl hex hZ (lop (fun y z => fX9_appendText_b28 y z.1 z.2.1 z.2.2) n9) (fun x1 x2 u H locs ls hl hP hD hS h1 => ih x1 x2 u H locs ls hl hP hD hS h1) x1 x2 u H locs ls hl hP hD hS h1
def fX9_appendText_b0 (x1 : Int32) (u : FS) : Option ((String ⊕ Int32) × FS) :=
  (if ((pLe (fP u)) + 4) ≤ 500 then lop (fun y z => fX9_appendText_b28 y z.1 z.2.1 z.2.2) LF (x1, 24, u) else some (.inl "java/lang/IllegalStateException", u))
set_option maxHeartbeats 4000000 in
set_option maxRecDepth 100000 in
theorem tX9_appendText_b0 {p : Program} {l : Launch} {e : Env} {s : State} {m : MethodId} {args : Array Value} {below : List Frame} {meth : Method} {c : Code} {D : va_G} {cy : Nat → ClassId} {A : Nat → Prop} {ad : Nat → Nat} {hh : Nat → Nat} {aa : Nat → Nat → Nat} {pa : Nat → Nat} {za zv : Nat → Nat} (K : (String ⊕ Int32) × FS → Prop) (E : mE D cy RX9 cX9_appendText 3 (some .int) wsX9_appendText A p s m args meth c) (hfl : l.stackTraces = false) (hex : ∀ x ∈ c.exceptionTable.toList, False) (hZ : mZ za zv A s s.heap)
     (x1 : Int32) (u : FS) (H : Heap) (locs : List Loc) (ls : Array Slot) (hl : lv_has ls 3 [(0, .ref (ad 0)), (1, .int x1)]) (hP : va_P D vwCl (wF cy ad hh aa pa u) H) (hD : va_D A (wF cy ad hh aa pa u)) (hS : va_S A s.heap H locs) (h1 : Ok (fX9_appendText_b0 x1 u) K) :
    kWx p l e rmX9_appendText s m args below meth c H locs (va_Qi (fun r q => K (.inr r, q)) (fun q => kPost D A (wF cy ad hh aa pa q)) A) (vx_X (fun _ : FS => True) (fun E q t => K (.inl E, q) ∧ kPost D A (wF cy ad hh aa pa q) t) A) A 0 ls [] := by
  obtain ⟨hx, hb, hr, hml, hown, hts, hlocks, hK, hA⟩ := id E
  unfold fX9_appendText_b0 at h1
  refine lv_aload_n hx hb dX9_appendText_0 rfl (lv_at hl 0 rfl) ?_
  refine k_get (v := .ref (pa 0)) (C := RX9) (T := TX9) (N := 9) hx hb hts inX9_appendText_X9 hown hK hP 0 (wF_c0 _ _ _ _ _ _) rfl 5 (by decide) lkX9_appendText_37 (fFs_5 _ _ _ _) dX9_appendText_1 ?_
  refine k_get (v := .int (pLe (fP u))) (C := RX6) (T := TX6) (N := 11) hx hb hts inX9_appendText_X6 hown hK hP 117 (wF_c117 _ _ _ _ _ _) rfl 1 (by decide) lkX9_appendText_58 (pFs_1 _ _) dX9_appendText_4 ?_
  refine lv_iconst (v := 4) hx hb dX9_appendText_7 rfl ?_
  refine lv_iadd hx hb dX9_appendText_8 ?_
  refine lv_sipush (v := 500) hx hb dX9_appendText_9 rfl ?_
  refine lv_icmp_le (tgt := 25) hx hb dX9_appendText_12 (by decide) (fun c12 => ?_) (fun c12 => ?_)
  · replace h1 := Ok.pos c12 h1
    refine lv_bipush (v := 24) hx hb dX9_appendText_25 rfl ?_
    refine lv_istore_n (lv' := [(2, .int 24), (0, .ref (ad 0)), (1, .int x1)]) hx hb dX9_appendText_27 rfl hl (by decide) rfl (fun ls hl => ?_)
    exact tX9_appendText_l28 K E hfl hex hZ LF x1 24 u H locs ls (lv_sub hl [1, 2, 0] rfl) hP hD hS h1
  · replace h1 := Ok.neg c12 h1
    exact kx_throw (names := ["java/lang/RuntimeException", "java/lang/Exception"]) (text := "the text would be too long") (sa := za 0) hx hb hfl hml hown (by decide) (by decide) (hts _ (List.mem_of_getElem? (i := 1) rfl)) (hts _ (List.mem_of_getElem? (i := 2) rfl)) (k_site hZ 0 (by decide)) (vx_hat (fun w h => hts w (xaX9_appendText_65 w h)) xbRX9_65 (hZ.cast (by decide))) xgRX9_61_65 hZ hK hP hD hS hl.1 dX9_appendText_15 dX9_appendText_18 dX9_appendText_19 dX9_appendText_21 dX9_appendText_24 hex hlocks h1 (Nat.le_of_ble_eq_true rfl) (Nat.le_of_ble_eq_true rfl) (Nat.le_of_ble_eq_true rfl) (Nat.le_of_ble_eq_true rfl)
def fX9_appendText (p1 : Int32) (u : FS) : Option ((String ⊕ Int32) × FS) := fX9_appendText_b0 p1 u
set_option maxHeartbeats 4000000 in
set_option maxRecDepth 100000 in
theorem cX9_appendTextM (l : Launch) (hfl : l.stackTraces = false) (D : va_G) (cy : Nat → ClassId) (za zv : Nat → Nat) (ad : Nat → Nat) (hh : Nat → Nat) (aa : Nat → Nat → Nat) (pa : Nat → Nat) (sz : Nat) (u : FS) (p1 : Int32) : ∀ (K : (String ⊕ Int32) × FS → Prop), Ok (fX9_appendText p1 u) K → vx_Met l yX9_appendText wsX9_appendText rmX9_appendText (va_Pc [.ref (ad 0), .int p1] (kPreZ D cy za zv sz (wF cy ad hh aa pa u))) (va_Qi (fun r q => K (.inr r, q)) (fun q => kPost D (va_A (wF cy ad hh aa pa u) sz) (wF cy ad hh aa pa q)) (va_A (wF cy ad hh aa pa u) sz)) (vx_X (fun _ : FS => True) (fun E q t => K (.inl E, q) ∧ kPost D (va_A (wF cy ad hh aa pa u) sz) (wF cy ad hh aa pa q) t) (va_A (wF cy ad hh aa pa u) sz)) 1 6 (va_A (wF cy ad hh aa pa u) sz) := by
  intro K h1
  refine vx_ofW (cc := cX9_appendText) (maxL := 3) (ret := (some .int)) (by decide) rfl ?_
  intro p e s m args below meth c s₁ B hml hex hv
  obtain ⟨rfl, ⟨hsz, hP, hK, hD0⟩, hZ⟩ := hv
  subst hsz
  have E : mE D cy RX9 cX9_appendText 3 (some .int) wsX9_appendText (va_A (wF cy ad hh aa pa u) s.heap.size) p s m _ meth c := ⟨B.exec, B.bytes, B.returns, hml, findClass_of_methodNamed B.named, atoms_spec (ws := wsX9_appendText) B.pre, B.notSynchronized, hK, fun q h => Or.inr h⟩
  have hl := lv_entry ([.ref (ad 0), .int p1]) (n := 3) (Nat.le_of_ble_eq_true rfl)
  rw [lg_entry_eq]
  generalize (lg_sl ([.ref (ad 0), .int p1]) ++ List.replicate (3 - (lg_sl ([.ref (ad 0), .int p1])).length) Slot.unset).toArray = ls at hl ⊢
  exact tX9_appendText_b0 K E hfl hex hZ p1 u _ _ _ hl hP hD0.self va_S.rf h1
-- X9_truncateText
theorem xaX9_truncateText_75 : ∀ w ∈ (vx_atS RX9 75 "java/lang/IllegalArgumentException" ["java/lang/RuntimeException", "java/lang/Exception"]).filter goodWord, w ∈ wsX9_truncateText := fun w h => List.mem_cons_of_mem _ (List.mem_append_right _ h)
theorem xbRX9_75 : ∀ w ∈ (vx_atS RX9 75 "java/lang/IllegalArgumentException" ["java/lang/RuntimeException", "java/lang/Exception"]).filter (fun w => !goodWord w), w ∈ xCast "java/lang/IllegalArgumentException" := by decide +kernel
theorem xgRX9_72_75 : ∀ w ∈ Cond.classLink RX9 72 "java/lang/IllegalArgumentException" :: Cond.initialized "java/lang/IllegalArgumentException" :: vx_atS RX9 75 "java/lang/IllegalArgumentException" ["java/lang/RuntimeException", "java/lang/Exception"], vx_ot w = true := by decide +kernel
theorem inX9_truncateText_X9 : ∀ w ∈ u_ws RX9 TX9 9, w ∈ wsX9_truncateText := k_lays 5 rfl
theorem lkX9_truncateText_37 : Cond.fieldLink RX9 37 "FerryRamp" "parser" "LFerryRamp$Parser;" ∈ wsX9_truncateText := List.mem_of_getElem? (i := 3) rfl
theorem inX9_truncateText_X6 : ∀ w ∈ u_ws RX6 TX6 11, w ∈ wsX9_truncateText := k_lays 14 rfl
theorem lkX9_truncateText_58 : Cond.fieldLink RX9 58 "FerryRamp$Parser" "length" "I" ∈ wsX9_truncateText := List.mem_of_getElem? (i := 4) rfl
abbrev rmX9_truncateText : Room := { frames := 6, cells := 1, slots := 6, locals := 90 }
def fX9_truncateText_b15 (u : FS) : Option ((String ⊕ Int32) × FS) :=
  some (.inl "java/lang/IllegalArgumentException", u)
set_option maxHeartbeats 4000000 in
set_option maxRecDepth 100000 in
theorem tX9_truncateText_b15 {p : Program} {l : Launch} {e : Env} {s : State} {m : MethodId} {args : Array Value} {below : List Frame} {meth : Method} {c : Code} {D : va_G} {cy : Nat → ClassId} {A : Nat → Prop} {ad : Nat → Nat} {hh : Nat → Nat} {aa : Nat → Nat → Nat} {pa : Nat → Nat} {za zv : Nat → Nat} (K : (String ⊕ Int32) × FS → Prop) (E : mE D cy RX9 cX9_truncateText 2 (some .int) wsX9_truncateText A p s m args meth c) (hfl : l.stackTraces = false) (hex : ∀ x ∈ c.exceptionTable.toList, False) (hZ : mZ za zv A s s.heap)
     (u : FS) (H : Heap) (locs : List Loc) (ls : Array Slot) (hl : lv_has ls 2 []) (hP : va_P D vwCl (wF cy ad hh aa pa u) H) (hD : va_D A (wF cy ad hh aa pa u)) (hS : va_S A s.heap H locs) (h1 : Ok (fX9_truncateText_b15 u) K) :
    kWx p l e rmX9_truncateText s m args below meth c H locs (va_Qi (fun r q => K (.inr r, q)) (fun q => kPost D A (wF cy ad hh aa pa q)) A) (vx_X (fun _ : FS => True) (fun E q t => K (.inl E, q) ∧ kPost D A (wF cy ad hh aa pa q) t) A) A 15 ls [] := by
  obtain ⟨hx, hb, hr, hml, hown, hts, hlocks, hK, hA⟩ := id E
  unfold fX9_truncateText_b15 at h1
  exact kx_throw (names := ["java/lang/RuntimeException", "java/lang/Exception"]) (text := "length") (sa := za 1) hx hb hfl hml hown (by decide) (by decide) (hts _ (List.mem_of_getElem? (i := 1) rfl)) (hts _ (List.mem_of_getElem? (i := 2) rfl)) (k_site hZ 1 (by decide)) (vx_hat (fun w h => hts w (xaX9_truncateText_75 w h)) xbRX9_75 (hZ.cast (by decide))) xgRX9_72_75 hZ hK hP hD hS hl.1 dX9_truncateText_15 dX9_truncateText_18 dX9_truncateText_19 dX9_truncateText_21 dX9_truncateText_24 hex hlocks h1 (Nat.le_of_ble_eq_true rfl) (Nat.le_of_ble_eq_true rfl) (Nat.le_of_ble_eq_true rfl) (Nat.le_of_ble_eq_true rfl)
def fX9_truncateText_b0 (x1 : Int32) (u : FS) : Option ((String ⊕ Int32) × FS) :=
  (if x1 < 0 then fX9_truncateText_b15 u else (if x1 ≤ (pLe (fP u)) then some (.inr x1, gP u (tLe (fP u) x1)) else fX9_truncateText_b15 u))
set_option maxHeartbeats 4000000 in
set_option maxRecDepth 100000 in
theorem tX9_truncateText_b0 {p : Program} {l : Launch} {e : Env} {s : State} {m : MethodId} {args : Array Value} {below : List Frame} {meth : Method} {c : Code} {D : va_G} {cy : Nat → ClassId} {A : Nat → Prop} {ad : Nat → Nat} {hh : Nat → Nat} {aa : Nat → Nat → Nat} {pa : Nat → Nat} {za zv : Nat → Nat} (K : (String ⊕ Int32) × FS → Prop) (E : mE D cy RX9 cX9_truncateText 2 (some .int) wsX9_truncateText A p s m args meth c) (hfl : l.stackTraces = false) (hex : ∀ x ∈ c.exceptionTable.toList, False) (hZ : mZ za zv A s s.heap)
     (x1 : Int32) (u : FS) (H : Heap) (locs : List Loc) (ls : Array Slot) (hl : lv_has ls 2 [(0, .ref (ad 0)), (1, .int x1)]) (hP : va_P D vwCl (wF cy ad hh aa pa u) H) (hD : va_D A (wF cy ad hh aa pa u)) (hS : va_S A s.heap H locs) (h1 : Ok (fX9_truncateText_b0 x1 u) K) :
    kWx p l e rmX9_truncateText s m args below meth c H locs (va_Qi (fun r q => K (.inr r, q)) (fun q => kPost D A (wF cy ad hh aa pa q)) A) (vx_X (fun _ : FS => True) (fun E q t => K (.inl E, q) ∧ kPost D A (wF cy ad hh aa pa q) t) A) A 0 ls [] := by
  obtain ⟨hx, hb, hr, hml, hown, hts, hlocks, hK, hA⟩ := id E
  unfold fX9_truncateText_b0 at h1
  refine lv_iload_n hx hb dX9_truncateText_0 rfl (lv_at hl 1 rfl) ?_
  refine lv_if_lt (tgt := 15) hx hb dX9_truncateText_1 (by decide) (fun c1 => ?_) (fun c1 => ?_)
  · replace h1 := Ok.pos c1 h1
    exact tX9_truncateText_b15 K E hfl hex hZ u H locs ls (lv_sub hl [] rfl) hP hD hS h1
  · replace h1 := Ok.neg c1 h1
    refine lv_iload_n hx hb dX9_truncateText_4 rfl (lv_at hl 1 rfl) ?_
    refine lv_aload_n hx hb dX9_truncateText_5 rfl (lv_at hl 0 rfl) ?_
    refine k_get (v := .ref (pa 0)) (C := RX9) (T := TX9) (N := 9) hx hb hts inX9_truncateText_X9 hown hK hP 0 (wF_c0 _ _ _ _ _ _) rfl 5 (by decide) lkX9_truncateText_37 (fFs_5 _ _ _ _) dX9_truncateText_6 ?_
    refine k_get (v := .int (pLe (fP u))) (C := RX6) (T := TX6) (N := 11) hx hb hts inX9_truncateText_X6 hown hK hP 117 (wF_c117 _ _ _ _ _ _) rfl 1 (by decide) lkX9_truncateText_58 (pFs_1 _ _) dX9_truncateText_9 ?_
    refine lv_icmp_le (tgt := 25) hx hb dX9_truncateText_12 (by decide) (fun c12 => ?_) (fun c12 => ?_)
    · replace h1 := Ok.pos c12 h1
      refine lv_aload_n hx hb dX9_truncateText_25 rfl (lv_at hl 0 rfl) ?_
      refine k_get (v := .ref (pa 0)) (C := RX9) (T := TX9) (N := 9) hx hb hts inX9_truncateText_X9 hown hK hP 0 (wF_c0 _ _ _ _ _ _) rfl 5 (by decide) lkX9_truncateText_37 (fFs_5 _ _ _ _) dX9_truncateText_26 ?_
      refine lv_iload_n hx hb dX9_truncateText_29 rfl (lv_at hl 1 rfl) ?_
      refine k_put (v := .int x1) (ty := .int) (C := RX6) (T := TX6) (N := 11) hx hb hts inX9_truncateText_X6 tyX6 tyX6_ok nmX6 hown hK hP hD hS 117 (wF_c117 _ _ _ _ _ _) rfl 1 (by decide) lkX9_truncateText_58 rfl (by decide +kernel) rfl rfl (Nat.le_of_ble_eq_true rfl) (ws' := wF cy ad hh aa pa (gP u (tLe (fP u) x1))) (wF_s117_1 _ _ _ _ _ _ _) dX9_truncateText_30 (fun H locs hP hD hS => ?_)
      refine lv_iload_n hx hb dX9_truncateText_33 rfl (lv_at hl 1 rfl) ?_
      exact kret_x hx hb hr hlocks hP hD hS h1 dX9_truncateText_34
    · replace h1 := Ok.neg c12 h1
      exact tX9_truncateText_b15 K E hfl hex hZ u H locs ls (lv_sub hl [] rfl) hP hD hS h1
def fX9_truncateText (p1 : Int32) (u : FS) : Option ((String ⊕ Int32) × FS) := fX9_truncateText_b0 p1 u
set_option maxHeartbeats 4000000 in
set_option maxRecDepth 100000 in
theorem cX9_truncateTextM (l : Launch) (hfl : l.stackTraces = false) (D : va_G) (cy : Nat → ClassId) (za zv : Nat → Nat) (ad : Nat → Nat) (hh : Nat → Nat) (aa : Nat → Nat → Nat) (pa : Nat → Nat) (sz : Nat) (u : FS) (p1 : Int32) : ∀ (K : (String ⊕ Int32) × FS → Prop), Ok (fX9_truncateText p1 u) K → vx_Met l yX9_truncateText wsX9_truncateText rmX9_truncateText (va_Pc [.ref (ad 0), .int p1] (kPreZ D cy za zv sz (wF cy ad hh aa pa u))) (va_Qi (fun r q => K (.inr r, q)) (fun q => kPost D (va_A (wF cy ad hh aa pa u) sz) (wF cy ad hh aa pa q)) (va_A (wF cy ad hh aa pa u) sz)) (vx_X (fun _ : FS => True) (fun E q t => K (.inl E, q) ∧ kPost D (va_A (wF cy ad hh aa pa u) sz) (wF cy ad hh aa pa q) t) (va_A (wF cy ad hh aa pa u) sz)) 1 6 (va_A (wF cy ad hh aa pa u) sz) := by
  intro K h1
  refine vx_ofW (cc := cX9_truncateText) (maxL := 2) (ret := (some .int)) (by decide) rfl ?_
  intro p e s m args below meth c s₁ B hml hex hv
  obtain ⟨rfl, ⟨hsz, hP, hK, hD0⟩, hZ⟩ := hv
  subst hsz
  have E : mE D cy RX9 cX9_truncateText 2 (some .int) wsX9_truncateText (va_A (wF cy ad hh aa pa u) s.heap.size) p s m _ meth c := ⟨B.exec, B.bytes, B.returns, hml, findClass_of_methodNamed B.named, atoms_spec (ws := wsX9_truncateText) B.pre, B.notSynchronized, hK, fun q h => Or.inr h⟩
  have hl := lv_entry ([.ref (ad 0), .int p1]) (n := 2) (Nat.le_of_ble_eq_true rfl)
  rw [lg_entry_eq]
  generalize (lg_sl ([.ref (ad 0), .int p1]) ++ List.replicate (2 - (lg_sl ([.ref (ad 0), .int p1])).length) Slot.unset).toArray = ls at hl ⊢
  exact tX9_truncateText_b0 K E hfl hex hZ p1 u _ _ _ hl hP hD0.self va_S.rf h1
-- X9_count
theorem xaX9_count_75 : ∀ w ∈ (vx_atS RX9 75 "java/lang/IllegalArgumentException" ["java/lang/RuntimeException", "java/lang/Exception"]).filter goodWord, w ∈ wsX9_count := fun w h => List.mem_cons_of_mem _ (List.mem_append_right _ h)
theorem inX9_count_X9 : ∀ w ∈ u_ws RX9 TX9 9, w ∈ wsX9_count := k_lays 7 rfl
theorem lkX9_count_10 : Cond.fieldLink RX9 10 "FerryRamp" "now" "LFerryRamp$State;" ∈ wsX9_count := List.mem_of_getElem? (i := 5) rfl
theorem inX9_count_X8 : ∀ w ∈ u_ws RX8 TX8 13, w ∈ wsX9_count := k_lays 19 rfl
theorem lkX9_count_87 : Cond.fieldLink RX9 87 "FerryRamp$State" "counts" "[I" ∈ wsX9_count := List.mem_of_getElem? (i := 6) rfl
theorem lkX9_count_22 : Cond.fieldLink RX9 22 "FerryRamp" "history" "LFerryRamp$History;" ∈ wsX9_count := List.mem_of_getElem? (i := 3) rfl
theorem inX9_count_X4 : ∀ w ∈ u_ws RX4 TX4 3, w ∈ wsX9_count := k_lays 16 rfl
theorem wF_c27 (cy : Nat → ClassId) (ad : Nat → Nat) (hh : Nat → Nat) (aa : Nat → Nat → Nat) (pa : Nat → Nat) (u : FS) : (wF cy ad hh aa pa u)[27]? = some ((ad 5), .inr (0, [.ref (ad 6), .int (fX u), .int (fY u)])) := fl_atj (l := wFl cy ad hh aa pa u) (j := 3) (q := 0) rfl rfl rfl
theorem lkX9_count_109 : Cond.fieldLink RX9 109 "FerryRamp$History" "many" "I" ∈ wsX9_count := List.mem_of_getElem? (i := 4) rfl
abbrev rmX9_count : Room := { frames := 6, cells := 1, slots := 6, locals := 90 }
def fX9_count_b24 (u : FS) : Option ((String ⊕ Int32) × FS) :=
  some (.inl "java/lang/IllegalArgumentException", u)
set_option maxHeartbeats 4000000 in
set_option maxRecDepth 100000 in
theorem tX9_count_b24 {p : Program} {l : Launch} {e : Env} {s : State} {m : MethodId} {args : Array Value} {below : List Frame} {meth : Method} {c : Code} {D : va_G} {cy : Nat → ClassId} {A : Nat → Prop} {ad : Nat → Nat} {hh : Nat → Nat} {aa : Nat → Nat → Nat} {pa : Nat → Nat} {za zv : Nat → Nat} (K : (String ⊕ Int32) × FS → Prop) (E : mE D cy RX9 cX9_count 2 (some .int) wsX9_count A p s m args meth c) (hfl : l.stackTraces = false) (hex : ∀ x ∈ c.exceptionTable.toList, False) (hZ : mZ za zv A s s.heap)
     (u : FS) (H : Heap) (locs : List Loc) (ls : Array Slot) (hl : lv_has ls 2 []) (hP : va_P D vwCl (wF cy ad hh aa pa u) H) (hD : va_D A (wF cy ad hh aa pa u)) (hS : va_S A s.heap H locs) (h1 : Ok (fX9_count_b24 u) K) :
    kWx p l e rmX9_count s m args below meth c H locs (va_Qi (fun r q => K (.inr r, q)) (fun q => kPost D A (wF cy ad hh aa pa q)) A) (vx_X (fun _ : FS => True) (fun E q t => K (.inl E, q) ∧ kPost D A (wF cy ad hh aa pa q) t) A) A 24 ls [] := by
  obtain ⟨hx, hb, hr, hml, hown, hts, hlocks, hK, hA⟩ := id E
  unfold fX9_count_b24 at h1
  exact kx_throw (names := ["java/lang/RuntimeException", "java/lang/Exception"]) (text := "what") (sa := za 2) hx hb hfl hml hown (by decide) (by decide) (hts _ (List.mem_of_getElem? (i := 1) rfl)) (hts _ (List.mem_of_getElem? (i := 2) rfl)) (k_site hZ 2 (by decide)) (vx_hat (fun w h => hts w (xaX9_count_75 w h)) xbRX9_75 (hZ.cast (by decide))) xgRX9_72_75 hZ hK hP hD hS hl.1 dX9_count_24 dX9_count_27 dX9_count_28 dX9_count_30 dX9_count_33 hex hlocks h1 (Nat.le_of_ble_eq_true rfl) (Nat.le_of_ble_eq_true rfl) (Nat.le_of_ble_eq_true rfl) (Nat.le_of_ble_eq_true rfl)
def fX9_count_b0 (x1 : Int32) (u : FS) : Option ((String ⊕ Int32) × FS) :=
  (if x1 = 17 then some (.inr (fY u), u) else (if x1 < 0 then fX9_count_b24 u else (if x1 ≤ 17 then grd (inb x1 17) (some (.inr (sC (fN u) (ix x1)), u)) else fX9_count_b24 u)))
set_option maxHeartbeats 4000000 in
set_option maxRecDepth 100000 in
theorem tX9_count_b0 {p : Program} {l : Launch} {e : Env} {s : State} {m : MethodId} {args : Array Value} {below : List Frame} {meth : Method} {c : Code} {D : va_G} {cy : Nat → ClassId} {A : Nat → Prop} {ad : Nat → Nat} {hh : Nat → Nat} {aa : Nat → Nat → Nat} {pa : Nat → Nat} {za zv : Nat → Nat} (K : (String ⊕ Int32) × FS → Prop) (E : mE D cy RX9 cX9_count 2 (some .int) wsX9_count A p s m args meth c) (hfl : l.stackTraces = false) (hex : ∀ x ∈ c.exceptionTable.toList, False) (hZ : mZ za zv A s s.heap)
     (x1 : Int32) (u : FS) (H : Heap) (locs : List Loc) (ls : Array Slot) (hl : lv_has ls 2 [(0, .ref (ad 0)), (1, .int x1)]) (hP : va_P D vwCl (wF cy ad hh aa pa u) H) (hD : va_D A (wF cy ad hh aa pa u)) (hS : va_S A s.heap H locs) (h1 : Ok (fX9_count_b0 x1 u) K) :
    kWx p l e rmX9_count s m args below meth c H locs (va_Qi (fun r q => K (.inr r, q)) (fun q => kPost D A (wF cy ad hh aa pa q)) A) (vx_X (fun _ : FS => True) (fun E q t => K (.inl E, q) ∧ kPost D A (wF cy ad hh aa pa q) t) A) A 0 ls [] := by
  obtain ⟨hx, hb, hr, hml, hown, hts, hlocks, hK, hA⟩ := id E
  unfold fX9_count_b0 at h1
  refine lv_iload_n hx hb dX9_count_0 rfl (lv_at hl 1 rfl) ?_
  refine lv_bipush (v := 17) hx hb dX9_count_1 rfl ?_
  refine lv_icmp_ne (tgt := 14) hx hb dX9_count_3 (by decide) (fun c3 => ?_) (fun c3 => ?_)
  · replace h1 := Ok.neg c3 h1
    refine lv_iload_n hx hb dX9_count_14 rfl (lv_at hl 1 rfl) ?_
    refine lv_if_lt (tgt := 24) hx hb dX9_count_15 (by decide) (fun c15 => ?_) (fun c15 => ?_)
    · replace h1 := Ok.pos c15 h1
      exact tX9_count_b24 K E hfl hex hZ u H locs ls (lv_sub hl [] rfl) hP hD hS h1
    · replace h1 := Ok.neg c15 h1
      refine lv_iload_n hx hb dX9_count_18 rfl (lv_at hl 1 rfl) ?_
      refine lv_bipush (v := 17) hx hb dX9_count_19 rfl ?_
      refine lv_icmp_le (tgt := 34) hx hb dX9_count_21 (by decide) (fun c21 => ?_) (fun c21 => ?_)
      · replace h1 := Ok.pos c21 h1
        refine lv_aload_n hx hb dX9_count_34 rfl (lv_at hl 0 rfl) ?_
        refine k_get (v := .ref (hh 0)) (C := RX9) (T := TX9) (N := 9) hx hb hts inX9_count_X9 hown hK hP 0 (wF_c0 _ _ _ _ _ _) rfl 0 (by decide) lkX9_count_10 (fFs_0 _ _ _ _) dX9_count_35 ?_
        refine k_get (v := .ref ((aa 0) 0)) (C := RX8) (T := TX8) (N := 13) hx hb hts inX9_count_X8 hown hK hP 5 (wF_c5 _ _ _ _ _ _) rfl 0 (by decide) lkX9_count_87 (sFs_0 _ _) dX9_count_38 ?_
        refine lv_iload_n hx hb dX9_count_41 rfl (lv_at hl 1 rfl) ?_
        have g42 := h1.grd1
        replace h1 := h1.grd2
        refine k_iald (k := (ix x1)) hx hb hK hP 6 (wF_c6 _ _ _ _ _ _) g42 rfl dX9_count_42 ?_
        exact kret_x hx hb hr hlocks hP hD hS h1 dX9_count_43
      · replace h1 := Ok.neg c21 h1
        exact tX9_count_b24 K E hfl hex hZ u H locs ls (lv_sub hl [] rfl) hP hD hS h1
  · replace h1 := Ok.pos c3 h1
    refine lv_aload_n hx hb dX9_count_6 rfl (lv_at hl 0 rfl) ?_
    refine k_get (v := .ref (ad 5)) (C := RX9) (T := TX9) (N := 9) hx hb hts inX9_count_X9 hown hK hP 0 (wF_c0 _ _ _ _ _ _) rfl 2 (by decide) lkX9_count_22 (fFs_2 _ _ _ _) dX9_count_7 ?_
    refine k_get (v := .int (fY u)) (C := RX4) (T := TX4) (N := 3) hx hb hts inX9_count_X4 hown hK hP 27 (wF_c27 _ _ _ _ _ _) rfl 2 (by decide) lkX9_count_109 rfl dX9_count_10 ?_
    exact kret_x hx hb hr hlocks hP hD hS h1 dX9_count_13
def fX9_count (p1 : Int32) (u : FS) : Option ((String ⊕ Int32) × FS) := fX9_count_b0 p1 u
set_option maxHeartbeats 4000000 in
set_option maxRecDepth 100000 in
theorem cX9_countM (l : Launch) (hfl : l.stackTraces = false) (D : va_G) (cy : Nat → ClassId) (za zv : Nat → Nat) (ad : Nat → Nat) (hh : Nat → Nat) (aa : Nat → Nat → Nat) (pa : Nat → Nat) (sz : Nat) (u : FS) (p1 : Int32) : ∀ (K : (String ⊕ Int32) × FS → Prop), Ok (fX9_count p1 u) K → vx_Met l yX9_count wsX9_count rmX9_count (va_Pc [.ref (ad 0), .int p1] (kPreZ D cy za zv sz (wF cy ad hh aa pa u))) (va_Qi (fun r q => K (.inr r, q)) (fun q => kPost D (va_A (wF cy ad hh aa pa u) sz) (wF cy ad hh aa pa q)) (va_A (wF cy ad hh aa pa u) sz)) (vx_X (fun _ : FS => True) (fun E q t => K (.inl E, q) ∧ kPost D (va_A (wF cy ad hh aa pa u) sz) (wF cy ad hh aa pa q) t) (va_A (wF cy ad hh aa pa u) sz)) 1 6 (va_A (wF cy ad hh aa pa u) sz) := by
  intro K h1
  refine vx_ofW (cc := cX9_count) (maxL := 2) (ret := (some .int)) (by decide) rfl ?_
  intro p e s m args below meth c s₁ B hml hex hv
  obtain ⟨rfl, ⟨hsz, hP, hK, hD0⟩, hZ⟩ := hv
  subst hsz
  have E : mE D cy RX9 cX9_count 2 (some .int) wsX9_count (va_A (wF cy ad hh aa pa u) s.heap.size) p s m _ meth c := ⟨B.exec, B.bytes, B.returns, hml, findClass_of_methodNamed B.named, atoms_spec (ws := wsX9_count) B.pre, B.notSynchronized, hK, fun q h => Or.inr h⟩
  have hl := lv_entry ([.ref (ad 0), .int p1]) (n := 2) (Nat.le_of_ble_eq_true rfl)
  rw [lg_entry_eq]
  generalize (lg_sl ([.ref (ad 0), .int p1]) ++ List.replicate (2 - (lg_sl ([.ref (ad 0), .int p1])).length) Slot.unset).toArray = ls at hl ⊢
  exact tX9_count_b0 K E hfl hex hZ p1 u _ _ _ hl hP hD0.self va_S.rf h1
