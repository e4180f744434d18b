-- X9_appendText
theorem inX9_appendText_X9 : ∀ w ∈ u_ws RX9 TX9 9, w ∈ wsX9_appendText := k_lays 12 rfl
theorem lkX9_appendText_37 : Cond.fieldLink RX9 37 "FerryRamp" "parser" "LFerryRamp$Parser;" ∈ wsX9_appendText := List.mem_of_getElem? (i := 3) rfl
theorem inX9_appendText_X6 : ∀ w ∈ u_ws RX6 TX6 11, w ∈ wsX9_appendText := k_lays 21 rfl
theorem lkX9_appendText_58 : Cond.fieldLink RX9 58 "FerryRamp$Parser" "length" "I" ∈ wsX9_appendText := List.mem_of_getElem? (i := 4) rfl
theorem hdX6_addByte : yX6_addByte.cls = RX6 ∧ yX6_addByte.cls ≠ "java/lang/invoke/MethodHandle" ∧ yX6_addByte.cls ≠ "java/lang/invoke/VarHandle" ∧ (parseMethodDescriptor yX6_addByte.desc).map (fun d => d.parameters.length) = some 1 := by decide +kernel
def wF_r12 (cy : Nat → ClassId) (ad : Nat → Nat) (hh : Nat → Nat) (aa : Nat → Nat → Nat) (pa : Nat → Nat) (u : FS) : va_W := (([0, 1, 2, 3, 4, 5, 6, 7, 8, 9, 10, 11, 13, 14] : List Nat).filterMap (fun i => (wFl cy ad hh aa pa u)[i]?)).flatten
theorem wF_sel12 (cy : Nat → ClassId) (ad : Nat → Nat) (hh : Nat → Nat) (aa : Nat → Nat → Nat) (pa : Nat → Nat) (u : FS) : (wF cy ad hh aa pa u).Perm (wP cy pa (fP u) ++ wF_r12 cy ad hh aa pa u) := k_sel1 (l := wFl cy ad hh aa pa u) (n := 15) 12 [0, 1, 2, 3, 4, 5, 6, 7, 8, 9, 10, 11, 13, 14] rfl rfl (by decide)
theorem wF_uns12_0 (cy : Nat → ClassId) (ad : Nat → Nat) (hh : Nat → Nat) (aa : Nat → Nat → Nat) (pa : Nat → Nat) (u : FS) (x : PS) : (wF cy ad hh aa pa (gP u x)).Perm (wP cy pa x ++ wF_r12 cy ad hh aa pa u) := k_sel1 (l := wFl cy ad hh aa pa (gP u x)) (n := 15) 12 [0, 1, 2, 3, 4, 5, 6, 7, 8, 9, 10, 11, 13, 14] rfl rfl (by decide)
theorem xaX9_appendText_65 : ∀ w ∈ (vx_atS RX9 65 "java/lang/IllegalStateException" ["java/lang/RuntimeException", "java/lang/Exception"]).filter goodWord, w ∈ wsX9_appendText := fun w h => List.mem_cons_of_mem _ (List.mem_append_right _ h)
theorem xbRX9_65 : ∀ w ∈ (vx_atS RX9 65 "java/lang/IllegalStateException" ["java/lang/RuntimeException", "java/lang/Exception"]).filter (fun w => !goodWord w), w ∈ xCast "java/lang/IllegalStateException" := by decide +kernel
theorem xgRX9_61_65 : ∀ w ∈ Cond.classLink RX9 61 "java/lang/IllegalStateException" :: Cond.initialized "java/lang/IllegalStateException" :: vx_atS RX9 65 "java/lang/IllegalStateException" ["java/lang/RuntimeException", "java/lang/Exception"], vx_ot w = true := by decide +kernel
abbrev rmX9_appendText : Room := { frames := 6, cells := 1, slots := 6, locals := 90 }
def fX9_appendText_b28 (k28 : Int32 × Int32 × FS → Option ((String ⊕ Int32) × FS)) (x1 : Int32) (x2 : Int32) (u : FS) : Option ((String ⊕ Int32) × FS) :=
  (if x2 < 0 then some (.inr (pLe (fP u)), u) else bnd (fX6_addByte (((x1.toUInt32 >>> (x2.toUInt32 &&& Int32.toUInt32 31)).toInt32) &&& 255) (fP u)) (fun u43 => k28 (x1, x2 + (-8), gP u u43)))
set_option maxHeartbeats 4000000 in
set_option maxRecDepth 100000 in
theorem tX9_appendText_b28 {p : Program} {l : Launch} {e : Env} {s : State} {m : MethodId} {args : Array Value} {below : List Frame} {meth : Method} {c : Code} {D : va_G} {cy : Nat → ClassId} {A : Nat → Prop} {ad : Nat → Nat} {hh : Nat → Nat} {aa : Nat → Nat → Nat} {pa : Nat → Nat} {za zv : Nat → Nat} (K : (String ⊕ Int32) × FS → Prop) (E : mE D cy RX9 cX9_appendText 3 (some .int) wsX9_appendText A p s m args meth c) (hfl : l.stackTraces = false) (hex : ∀ x ∈ c.exceptionTable.toList, False) (hZ : mZ za zv A s s.heap)
    (k28 : Int32 × Int32 × FS → Option ((String ⊕ Int32) × FS)) (hk28 : ∀ (x1 : Int32) (x2 : Int32) (u : FS) (H : Heap) (locs : List Loc) (ls : Array Slot), lv_has ls 3 [(0, .ref (ad 0)), (1, .int x1), (2, .int x2)] → va_P D kCl (wF cy ad hh aa pa u) H → va_D A (wF cy ad hh aa pa u) → va_S A s.heap H locs → Ok (k28 (x1, x2, u)) K → kWx p l e rmX9_appendText s m args below meth c H locs (va_Qi (fun r q => K (.inr r, q)) (fun q => kPost D A (wF cy ad hh aa pa q)) A) (vx_X (fun _ : FS => True) (fun E q t => K (.inl E, q) ∧ kPost D A (wF cy ad hh aa pa q) t) A) A 28 ls [])
     (x1 : Int32) (x2 : Int32) (u : FS) (H : Heap) (locs : List Loc) (ls : Array Slot) (hl : lv_has ls 3 [(0, .ref (ad 0)), (1, .int x1), (2, .int x2)]) (hP : va_P D kCl (wF cy ad hh aa pa u) H) (hD : va_D A (wF cy ad hh aa pa u)) (hS : va_S A s.heap H locs) (h1 : Ok (fX9_appendText_b28 k28 x1 x2 u) K) :
    kWx p l e rmX9_appendText s m args below meth c H locs (va_Qi (fun r q => K (.inr r, q)) (fun q => kPost D A (wF cy ad hh aa pa q)) A) (vx_X (fun _ : FS => True) (fun E q t => K (.inl E, q) ∧ kPost D A (wF cy ad hh aa pa q) t) A) A 28 ls [] := by
  obtain ⟨hx, hb, hr, hml, hown, hts, hlocks, hK, hA⟩ := id E
  unfold fX9_appendText_b28 at h1
  refine lv_iload_n hx hb dX9_appendText_28 rfl (lv_at hl 2 rfl) ?_
  refine lv_if_lt (tgt := 52) hx hb dX9_appendText_29 (by decide) (fun c29 => ?_) (fun c29 => ?_)
  · replace h1 := Ok.pos c29 h1
    refine lv_aload_n hx hb dX9_appendText_52 rfl (lv_at hl 0 rfl) ?_
    refine k_get (v := .ref (pa 0)) (C := RX9) (T := TX9) (N := 9) hx hb hts inX9_appendText_X9 hown hK hP 0 (wF_c0 _ _ _ _ _ _) rfl 5 (by decide) lkX9_appendText_37 (fFs_5 _ _ _ _) dX9_appendText_53 ?_
    refine k_get (v := .int (pLe (fP u))) (C := RX6) (T := TX6) (N := 11) hx hb hts inX9_appendText_X6 hown hK hP 117 (wF_c117 _ _ _ _ _ _) rfl 1 (by decide) lkX9_appendText_58 (pFs_1 _ _) dX9_appendText_56 ?_
    exact kret_x hx hb hr hlocks hP hD hS h1 dX9_appendText_59
  · replace h1 := Ok.neg c29 h1
    refine lv_aload_n hx hb dX9_appendText_32 rfl (lv_at hl 0 rfl) ?_
    refine k_get (v := .ref (pa 0)) (C := RX9) (T := TX9) (N := 9) hx hb hts inX9_appendText_X9 hown hK hP 0 (wF_c0 _ _ _ _ _ _) rfl 5 (by decide) lkX9_appendText_37 (fFs_5 _ _ _ _) dX9_appendText_33 ?_
    refine lv_iload_n hx hb dX9_appendText_36 rfl (lv_at hl 1 rfl) ?_
    refine lv_iload_n hx hb dX9_appendText_37 rfl (lv_at hl 2 rfl) ?_
    refine lv_iushr hx hb dX9_appendText_38 rfl ?_
    refine lv_sipush (v := 255) hx hb dX9_appendText_39 rfl ?_
    refine lv_iand hx hb dX9_appendText_42 ?_
    refine kc_vV (b := (pa 0)) (As := [.int (((x1.toUInt32 >>> (x2.toUInt32 &&& Int32.toUInt32 31)).toInt32) &&& 255)]) (rest := []) h1 ⟨hx, hb, hml, hown, hts⟩ (cX6_addByteM l D cy pa H.size (fP u) (((x1.toUInt32 >>> (x2.toUInt32 &&& Int32.toUInt32 31)).toInt32) &&& 255)) (cwV 1 hts gX9_appendText_X6_addByte rfl rfl rfl hdX6_addByte ⟨Nat.le_of_ble_eq_true rfl, Nat.le_of_ble_eq_true rfl⟩) hK (wF_sel12 _ _ _ _ _ _) hP hD hS hA (q0 := 0) rfl rfl rfl hl.1 rfl (Nat.le_of_ble_eq_true rfl) dX9_appendText_43 ⟨Nat.zero_le _, Nat.zero_le _⟩ (fun u43 H locs h1 hP hD hS => ?_)
    replace hP := kP_perm (wF_uns12_0 cy ad hh aa pa u u43).symm hP
    replace hD := kD_perm (wF_uns12_0 cy ad hh aa pa u u43).symm hD
    refine lv_iinc (v := x2 + (-8)) (lv' := [(2, .int (x2 + (-8))), (0, .ref (ad 0)), (1, .int x1)]) hx hb dX9_appendText_46 hl (k := 2) rfl rfl (by decide) rfl (fun ls hl => ?_)
    refine lv_goto (tgt := 28) hx hb dX9_appendText_49 (by decide) ?_
    exact hk28 x1 (x2 + (-8)) (gP u u43) H locs ls (lv_sub hl [1, 2, 0] rfl) hP hD hS h1
theorem tX9_appendText_l28 {p : Program} {l : Launch} {e : Env} {s : State} {m : MethodId} {args : Array Value} {below : List Frame} {meth : Method} {c : Code} {D : va_G} {cy : Nat → ClassId} {A : Nat → Prop} {ad : Nat → Nat} {hh : Nat → Nat} {aa : Nat → Nat → Nat} {pa : Nat → Nat} {za zv : Nat → Nat} (K : (String ⊕ Int32) × FS → Prop) (E : mE D cy RX9 cX9_appendText 3 (some .int) wsX9_appendText A p s m args meth c) (hfl : l.stackTraces = false) (hex : ∀ x ∈ c.exceptionTable.toList, False) (hZ : mZ za zv A s s.heap) : ∀ (n9 : Nat) (x1 : Int32) (x2 : Int32) (u : FS) (H : Heap) (locs : List Loc) (ls : Array Slot), lv_has ls 3 [(0, .ref (ad 0)), (1, .int x1), (2, .int x2)] → va_P D kCl (wF cy ad hh aa pa u) H → va_D A (wF cy ad hh aa pa u) → va_S A s.heap H locs → Ok (lop (fun y z => fX9_appendText_b28 y z.1 z.2.1 z.2.2) n9 (x1, x2, u)) K → kWx p l e rmX9_appendText s m args below meth c H locs (va_Qi (fun r q => K (.inr r, q)) (fun q => kPost D A (wF cy ad hh aa pa q)) A) (vx_X (fun _ : FS => True) (fun E q t => K (.inl E, q) ∧ kPost D A (wF cy ad hh aa pa q) t) A) A 28 ls [] := by
  intro n9
  induction n9 with
  | zero =>
    intro x1 x2 u H locs ls hl hP hD hS h1
    exact h1.no
  | succ n9 ih =>
    intro x1 x2 u H locs ls hl hP hD hS h1
    exact tX9_appendText_b28 K E hfl hex hZ (lop (fun y z => fX9_appendText_b28 y z.1 z.2.1 z.2.2) n9) (fun x1 x2 u H locs ls hl hP hD hS h1 => ih x1 x2 u H locs ls hl hP hD hS h1) x1 x2 u H locs ls hl hP hD hS h1
def fX9_appendText_b0 (x1 : Int32) (u : FS) : Option ((String ⊕ Int32) × FS) :=
  (if ((pLe (fP u)) + 4) ≤ 500 then lop (fun y z => fX9_appendText_b28 y z.1 z.2.1 z.2.2) LF (x1, 24, u) else some (.inl "java/lang/IllegalStateException", u))
set_option maxHeartbeats 4000000 in
set_option maxRecDepth 100000 in
theorem tX9_appendText_b0 {p : Program} {l : Launch} {e : Env} {s : State} {m : MethodId} {args : Array Value} {below : List Frame} {meth : Method} {c : Code} {D : va_G} {cy : Nat → ClassId} {A : Nat → Prop} {ad : Nat → Nat} {hh : Nat → Nat} {aa : Nat → Nat → Nat} {pa : Nat → Nat} {za zv : Nat → Nat} (K : (String ⊕ Int32) × FS → Prop) (E : mE D cy RX9 cX9_appendText 3 (some .int) wsX9_appendText A p s m args meth c) (hfl : l.stackTraces = false) (hex : ∀ x ∈ c.exceptionTable.toList, False) (hZ : mZ za zv A s s.heap)
     (x1 : Int32) (u : FS) (H : Heap) (locs : List Loc) (ls : Array Slot) (hl : lv_has ls 3 [(0, .ref (ad 0)), (1, .int x1)]) (hP : va_P D kCl (wF cy ad hh aa pa u) H) (hD : va_D A (wF cy ad hh aa pa u)) (hS : va_S A s.heap H locs) (h1 : Ok (fX9_appendText_b0 x1 u) K) :
    kWx p l e rmX9_appendText s m args below meth c H locs (va_Qi (fun r q => K (.inr r, q)) (fun q => kPost D A (wF cy ad hh aa pa q)) A) (vx_X (fun _ : FS => True) (fun E q t => K (.inl E, q) ∧ kPost D A (wF cy ad hh aa pa q) t) A) A 0 ls [] := by
  obtain ⟨hx, hb, hr, hml, hown, hts, hlocks, hK, hA⟩ := id E
  unfold fX9_appendText_b0 at h1
  refine lv_aload_n hx hb dX9_appendText_0 rfl (lv_at hl 0 rfl) ?_
  refine k_get (v := .ref (pa 0)) (C := RX9) (T := TX9) (N := 9) hx hb hts inX9_appendText_X9 hown hK hP 0 (wF_c0 _ _ _ _ _ _) rfl 5 (by decide) lkX9_appendText_37 (fFs_5 _ _ _ _) dX9_appendText_1 ?_
  refine k_get (v := .int (pLe (fP u))) (C := RX6) (T := TX6) (N := 11) hx hb hts inX9_appendText_X6 hown hK hP 117 (wF_c117 _ _ _ _ _ _) rfl 1 (by decide) lkX9_appendText_58 (pFs_1 _ _) dX9_appendText_4 ?_
  refine lv_iconst (v := 4) hx hb dX9_appendText_7 rfl ?_
  refine lv_iadd hx hb dX9_appendText_8 ?_
  refine lv_sipush (v := 500) hx hb dX9_appendText_9 rfl ?_
  refine lv_icmp_le (tgt := 25) hx hb dX9_appendText_12 (by decide) (fun c12 => ?_) (fun c12 => ?_)
  · replace h1 := Ok.pos c12 h1
    refine lv_bipush (v := 24) hx hb dX9_appendText_25 rfl ?_
    refine lv_istore_n (lv' := [(2, .int 24), (0, .ref (ad 0)), (1, .int x1)]) hx hb dX9_appendText_27 rfl hl (by decide) rfl (fun ls hl => ?_)
    exact tX9_appendText_l28 K E hfl hex hZ LF x1 24 u H locs ls (lv_sub hl [1, 2, 0] rfl) hP hD hS h1
  · replace h1 := Ok.neg c12 h1
    exact kx_throw (names := ["java/lang/RuntimeException", "java/lang/Exception"]) (text := "the text would be too long") (sa := za 0) hx hb hfl hml hown (by decide) (by decide) (hts _ (List.mem_of_getElem? (i := 1) rfl)) (hts _ (List.mem_of_getElem? (i := 2) rfl)) (k_site hZ 0 (by decide)) (vx_hat (fun w h => hts w (xaX9_appendText_65 w h)) xbRX9_65 (hZ.cast (by decide))) xgRX9_61_65 hZ hK hP hD hS hl.1 dX9_appendText_15 dX9_appendText_18 dX9_appendText_19 dX9_appendText_21 dX9_appendText_24 hex hlocks h1 (Nat.le_of_ble_eq_true rfl) (Nat.le_of_ble_eq_true rfl) (Nat.le_of_ble_eq_true rfl) (Nat.le_of_ble_eq_true rfl)
def fX9_appendText (p1 : Int32) (u : FS) : Option ((String ⊕ Int32) × FS) := fX9_appendText_b0 p1 u
set_option maxHeartbeats 4000000 in
set_option maxRecDepth 100000 in
theorem cX9_appendTextM (l : Launch) (hfl : l.stackTraces = false) (D : va_G) (cy : Nat → ClassId) (za zv : Nat → Nat) (ad : Nat → Nat) (hh : Nat → Nat) (aa : Nat → Nat → Nat) (pa : Nat → Nat) (sz : Nat) (u : FS) (p1 : Int32) : ∀ (K : (String ⊕ Int32) × FS → Prop), Ok (fX9_appendText p1 u) K → vx_Met l yX9_appendText wsX9_appendText rmX9_appendText (va_Pc [.ref (ad 0), .int p1] (kPreZ D cy za zv sz (wF cy ad hh aa pa u))) (va_Qi (fun r q => K (.inr r, q)) (fun q => kPost D (va_A (wF cy ad hh aa pa u) sz) (wF cy ad hh aa pa q)) (va_A (wF cy ad hh aa pa u) sz)) (vx_X (fun _ : FS => True) (fun E q t => K (.inl E, q) ∧ kPost D (va_A (wF cy ad hh aa pa u) sz) (wF cy ad hh aa pa q) t) (va_A (wF cy ad hh aa pa u) sz)) 1 6 (va_A (wF cy ad hh aa pa u) sz) := by
  intro K h1
  refine vx_ofW (cc := cX9_appendText) (maxL := 3) (ret := (some .int)) (by decide) rfl ?_
  intro p e s m args below meth c s₁ B hml hex hv
  obtain ⟨rfl, ⟨hsz, hP, hK, hD0⟩, hZ⟩ := hv
  subst hsz
  have E : mE D cy RX9 cX9_appendText 3 (some .int) wsX9_appendText (va_A (wF cy ad hh aa pa u) s.heap.size) p s m _ meth c := ⟨B.exec, B.bytes, B.returns, hml, findClass_of_methodNamed B.named, atoms_spec (ws := wsX9_appendText) B.pre, B.notSynchronized, hK, fun q h => Or.inr h⟩
  have hl := lv_entry ([.ref (ad 0), .int p1]) (n := 3) (Nat.le_of_ble_eq_true rfl)
  rw [lg_entry_eq]
  generalize (lg_sl ([.ref (ad 0), .int p1]) ++ List.replicate (3 - (lg_sl ([.ref (ad 0), .int p1])).length) Slot.unset).toArray = ls at hl ⊢
  exact tX9_appendText_b0 K E hfl hex hZ p1 u _ _ _ hl hP hD0.self va_S.rf h1
-- X9_truncateText
theorem xaX9_truncateText_75 : ∀ w ∈ (vx_atS RX9 75 "java/lang/IllegalArgumentException" ["java/lang/RuntimeException", "java/lang/Exception"]).filter goodWord, w ∈ wsX9_truncateText := fun w h => List.mem_cons_of_mem _ (List.mem_append_right _ h)
theorem xbRX9_75 : ∀ w ∈ (vx_atS RX9 75 "java/lang/IllegalArgumentException" ["java/lang/RuntimeException", "java/lang/Exception"]).filter (fun w => !goodWord w), w ∈ xCast "java/lang/IllegalArgumentException" := by decide +kernel
theorem xgRX9_72_75 : ∀ w ∈ Cond.classLink RX9 72 "java/lang/IllegalArgumentException" :: Cond.initialized "java/lang/IllegalArgumentException" :: vx_atS RX9 75 "java/lang/IllegalArgumentException" ["java/lang/RuntimeException", "java/lang/Exception"], vx_ot w = true := by decide +kernel
theorem inX9_truncateText_X9 : ∀ w ∈ u_ws RX9 TX9 9, w ∈ wsX9_truncateText := k_lays 5 rfl
theorem lkX9_truncateText_37 : Cond.fieldLink RX9 37 "FerryRamp" "parser" "LFerryRamp$Parser;" ∈ wsX9_truncateText := List.mem_of_getElem? (i := 3) rfl
theorem inX9_truncateText_X6 : ∀ w ∈ u_ws RX6 TX6 11, w ∈ wsX9_truncateText := k_lays 14 rfl
theorem lkX9_truncateText_58 : Cond.fieldLink RX9 58 "FerryRamp$Parser" "length" "I" ∈ wsX9_truncateText := List.mem_of_getElem? (i := 4) rfl
abbrev rmX9_truncateText : Room := { frames := 6, cells := 1, slots := 6, locals := 90 }
def fX9_truncateText_b15 (u : FS) : Option ((String ⊕ Int32) × FS) :=
  some (.inl "java/lang/IllegalArgumentException", u)
set_option maxHeartbeats 4000000 in
set_option maxRecDepth 100000 in
theorem tX9_truncateText_b15 {p : Program} {l : Launch} {e : Env} {s : State} {m : MethodId} {args : Array Value} {below : List Frame} {meth : Method} {c : Code} {D : va_G} {cy : Nat → ClassId} {A : Nat → Prop} {ad : Nat → Nat} {hh : Nat → Nat} {aa : Nat → Nat → Nat} {pa : Nat → Nat} {za zv : Nat → Nat} (K : (String ⊕ Int32) × FS → Prop) (E : mE D cy RX9 cX9_truncateText 2 (some .int) wsX9_truncateText A p s m args meth c) (hfl : l.stackTraces = false) (hex : ∀ x ∈ c.exceptionTable.toList, False) (hZ : mZ za zv A s s.heap)
     (u : FS) (H : Heap) (locs : List Loc) (ls : Array Slot) (hl : lv_has ls 2 []) (hP : va_P D kCl (wF cy ad hh aa pa u) H) (hD : va_D A (wF cy ad hh aa pa u)) (hS : va_S A s.heap H locs) (h1 : Ok (fX9_truncateText_b15 u) K) :
    kWx p l e rmX9_truncateText s m args below meth c H locs (va_Qi (fun r q => K (.inr r, q)) (fun q => kPost D A (wF cy ad hh aa pa q)) A) (vx_X (fun _ : FS => True) (fun E q t => K (.inl E, q) ∧ kPost D A (wF cy ad hh aa pa q) t) A) A 15 ls [] := by
  obtain ⟨hx, hb, hr, hml, hown, hts, hlocks, hK, hA⟩ := id E
  unfold fX9_truncateText_b15 at h1
  exact kx_throw (names := ["java/lang/RuntimeException", "java/lang/Exception"]) (text := "length") (sa := za 1) hx hb hfl hml hown (by decide) (by decide) (hts _ (List.mem_of_getElem? (i := 1) rfl)) (hts _ (List.mem_of_getElem? (i := 2) rfl)) (k_site hZ 1 (by decide)) (vx_hat (fun w h => hts w (xaX9_truncateText_75 w h)) xbRX9_75 (hZ.cast (by decide))) xgRX9_72_75 hZ hK hP hD hS hl.1 dX9_truncateText_15 dX9_truncateText_18 dX9_truncateText_19 dX9_truncateText_21 dX9_truncateText_24 hex hlocks h1 (Nat.le_of_ble_eq_true rfl) (Nat.le_of_ble_eq_true rfl) (Nat.le_of_ble_eq_true rfl) (Nat.le_of_ble_eq_true rfl)
def fX9_truncateText_b0 (x1 : Int32) (u : FS) : Option ((String ⊕ Int32) × FS) :=
  (if x1 < 0 then fX9_truncateText_b15 u else (if x1 ≤ (pLe (fP u)) then some (.inr x1, gP u (tLe (fP u) x1)) else fX9_truncateText_b15 u))
set_option maxHeartbeats 4000000 in
set_option maxRecDepth 100000 in
theorem tX9_truncateText_b0 {p : Program} {l : Launch} {e : Env} {s : State} {m : MethodId} {args : Array Value} {below : List Frame} {meth : Method} {c : Code} {D : va_G} {cy : Nat → ClassId} {A : Nat → Prop} {ad : Nat → Nat} {hh : Nat → Nat} {aa : Nat → Nat → Nat} {pa : Nat → Nat} {za zv : Nat → Nat} (K : (String ⊕ Int32) × FS → Prop) (E : mE D cy RX9 cX9_truncateText 2 (some .int) wsX9_truncateText A p s m args meth c) (hfl : l.stackTraces = false) (hex : ∀ x ∈ c.exceptionTable.toList, False) (hZ : mZ za zv A s s.heap)
     (x1 : Int32) (u : FS) (H : Heap) (locs : List Loc) (ls : Array Slot) (hl : lv_has ls 2 [(0, .ref (ad 0)), (1, .int x1)]) (hP : va_P D kCl (wF cy ad hh aa pa u) H) (hD : va_D A (wF cy ad hh aa pa u)) (hS : va_S A s.heap H locs) (h1 : Ok (fX9_truncateText_b0 x1 u) K) :
    kWx p l e rmX9_truncateText s m args below meth c H locs (va_Qi (fun r q => K (.inr r, q)) (fun q => kPost D A (wF cy ad hh aa pa q)) A) (vx_X (fun _ : FS => True) (fun E q t => K (.inl E, q) ∧ kPost D A (wF cy ad hh aa pa q) t) A) A 0 ls [] := by
  obtain ⟨hx, hb, hr, hml, hown, hts, hlocks, hK, hA⟩ := id E
  unfold fX9_truncateText_b0 at h1
  refine lv_iload_n hx hb dX9_truncateText_0 rfl (lv_at hl 1 rfl) ?_
  refine lv_if_lt (tgt := 15) hx hb dX9_truncateText_1 (by decide) (fun c1 => ?_) (fun c1 => ?_)
  · replace h1 := Ok.pos c1 h1
    exact tX9_truncateText_b15 K E hfl hex hZ u H locs ls (lv_sub hl [] rfl) hP hD hS h1
  · replace h1 := Ok.neg c1 h1
    refine lv_iload_n hx hb dX9_truncateText_4 rfl (lv_at hl 1 rfl) ?_
    refine lv_aload_n hx hb dX9_truncateText_5 rfl (lv_at hl 0 rfl) ?_
    refine k_get (v := .ref (pa 0)) (C := RX9) (T := TX9) (N := 9) hx hb hts inX9_truncateText_X9 hown hK hP 0 (wF_c0 _ _ _ _ _ _) rfl 5 (by decide) lkX9_truncateText_37 (fFs_5 _ _ _ _) dX9_truncateText_6 ?_
    refine k_get (v := .int (pLe (fP u))) (C := RX6) (T := TX6) (N := 11) hx hb hts inX9_truncateText_X6 hown hK hP 117 (wF_c117 _ _ _ _ _ _) rfl 1 (by decide) lkX9_truncateText_58 (pFs_1 _ _) dX9_truncateText_9 ?_
    refine lv_icmp_le (tgt := 25) hx hb dX9_truncateText_12 (by decide) (fun c12 => ?_) (fun c12 => ?_)
    · replace h1 := Ok.pos c12 h1
      refine lv_aload_n hx hb dX9_truncateText_25 rfl (lv_at hl 0 rfl) ?_
      refine k_get (v := .ref (pa 0)) (C := RX9) (T := TX9) (N := 9) hx hb hts inX9_truncateText_X9 hown hK hP 0 (wF_c0 _ _ _ _ _ _) rfl 5 (by decide) lkX9_truncateText_37 (fFs_5 _ _ _ _) dX9_truncateText_26 ?_
      refine lv_iload_n hx hb dX9_truncateText_29 rfl (lv_at hl 1 rfl) ?_
      refine k_put (v := .int x1) (ty := .int) (C := RX6) (T := TX6) (N := 11) hx hb hts inX9_truncateText_X6 tyX6 tyX6_ok nmX6 hown hK hP hD hS 117 (wF_c117 _ _ _ _ _ _) rfl 1 (by decide) lkX9_truncateText_58 rfl (by decide +kernel) rfl rfl (Nat.le_of_ble_eq_true rfl) (ws' := wF cy ad hh aa pa (gP u (tLe (fP u) x1))) (wF_s117_1 _ _ _ _ _ _ _) dX9_truncateText_30 (fun H locs hP hD hS => ?_)
      refine lv_iload_n hx hb dX9_truncateText_33 rfl (lv_at hl 1 rfl) ?_
      exact kret_x hx hb hr hlocks hP hD hS h1 dX9_truncateText_34
    · replace h1 := Ok.neg c12 h1
      exact tX9_truncateText_b15 K E hfl hex hZ u H locs ls (lv_sub hl [] rfl) hP hD hS h1
def fX9_truncateText (p1 : Int32) (u : FS) : Option ((String ⊕ Int32) × FS) := fX9_truncateText_b0 p1 u
set_option maxHeartbeats 4000000 in
set_option maxRecDepth 100000 in
theorem cX9_truncateTextM (l : Launch) (hfl : l.stackTraces = false) (D : va_G) (cy : Nat → ClassId) (za zv : Nat → Nat) (ad : Nat → Nat) (hh : Nat → Nat) (aa : Nat → Nat → Nat) (pa : Nat → Nat) (sz : Nat) (u : FS) (p1 : Int32) : ∀ (K : (String ⊕ Int32) × FS → Prop), Ok (fX9_truncateText p1 u) K → vx_Met l yX9_truncateText wsX9_truncateText rmX9_truncateText (va_Pc [.ref (ad 0), .int p1] (kPreZ D cy za zv sz (wF cy ad hh aa pa u))) (va_Qi (fun r q => K (.inr r, q)) (fun q => kPost D (va_A (wF cy ad hh aa pa u) sz) (wF cy ad hh aa pa q)) (va_A (wF cy ad hh aa pa u) sz)) (vx_X (fun _ : FS => True) (fun E q t => K (.inl E, q) ∧ kPost D (va_A (wF cy ad hh aa pa u) sz) (wF cy ad hh aa pa q) t) (va_A (wF cy ad hh aa pa u) sz)) 1 6 (va_A (wF cy ad hh aa pa u) sz) := by
  intro K h1
  refine vx_ofW (cc := cX9_truncateText) (maxL := 2) (ret := (some .int)) (by decide) rfl ?_
  intro p e s m args below meth c s₁ B hml hex hv
  obtain ⟨rfl, ⟨hsz, hP, hK, hD0⟩, hZ⟩ := hv
  subst hsz
  have E : mE D cy RX9 cX9_truncateText 2 (some .int) wsX9_truncateText (va_A (wF cy ad hh aa pa u) s.heap.size) p s m _ meth c := ⟨B.exec, B.bytes, B.returns, hml, findClass_of_methodNamed B.named, atoms_spec (ws := wsX9_truncateText) B.pre, B.notSynchronized, hK, fun q h => Or.inr h⟩
  have hl := lv_entry ([.ref (ad 0), .int p1]) (n := 2) (Nat.le_of_ble_eq_true rfl)
  rw [lg_entry_eq]
  generalize (lg_sl ([.ref (ad 0), .int p1]) ++ List.replicate (2 - (lg_sl ([.ref (ad 0), .int p1])).length) Slot.unset).toArray = ls at hl ⊢
  exact tX9_truncateText_b0 K E hfl hex hZ p1 u _ _ _ hl hP hD0.self va_S.rf h1
-- X9_count
theorem xaX9_count_75 : ∀ w ∈ (vx_atS RX9 75 "java/lang/IllegalArgumentException" ["java/lang/RuntimeException", "java/lang/Exception"]).filter goodWord, w ∈ wsX9_count := fun w h => List.mem_cons_of_mem _ (List.mem_append_right _ h)
theorem inX9_count_X9 : ∀ w ∈ u_ws RX9 TX9 9, w ∈ wsX9_count := k_lays 7 rfl
theorem lkX9_count_10 : Cond.fieldLink RX9 10 "FerryRamp" "now" "LFerryRamp$State;" ∈ wsX9_count := List.mem_of_getElem? (i := 5) rfl
theorem inX9_count_X8 : ∀ w ∈ u_ws RX8 TX8 13, w ∈ wsX9_count := k_lays 19 rfl
theorem lkX9_count_87 : Cond.fieldLink RX9 87 "FerryRamp$State" "counts" "[I" ∈ wsX9_count := List.mem_of_getElem? (i := 6) rfl
theorem lkX9_count_22 : Cond.fieldLink RX9 22 "FerryRamp" "history" "LFerryRamp$History;" ∈ wsX9_count := List.mem_of_getElem? (i := 3) rfl
theorem inX9_count_X4 : ∀ w ∈ u_ws RX4 TX4 3, w ∈ wsX9_count := k_lays 16 rfl
theorem wF_c27 (cy : Nat → ClassId) (ad : Nat → Nat) (hh : Nat → Nat) (aa : Nat → Nat → Nat) (pa : Nat → Nat) (u : FS) : (wF cy ad hh aa pa u)[27]? = some ((ad 5), .inr (0, [.ref (ad 6), .int (fX u), .int (fY u)])) := fl_atj (l := wFl cy ad hh aa pa u) (j := 3) (q := 0) rfl rfl rfl
theorem lkX9_count_109 : Cond.fieldLink RX9 109 "FerryRamp$History" "many" "I" ∈ wsX9_count := List.mem_of_getElem? (i := 4) rfl
abbrev rmX9_count : Room := { frames := 6, cells := 1, slots := 6, locals := 90 }
def fX9_count_b24 (u : FS) : Option ((String ⊕ Int32) × FS) :=
  some (.inl "java/lang/IllegalArgumentException", u)
set_option maxHeartbeats 4000000 in
set_option maxRecDepth 100000 in
theorem tX9_count_b24 {p : Program} {l : Launch} {e : Env} {s : State} {m : MethodId} {args : Array Value} {below : List Frame} {meth : Method} {c : Code} {D : va_G} {cy : Nat → ClassId} {A : Nat → Prop} {ad : Nat → Nat} {hh : Nat → Nat} {aa : Nat → Nat → Nat} {pa : Nat → Nat} {za zv : Nat → Nat} (K : (String ⊕ Int32) × FS → Prop) (E : mE D cy RX9 cX9_count 2 (some .int) wsX9_count A p s m args meth c) (hfl : l.stackTraces = false) (hex : ∀ x ∈ c.exceptionTable.toList, False) (hZ : mZ za zv A s s.heap)
     (u : FS) (H : Heap) (locs : List Loc) (ls : Array Slot) (hl : lv_has ls 2 []) (hP : va_P D kCl (wF cy ad hh aa pa u) H) (hD : va_D A (wF cy ad hh aa pa u)) (hS : va_S A s.heap H locs) (h1 : Ok (fX9_count_b24 u) K) :
    kWx p l e rmX9_count s m args below meth c H locs (va_Qi (fun r q => K (.inr r, q)) (fun q => kPost D A (wF cy ad hh aa pa q)) A) (vx_X (fun _ : FS => True) (fun E q t => K (.inl E, q) ∧ kPost D A (wF cy ad hh aa pa q) t) A) A 24 ls [] := by
  obtain ⟨hx, hb, hr, hml, hown, hts, hlocks, hK, hA⟩ := id E
  unfold fX9_count_b24 at h1
  exact kx_throw (names := ["java/lang/RuntimeException", "java/lang/Exception"]) (text := "what") (sa := za 2) hx hb hfl hml hown (by decide) (by decide) (hts _ (List.mem_of_getElem? (i := 1) rfl)) (hts _ (List.mem_of_getElem? (i := 2) rfl)) (k_site hZ 2 (by decide)) (vx_hat (fun w h => hts w (xaX9_count_75 w h)) xbRX9_75 (hZ.cast (by decide))) xgRX9_72_75 hZ hK hP hD hS hl.1 dX9_count_24 dX9_count_27 dX9_count_28 dX9_count_30 dX9_count_33 hex hlocks h1 (Nat.le_of_ble_eq_true rfl) (Nat.le_of_ble_eq_true rfl) (Nat.le_of_ble_eq_true rfl) (Nat.le_of_ble_eq_true rfl)
def fX9_count_b0 (x1 : Int32) (u : FS) : Option ((String ⊕ Int32) × FS) :=
  (if x1 = 17 then some (.inr (fY u), u) else (if x1 < 0 then fX9_count_b24 u else (if x1 ≤ 17 then grd (inb x1 17) (some (.inr (sC (fN u) (ix x1)), u)) else fX9_count_b24 u)))
set_option maxHeartbeats 4000000 in
set_option maxRecDepth 100000 in
theorem tX9_count_b0 {p : Program} {l : Launch} {e : Env} {s : State} {m : MethodId} {args : Array Value} {below : List Frame} {meth : Method} {c : Code} {D : va_G} {cy : Nat → ClassId} {A : Nat → Prop} {ad : Nat → Nat} {hh : Nat → Nat} {aa : Nat → Nat → Nat} {pa : Nat → Nat} {za zv : Nat → Nat} (K : (String ⊕ Int32) × FS → Prop) (E : mE D cy RX9 cX9_count 2 (some .int) wsX9_count A p s m args meth c) (hfl : l.stackTraces = false) (hex : ∀ x ∈ c.exceptionTable.toList, False) (hZ : mZ za zv A s s.heap)
     (x1 : Int32) (u : FS) (H : Heap) (locs : List Loc) (ls : Array Slot) (hl : lv_has ls 2 [(0, .ref (ad 0)), (1, .int x1)]) (hP : va_P D kCl (wF cy ad hh aa pa u) H) (hD : va_D A (wF cy ad hh aa pa u)) (hS : va_S A s.heap H locs) (h1 : Ok (fX9_count_b0 x1 u) K) :
    kWx p l e rmX9_count s m args below meth c H locs (va_Qi (fun r q => K (.inr r, q)) (fun q => kPost D A (wF cy ad hh aa pa q)) A) (vx_X (fun _ : FS => True) (fun E q t => K (.inl E, q) ∧ kPost D A (wF cy ad hh aa pa q) t) A) A 0 ls [] := by
  obtain ⟨hx, hb, hr, hml, hown, hts, hlocks, hK, hA⟩ := id E
  unfold fX9_count_b0 at h1
  refine lv_iload_n hx hb dX9_count_0 rfl (lv_at hl 1 rfl) ?_
  refine lv_bipush (v := 17) hx hb dX9_count_1 rfl ?_
  refine lv_icmp_ne (tgt := 14) hx hb dX9_count_3 (by decide) (fun c3 => ?_) (fun c3 => ?_)
  · replace h1 := Ok.neg c3 h1
    refine lv_iload_n hx hb dX9_count_14 rfl (lv_at hl 1 rfl) ?_
    refine lv_if_lt (tgt := 24) hx hb dX9_count_15 (by decide) (fun c15 => ?_) (fun c15 => ?_)
    · replace h1 := Ok.pos c15 h1
      exact tX9_count_b24 K E hfl hex hZ u H locs ls (lv_sub hl [] rfl) hP hD hS h1
    · replace h1 := Ok.neg c15 h1
      refine lv_iload_n hx hb dX9_count_18 rfl (lv_at hl 1 rfl) ?_
      refine lv_bipush (v := 17) hx hb dX9_count_19 rfl ?_
      refine lv_icmp_le (tgt := 34) hx hb dX9_count_21 (by decide) (fun c21 => ?_) (fun c21 => ?_)
      · replace h1 := Ok.pos c21 h1
        refine lv_aload_n hx hb dX9_count_34 rfl (lv_at hl 0 rfl) ?_
        refine k_get (v := .ref (hh 0)) (C := RX9) (T := TX9) (N := 9) hx hb hts inX9_count_X9 hown hK hP 0 (wF_c0 _ _ _ _ _ _) rfl 0 (by decide) lkX9_count_10 (fFs_0 _ _ _ _) dX9_count_35 ?_
        refine k_get (v := .ref ((aa 0) 0)) (C := RX8) (T := TX8) (N := 13) hx hb hts inX9_count_X8 hown hK hP 5 (wF_c5 _ _ _ _ _ _) rfl 0 (by decide) lkX9_count_87 (sFs_0 _ _) dX9_count_38 ?_
        refine lv_iload_n hx hb dX9_count_41 rfl (lv_at hl 1 rfl) ?_
        have g42 := h1.grd1
        replace h1 := h1.grd2
        refine k_iald (k := (ix x1)) hx hb hK hP 6 (wF_c6 _ _ _ _ _ _) g42 rfl dX9_count_42 ?_
        exact kret_x hx hb hr hlocks hP hD hS h1 dX9_count_43
      · replace h1 := Ok.neg c21 h1
        exact tX9_count_b24 K E hfl hex hZ u H locs ls (lv_sub hl [] rfl) hP hD hS h1
  · replace h1 := Ok.pos c3 h1
    refine lv_aload_n hx hb dX9_count_6 rfl (lv_at hl 0 rfl) ?_
    refine k_get (v := .ref (ad 5)) (C := RX9) (T := TX9) (N := 9) hx hb hts inX9_count_X9 hown hK hP 0 (wF_c0 _ _ _ _ _ _) rfl 2 (by decide) lkX9_count_22 (fFs_2 _ _ _ _) dX9_count_7 ?_
    refine k_get (v := .int (fY u)) (C := RX4) (T := TX4) (N := 3) hx hb hts inX9_count_X4 hown hK hP 27 (wF_c27 _ _ _ _ _ _) rfl 2 (by decide) lkX9_count_109 rfl dX9_count_10 ?_
    exact kret_x hx hb hr hlocks hP hD hS h1 dX9_count_13
def fX9_count (p1 : Int32) (u : FS) : Option ((String ⊕ Int32) × FS) := fX9_count_b0 p1 u
set_option maxHeartbeats 4000000 in
set_option maxRecDepth 100000 in
theorem cX9_countM (l : Launch) (hfl : l.stackTraces = false) (D : va_G) (cy : Nat → ClassId) (za zv : Nat → Nat) (ad : Nat → Nat) (hh : Nat → Nat) (aa : Nat → Nat → Nat) (pa : Nat → Nat) (sz : Nat) (u : FS) (p1 : Int32) : ∀ (K : (String ⊕ Int32) × FS → Prop), Ok (fX9_count p1 u) K → vx_Met l yX9_count wsX9_count rmX9_count (va_Pc [.ref (ad 0), .int p1] (kPreZ D cy za zv sz (wF cy ad hh aa pa u))) (va_Qi (fun r q => K (.inr r, q)) (fun q => kPost D (va_A (wF cy ad hh aa pa u) sz) (wF cy ad hh aa pa q)) (va_A (wF cy ad hh aa pa u) sz)) (vx_X (fun _ : FS => True) (fun E q t => K (.inl E, q) ∧ kPost D (va_A (wF cy ad hh aa pa u) sz) (wF cy ad hh aa pa q) t) (va_A (wF cy ad hh aa pa u) sz)) 1 6 (va_A (wF cy ad hh aa pa u) sz) := by
  intro K h1
  refine vx_ofW (cc := cX9_count) (maxL := 2) (ret := (some .int)) (by decide) rfl ?_
  intro p e s m args below meth c s₁ B hml hex hv
  obtain ⟨rfl, ⟨hsz, hP, hK, hD0⟩, hZ⟩ := hv
  subst hsz
  have E : mE D cy RX9 cX9_count 2 (some .int) wsX9_count (va_A (wF cy ad hh aa pa u) s.heap.size) p s m _ meth c := ⟨B.exec, B.bytes, B.returns, hml, findClass_of_methodNamed B.named, atoms_spec (ws := wsX9_count) B.pre, B.notSynchronized, hK, fun q h => Or.inr h⟩
  have hl := lv_entry ([.ref (ad 0), .int p1]) (n := 2) (Nat.le_of_ble_eq_true rfl)
  rw [lg_entry_eq]
  generalize (lg_sl ([.ref (ad 0), .int p1]) ++ List.replicate (2 - (lg_sl ([.ref (ad 0), .int p1])).length) Slot.unset).toArray = ls at hl ⊢
  exact tX9_count_b0 K E hfl hex hZ p1 u _ _ _ hl hP hD0.self va_S.rf h1
-- X9_setting
theorem xaX9_setting_75 : ∀ w ∈ (vx_atS RX9 75 "java/lang/IllegalArgumentException" ["java/lang/RuntimeException", "java/lang/Exception"]).filter goodWord, w ∈ wsX9_setting := fun w h => List.mem_cons_of_mem _ (List.mem_append_right _ h)
theorem inX9_setting_X9 : ∀ w ∈ u_ws RX9 TX9 9, w ∈ wsX9_setting := k_lays 5 rfl
theorem lkX9_setting_10 : Cond.fieldLink RX9 10 "FerryRamp" "now" "LFerryRamp$State;" ∈ wsX9_setting := List.mem_of_getElem? (i := 3) rfl
theorem inX9_setting_X8 : ∀ w ∈ u_ws RX8 TX8 13, w ∈ wsX9_setting := k_lays 14 rfl
theorem lkX9_setting_116 : Cond.fieldLink RX9 116 "FerryRamp$State" "settings" "[I" ∈ wsX9_setting := List.mem_of_getElem? (i := 4) rfl
abbrev rmX9_setting : Room := { frames := 6, cells := 1, slots := 6, locals := 90 }
def fX9_setting_b10 (u : FS) : Option ((String ⊕ Int32) × FS) :=
  some (.inl "java/lang/IllegalArgumentException", u)
set_option maxHeartbeats 4000000 in
set_option maxRecDepth 100000 in
theorem tX9_setting_b10 {p : Program} {l : Launch} {e : Env} {s : State} {m : MethodId} {args : Array Value} {below : List Frame} {meth : Method} {c : Code} {D : va_G} {cy : Nat → ClassId} {A : Nat → Prop} {ad : Nat → Nat} {hh : Nat → Nat} {aa : Nat → Nat → Nat} {pa : Nat → Nat} {za zv : Nat → Nat} (K : (String ⊕ Int32) × FS → Prop) (E : mE D cy RX9 cX9_setting 2 (some .int) wsX9_setting A p s m args meth c) (hfl : l.stackTraces = false) (hex : ∀ x ∈ c.exceptionTable.toList, False) (hZ : mZ za zv A s s.heap)
     (u : FS) (H : Heap) (locs : List Loc) (ls : Array Slot) (hl : lv_has ls 2 []) (hP : va_P D kCl (wF cy ad hh aa pa u) H) (hD : va_D A (wF cy ad hh aa pa u)) (hS : va_S A s.heap H locs) (h1 : Ok (fX9_setting_b10 u) K) :
    kWx p l e rmX9_setting s m args below meth c H locs (va_Qi (fun r q => K (.inr r, q)) (fun q => kPost D A (wF cy ad hh aa pa q)) A) (vx_X (fun _ : FS => True) (fun E q t => K (.inl E, q) ∧ kPost D A (wF cy ad hh aa pa q) t) A) A 10 ls [] := by
  obtain ⟨hx, hb, hr, hml, hown, hts, hlocks, hK, hA⟩ := id E
  unfold fX9_setting_b10 at h1
  exact kx_throw (names := ["java/lang/RuntimeException", "java/lang/Exception"]) (text := "what") (sa := za 2) hx hb hfl hml hown (by decide) (by decide) (hts _ (List.mem_of_getElem? (i := 1) rfl)) (hts _ (List.mem_of_getElem? (i := 2) rfl)) (k_site hZ 2 (by decide)) (vx_hat (fun w h => hts w (xaX9_setting_75 w h)) xbRX9_75 (hZ.cast (by decide))) xgRX9_72_75 hZ hK hP hD hS hl.1 dX9_setting_10 dX9_setting_13 dX9_setting_14 dX9_setting_16 dX9_setting_19 hex hlocks h1 (Nat.le_of_ble_eq_true rfl) (Nat.le_of_ble_eq_true rfl) (Nat.le_of_ble_eq_true rfl) (Nat.le_of_ble_eq_true rfl)
def fX9_setting_b0 (x1 : Int32) (u : FS) : Option ((String ⊕ Int32) × FS) :=
  (if x1 < 0 then fX9_setting_b10 u else (if x1 < 14 then grd (inb x1 14) (some (.inr (sT (fN u) (ix x1)), u)) else fX9_setting_b10 u))
set_option maxHeartbeats 4000000 in
set_option maxRecDepth 100000 in
theorem tX9_setting_b0 {p : Program} {l : Launch} {e : Env} {s : State} {m : MethodId} {args : Array Value} {below : List Frame} {meth : Method} {c : Code} {D : va_G} {cy : Nat → ClassId} {A : Nat → Prop} {ad : Nat → Nat} {hh : Nat → Nat} {aa : Nat → Nat → Nat} {pa : Nat → Nat} {za zv : Nat → Nat} (K : (String ⊕ Int32) × FS → Prop) (E : mE D cy RX9 cX9_setting 2 (some .int) wsX9_setting A p s m args meth c) (hfl : l.stackTraces = false) (hex : ∀ x ∈ c.exceptionTable.toList, False) (hZ : mZ za zv A s s.heap)
     (x1 : Int32) (u : FS) (H : Heap) (locs : List Loc) (ls : Array Slot) (hl : lv_has ls 2 [(0, .ref (ad 0)), (1, .int x1)]) (hP : va_P D kCl (wF cy ad hh aa pa u) H) (hD : va_D A (wF cy ad hh aa pa u)) (hS : va_S A s.heap H locs) (h1 : Ok (fX9_setting_b0 x1 u) K) :
    kWx p l e rmX9_setting s m args below meth c H locs (va_Qi (fun r q => K (.inr r, q)) (fun q => kPost D A (wF cy ad hh aa pa q)) A) (vx_X (fun _ : FS => True) (fun E q t => K (.inl E, q) ∧ kPost D A (wF cy ad hh aa pa q) t) A) A 0 ls [] := by
  obtain ⟨hx, hb, hr, hml, hown, hts, hlocks, hK, hA⟩ := id E
  unfold fX9_setting_b0 at h1
  refine lv_iload_n hx hb dX9_setting_0 rfl (lv_at hl 1 rfl) ?_
  refine lv_if_lt (tgt := 10) hx hb dX9_setting_1 (by decide) (fun c1 => ?_) (fun c1 => ?_)
  · replace h1 := Ok.pos c1 h1
    exact tX9_setting_b10 K E hfl hex hZ u H locs ls (lv_sub hl [] rfl) hP hD hS h1
  · replace h1 := Ok.neg c1 h1
    refine lv_iload_n hx hb dX9_setting_4 rfl (lv_at hl 1 rfl) ?_
    refine lv_bipush (v := 14) hx hb dX9_setting_5 rfl ?_
    refine lv_icmp_lt (tgt := 20) hx hb dX9_setting_7 (by decide) (fun c7 => ?_) (fun c7 => ?_)
    · replace h1 := Ok.pos c7 h1
      refine lv_aload_n hx hb dX9_setting_20 rfl (lv_at hl 0 rfl) ?_
      refine k_get (v := .ref (hh 0)) (C := RX9) (T := TX9) (N := 9) hx hb hts inX9_setting_X9 hown hK hP 0 (wF_c0 _ _ _ _ _ _) rfl 0 (by decide) lkX9_setting_10 (fFs_0 _ _ _ _) dX9_setting_21 ?_
      refine k_get (v := .ref ((aa 0) 1)) (C := RX8) (T := TX8) (N := 13) hx hb hts inX9_setting_X8 hown hK hP 5 (wF_c5 _ _ _ _ _ _) rfl 1 (by decide) lkX9_setting_116 (sFs_1 _ _) dX9_setting_24 ?_
      refine lv_iload_n hx hb dX9_setting_27 rfl (lv_at hl 1 rfl) ?_
      have g28 := h1.grd1
      replace h1 := h1.grd2
      refine k_iald (k := (ix x1)) hx hb hK hP 7 (wF_c7 _ _ _ _ _ _) g28 rfl dX9_setting_28 ?_
      exact kret_x hx hb hr hlocks hP hD hS h1 dX9_setting_29
    · replace h1 := Ok.neg c7 h1
      exact tX9_setting_b10 K E hfl hex hZ u H locs ls (lv_sub hl [] rfl) hP hD hS h1
def fX9_setting (p1 : Int32) (u : FS) : Option ((String ⊕ Int32) × FS) := fX9_setting_b0 p1 u
set_option maxHeartbeats 4000000 in
set_option maxRecDepth 100000 in
theorem cX9_settingM (l : Launch) (hfl : l.stackTraces = false) (D : va_G) (cy : Nat → ClassId) (za zv : Nat → Nat) (ad : Nat → Nat) (hh : Nat → Nat) (aa : Nat → Nat → Nat) (pa : Nat → Nat) (sz : Nat) (u : FS) (p1 : Int32) : ∀ (K : (String ⊕ Int32) × FS → Prop), Ok (fX9_setting p1 u) K → vx_Met l yX9_setting wsX9_setting rmX9_setting (va_Pc [.ref (ad 0), .int p1] (kPreZ D cy za zv sz (wF cy ad hh aa pa u))) (va_Qi (fun r q => K (.inr r, q)) (fun q => kPost D (va_A (wF cy ad hh aa pa u) sz) (wF cy ad hh aa pa q)) (va_A (wF cy ad hh aa pa u) sz)) (vx_X (fun _ : FS => True) (fun E q t => K (.inl E, q) ∧ kPost D (va_A (wF cy ad hh aa pa u) sz) (wF cy ad hh aa pa q) t) (va_A (wF cy ad hh aa pa u) sz)) 1 6 (va_A (wF cy ad hh aa pa u) sz) := by
  intro K h1
  refine vx_ofW (cc := cX9_setting) (maxL := 2) (ret := (some .int)) (by decide) rfl ?_
  intro p e s m args below meth c s₁ B hml hex hv
  obtain ⟨rfl, ⟨hsz, hP, hK, hD0⟩, hZ⟩ := hv
  subst hsz
  have E : mE D cy RX9 cX9_setting 2 (some .int) wsX9_setting (va_A (wF cy ad hh aa pa u) s.heap.size) p s m _ meth c := ⟨B.exec, B.bytes, B.returns, hml, findClass_of_methodNamed B.named, atoms_spec (ws := wsX9_setting) B.pre, B.notSynchronized, hK, fun q h => Or.inr h⟩
  have hl := lv_entry ([.ref (ad 0), .int p1]) (n := 2) (Nat.le_of_ble_eq_true rfl)
  rw [lg_entry_eq]
  generalize (lg_sl ([.ref (ad 0), .int p1]) ++ List.replicate (2 - (lg_sl ([.ref (ad 0), .int p1])).length) Slot.unset).toArray = ls at hl ⊢
  exact tX9_setting_b0 K E hfl hex hZ p1 u _ _ _ hl hP hD0.self va_S.rf h1
-- X9_kind
theorem xaX9_kind_123 : ∀ w ∈ (vx_atS RX9 123 "java/lang/IndexOutOfBoundsException" ["java/lang/RuntimeException", "java/lang/Exception"]).filter goodWord, w ∈ wsX9_kind := fun w h => List.mem_cons_of_mem _ (List.mem_append_left _ (List.mem_append_right _ h))
theorem xbRX9_123 : ∀ w ∈ (vx_atS RX9 123 "java/lang/IndexOutOfBoundsException" ["java/lang/RuntimeException", "java/lang/Exception"]).filter (fun w => !goodWord w), w ∈ xCast "java/lang/IndexOutOfBoundsException" := by decide +kernel
theorem xgRX9_119_123 : ∀ w ∈ Cond.classLink RX9 119 "java/lang/IndexOutOfBoundsException" :: Cond.initialized "java/lang/IndexOutOfBoundsException" :: vx_atS RX9 123 "java/lang/IndexOutOfBoundsException" ["java/lang/RuntimeException", "java/lang/Exception"], vx_ot w = true := by decide +kernel
theorem xaX9_kind_75 : ∀ w ∈ (vx_atS RX9 75 "java/lang/IllegalArgumentException" ["java/lang/RuntimeException", "java/lang/Exception"]).filter goodWord, w ∈ wsX9_kind := fun w h => List.mem_cons_of_mem _ (List.mem_append_right _ h)
theorem inX9_kind_X9 : ∀ w ∈ u_ws RX9 TX9 9, w ∈ wsX9_kind := k_lays 12 rfl
theorem lkX9_kind_10 : Cond.fieldLink RX9 10 "FerryRamp" "now" "LFerryRamp$State;" ∈ wsX9_kind := List.mem_of_getElem? (i := 5) rfl
abbrev rmX9_kind : Room := { frames := 6, cells := 1, slots := 6, locals := 90 }
def fX9_kind_b9 (u : FS) : Option ((String ⊕ Int32) × FS) :=
  some (.inl "java/lang/IndexOutOfBoundsException", u)
set_option maxHeartbeats 4000000 in
set_option maxRecDepth 100000 in
theorem tX9_kind_b9 {p : Program} {l : Launch} {e : Env} {s : State} {m : MethodId} {args : Array Value} {below : List Frame} {meth : Method} {c : Code} {D : va_G} {cy : Nat → ClassId} {A : Nat → Prop} {ad : Nat → Nat} {hh : Nat → Nat} {aa : Nat → Nat → Nat} {pa : Nat → Nat} {za zv : Nat → Nat} (K : (String ⊕ Int32) × FS → Prop) (E : mE D cy RX9 cX9_kind 3 (some .int) wsX9_kind A p s m args meth c) (hfl : l.stackTraces = false) (hex : ∀ x ∈ c.exceptionTable.toList, False) (hZ : mZ za zv A s s.heap)
     (u : FS) (H : Heap) (locs : List Loc) (ls : Array Slot) (hl : lv_has ls 3 []) (hP : va_P D kCl (wF cy ad hh aa pa u) H) (hD : va_D A (wF cy ad hh aa pa u)) (hS : va_S A s.heap H locs) (h1 : Ok (fX9_kind_b9 u) K) :
    kWx p l e rmX9_kind s m args below meth c H locs (va_Qi (fun r q => K (.inr r, q)) (fun q => kPost D A (wF cy ad hh aa pa q)) A) (vx_X (fun _ : FS => True) (fun E q t => K (.inl E, q) ∧ kPost D A (wF cy ad hh aa pa q) t) A) A 9 ls [] := by
  obtain ⟨hx, hb, hr, hml, hown, hts, hlocks, hK, hA⟩ := id E
  unfold fX9_kind_b9 at h1
  exact kx_throw (names := ["java/lang/RuntimeException", "java/lang/Exception"]) (text := "kind") (sa := za 3) hx hb hfl hml hown (by decide) (by decide) (hts _ (List.mem_of_getElem? (i := 1) rfl)) (hts _ (List.mem_of_getElem? (i := 2) rfl)) (k_site hZ 3 (by decide)) (vx_hat (fun w h => hts w (xaX9_kind_123 w h)) xbRX9_123 (hZ.cast (by decide))) xgRX9_119_123 hZ hK hP hD hS hl.1 dX9_kind_9 dX9_kind_12 dX9_kind_13 dX9_kind_15 dX9_kind_18 hex hlocks h1 (Nat.le_of_ble_eq_true rfl) (Nat.le_of_ble_eq_true rfl) (Nat.le_of_ble_eq_true rfl) (Nat.le_of_ble_eq_true rfl)
def fX9_kind_b28 (u : FS) : Option ((String ⊕ Int32) × FS) :=
  some (.inl "java/lang/IllegalArgumentException", u)
set_option maxHeartbeats 4000000 in
set_option maxRecDepth 100000 in
theorem tX9_kind_b28 {p : Program} {l : Launch} {e : Env} {s : State} {m : MethodId} {args : Array Value} {below : List Frame} {meth : Method} {c : Code} {D : va_G} {cy : Nat → ClassId} {A : Nat → Prop} {ad : Nat → Nat} {hh : Nat → Nat} {aa : Nat → Nat → Nat} {pa : Nat → Nat} {za zv : Nat → Nat} (K : (String ⊕ Int32) × FS → Prop) (E : mE D cy RX9 cX9_kind 3 (some .int) wsX9_kind A p s m args meth c) (hfl : l.stackTraces = false) (hex : ∀ x ∈ c.exceptionTable.toList, False) (hZ : mZ za zv A s s.heap)
     (u : FS) (H : Heap) (locs : List Loc) (ls : Array Slot) (hl : lv_has ls 3 []) (hP : va_P D kCl (wF cy ad hh aa pa u) H) (hD : va_D A (wF cy ad hh aa pa u)) (hS : va_S A s.heap H locs) (h1 : Ok (fX9_kind_b28 u) K) :
    kWx p l e rmX9_kind s m args below meth c H locs (va_Qi (fun r q => K (.inr r, q)) (fun q => kPost D A (wF cy ad hh aa pa q)) A) (vx_X (fun _ : FS => True) (fun E q t => K (.inl E, q) ∧ kPost D A (wF cy ad hh aa pa q) t) A) A 28 ls [] := by
  obtain ⟨hx, hb, hr, hml, hown, hts, hlocks, hK, hA⟩ := id E
  unfold fX9_kind_b28 at h1
  exact kx_throw (names := ["java/lang/RuntimeException", "java/lang/Exception"]) (text := "what") (sa := za 2) hx hb hfl hml hown (by decide) (by decide) (hts _ (List.mem_of_getElem? (i := 3) rfl)) (hts _ (List.mem_of_getElem? (i := 4) rfl)) (k_site hZ 2 (by decide)) (vx_hat (fun w h => hts w (xaX9_kind_75 w h)) xbRX9_75 (hZ.cast (by decide))) xgRX9_72_75 hZ hK hP hD hS hl.1 dX9_kind_28 dX9_kind_31 dX9_kind_32 dX9_kind_34 dX9_kind_37 hex hlocks h1 (Nat.le_of_ble_eq_true rfl) (Nat.le_of_ble_eq_true rfl) (Nat.le_of_ble_eq_true rfl) (Nat.le_of_ble_eq_true rfl)
def fX9_kind_b0 (x1 : Int32) (x2 : Int32) (u : FS) : Option ((String ⊕ Int32) × FS) :=
  (if x1 < 0 then fX9_kind_b9 u else (if x1 < 4 then (if x2 < 0 then fX9_kind_b28 u else (if x2 < 3 then bnd (fX8_kindFact x1 x2 (fN u)) (fun r44 => some (.inr r44, u)) else fX9_kind_b28 u)) else fX9_kind_b9 u))
set_option maxHeartbeats 4000000 in
set_option maxRecDepth 100000 in
theorem tX9_kind_b0 {p : Program} {l : Launch} {e : Env} {s : State} {m : MethodId} {args : Array Value} {below : List Frame} {meth : Method} {c : Code} {D : va_G} {cy : Nat → ClassId} {A : Nat → Prop} {ad : Nat → Nat} {hh : Nat → Nat} {aa : Nat → Nat → Nat} {pa : Nat → Nat} {za zv : Nat → Nat} (K : (String ⊕ Int32) × FS → Prop) (E : mE D cy RX9 cX9_kind 3 (some .int) wsX9_kind A p s m args meth c) (hfl : l.stackTraces = false) (hex : ∀ x ∈ c.exceptionTable.toList, False) (hZ : mZ za zv A s s.heap)
     (x1 : Int32) (x2 : Int32) (u : FS) (H : Heap) (locs : List Loc) (ls : Array Slot) (hl : lv_has ls 3 [(0, .ref (ad 0)), (1, .int x1), (2, .int x2)]) (hP : va_P D kCl (wF cy ad hh aa pa u) H) (hD : va_D A (wF cy ad hh aa pa u)) (hS : va_S A s.heap H locs) (h1 : Ok (fX9_kind_b0 x1 x2 u) K) :
    kWx p l e rmX9_kind s m args below meth c H locs (va_Qi (fun r q => K (.inr r, q)) (fun q => kPost D A (wF cy ad hh aa pa q)) A) (vx_X (fun _ : FS => True) (fun E q t => K (.inl E, q) ∧ kPost D A (wF cy ad hh aa pa q) t) A) A 0 ls [] := by
  obtain ⟨hx, hb, hr, hml, hown, hts, hlocks, hK, hA⟩ := id E
  unfold fX9_kind_b0 at h1
  refine lv_iload_n hx hb dX9_kind_0 rfl (lv_at hl 1 rfl) ?_
  refine lv_if_lt (tgt := 9) hx hb dX9_kind_1 (by decide) (fun c1 => ?_) (fun c1 => ?_)
  · replace h1 := Ok.pos c1 h1
    exact tX9_kind_b9 K E hfl hex hZ u H locs ls (lv_sub hl [] rfl) hP hD hS h1
  · replace h1 := Ok.neg c1 h1
    refine lv_iload_n hx hb dX9_kind_4 rfl (lv_at hl 1 rfl) ?_
    refine lv_iconst (v := 4) hx hb dX9_kind_5 rfl ?_
    refine lv_icmp_lt (tgt := 19) hx hb dX9_kind_6 (by decide) (fun c6 => ?_) (fun c6 => ?_)
    · replace h1 := Ok.pos c6 h1
      refine lv_iload_n hx hb dX9_kind_19 rfl (lv_at hl 2 rfl) ?_
      refine lv_if_lt (tgt := 28) hx hb dX9_kind_20 (by decide) (fun c20 => ?_) (fun c20 => ?_)
      · replace h1 := Ok.pos c20 h1
        exact tX9_kind_b28 K E hfl hex hZ u H locs ls (lv_sub hl [] rfl) hP hD hS h1
      · replace h1 := Ok.neg c20 h1
        refine lv_iload_n hx hb dX9_kind_23 rfl (lv_at hl 2 rfl) ?_
        refine lv_iconst (v := 3) hx hb dX9_kind_24 rfl ?_
        refine lv_icmp_lt (tgt := 38) hx hb dX9_kind_25 (by decide) (fun c25 => ?_) (fun c25 => ?_)
        · replace h1 := Ok.pos c25 h1
          refine lv_aload_n hx hb dX9_kind_38 rfl (lv_at hl 0 rfl) ?_
          refine k_get (v := .ref (hh 0)) (C := RX9) (T := TX9) (N := 9) hx hb hts inX9_kind_X9 hown hK hP 0 (wF_c0 _ _ _ _ _ _) rfl 0 (by decide) lkX9_kind_10 (fFs_0 _ _ _ _) dX9_kind_39 ?_
          refine lv_iload_n hx hb dX9_kind_42 rfl (lv_at hl 1 rfl) ?_
          refine lv_iload_n hx hb dX9_kind_43 rfl (lv_at hl 2 rfl) ?_
          refine kc_rV (b := (hh 0)) (As := [.int x1, .int x2]) (rest := []) h1 ⟨hx, hb, hml, hown, hts⟩ (cX8_kindFactM l D cy (hh 0) (aa 0) H.size (fN u) x1 x2) (cwV 2 hts gX9_kind_X8_kindFact rfl rfl rfl hdX8_kindFact ⟨Nat.le_of_ble_eq_true rfl, Nat.le_of_ble_eq_true rfl⟩) hK (wF_sel1 _ _ _ _ _ _) hP hD hS hA (q0 := 0) rfl rfl rfl hl.1 rfl (Nat.le_of_ble_eq_true rfl) dX9_kind_44 ⟨Nat.zero_le _, Nat.zero_le _⟩ (fun r44 H locs h1 hP hS => ?_)
          exact kret_x hx hb hr hlocks hP hD hS h1 dX9_kind_47
        · replace h1 := Ok.neg c25 h1
          exact tX9_kind_b28 K E hfl hex hZ u H locs ls (lv_sub hl [] rfl) hP hD hS h1
    · replace h1 := Ok.neg c6 h1
      exact tX9_kind_b9 K E hfl hex hZ u H locs ls (lv_sub hl [] rfl) hP hD hS h1
def fX9_kind (p1 : Int32) (p2 : Int32) (u : FS) : Option ((String ⊕ Int32) × FS) := fX9_kind_b0 p1 p2 u
set_option maxHeartbeats 4000000 in
set_option maxRecDepth 100000 in
theorem cX9_kindM (l : Launch) (hfl : l.stackTraces = false) (D : va_G) (cy : Nat → ClassId) (za zv : Nat → Nat) (ad : Nat → Nat) (hh : Nat → Nat) (aa : Nat → Nat → Nat) (pa : Nat → Nat) (sz : Nat) (u : FS) (p1 : Int32) (p2 : Int32) : ∀ (K : (String ⊕ Int32) × FS → Prop), Ok (fX9_kind p1 p2 u) K → vx_Met l yX9_kind wsX9_kind rmX9_kind (va_Pc [.ref (ad 0), .int p1, .int p2] (kPreZ D cy za zv sz (wF cy ad hh aa pa u))) (va_Qi (fun r q => K (.inr r, q)) (fun q => kPost D (va_A (wF cy ad hh aa pa u) sz) (wF cy ad hh aa pa q)) (va_A (wF cy ad hh aa pa u) sz)) (vx_X (fun _ : FS => True) (fun E q t => K (.inl E, q) ∧ kPost D (va_A (wF cy ad hh aa pa u) sz) (wF cy ad hh aa pa q) t) (va_A (wF cy ad hh aa pa u) sz)) 1 6 (va_A (wF cy ad hh aa pa u) sz) := by
  intro K h1
  refine vx_ofW (cc := cX9_kind) (maxL := 3) (ret := (some .int)) (by decide) rfl ?_
  intro p e s m args below meth c s₁ B hml hex hv
  obtain ⟨rfl, ⟨hsz, hP, hK, hD0⟩, hZ⟩ := hv
  subst hsz
  have E : mE D cy RX9 cX9_kind 3 (some .int) wsX9_kind (va_A (wF cy ad hh aa pa u) s.heap.size) p s m _ meth c := ⟨B.exec, B.bytes, B.returns, hml, findClass_of_methodNamed B.named, atoms_spec (ws := wsX9_kind) B.pre, B.notSynchronized, hK, fun q h => Or.inr h⟩
  have hl := lv_entry ([.ref (ad 0), .int p1, .int p2]) (n := 3) (Nat.le_of_ble_eq_true rfl)
  rw [lg_entry_eq]
  generalize (lg_sl ([.ref (ad 0), .int p1, .int p2]) ++ List.replicate (3 - (lg_sl ([.ref (ad 0), .int p1, .int p2])).length) Slot.unset).toArray = ls at hl ⊢
  exact tX9_kind_b0 K E hfl hex hZ p1 p2 u _ _ _ hl hP hD0.self va_S.rf h1
-- X9_car
theorem xaX9_car_123 : ∀ w ∈ (vx_atS RX9 123 "java/lang/IndexOutOfBoundsException" ["java/lang/RuntimeException", "java/lang/Exception"]).filter goodWord, w ∈ wsX9_car := fun w h => List.mem_cons_of_mem _ (List.mem_append_left _ (List.mem_append_right _ h))
theorem inX9_car_X9 : ∀ w ∈ u_ws RX9 TX9 9, w ∈ wsX9_car := k_lays 13 rfl
theorem lkX9_car_10 : Cond.fieldLink RX9 10 "FerryRamp" "now" "LFerryRamp$State;" ∈ wsX9_car := List.mem_of_getElem? (i := 5) rfl
theorem inX9_car_X8 : ∀ w ∈ u_ws RX8 TX8 13, w ∈ wsX9_car := k_lays 22 rfl
theorem lkX9_car_87 : Cond.fieldLink RX9 87 "FerryRamp$State" "counts" "[I" ∈ wsX9_car := List.mem_of_getElem? (i := 6) rfl
theorem xaX9_car_75 : ∀ w ∈ (vx_atS RX9 75 "java/lang/IllegalArgumentException" ["java/lang/RuntimeException", "java/lang/Exception"]).filter goodWord, w ∈ wsX9_car := fun w h => List.mem_cons_of_mem _ (List.mem_append_right _ h)
abbrev rmX9_car : Room := { frames := 6, cells := 1, slots := 6, locals := 90 }
def fX9_car_b17 (u : FS) : Option ((String ⊕ Int32) × FS) :=
  some (.inl "java/lang/IndexOutOfBoundsException", u)
set_option maxHeartbeats 4000000 in
set_option maxRecDepth 100000 in
theorem tX9_car_b17 {p : Program} {l : Launch} {e : Env} {s : State} {m : MethodId} {args : Array Value} {below : List Frame} {meth : Method} {c : Code} {D : va_G} {cy : Nat → ClassId} {A : Nat → Prop} {ad : Nat → Nat} {hh : Nat → Nat} {aa : Nat → Nat → Nat} {pa : Nat → Nat} {za zv : Nat → Nat} (K : (String ⊕ Int32) × FS → Prop) (E : mE D cy RX9 cX9_car 3 (some .int) wsX9_car A p s m args meth c) (hfl : l.stackTraces = false) (hex : ∀ x ∈ c.exceptionTable.toList, False) (hZ : mZ za zv A s s.heap)
     (u : FS) (H : Heap) (locs : List Loc) (ls : Array Slot) (hl : lv_has ls 3 []) (hP : va_P D kCl (wF cy ad hh aa pa u) H) (hD : va_D A (wF cy ad hh aa pa u)) (hS : va_S A s.heap H locs) (h1 : Ok (fX9_car_b17 u) K) :
    kWx p l e rmX9_car s m args below meth c H locs (va_Qi (fun r q => K (.inr r, q)) (fun q => kPost D A (wF cy ad hh aa pa q)) A) (vx_X (fun _ : FS => True) (fun E q t => K (.inl E, q) ∧ kPost D A (wF cy ad hh aa pa q) t) A) A 17 ls [] := by
  obtain ⟨hx, hb, hr, hml, hown, hts, hlocks, hK, hA⟩ := id E
  unfold fX9_car_b17 at h1
  exact kx_throw (names := ["java/lang/RuntimeException", "java/lang/Exception"]) (text := "car") (sa := za 4) hx hb hfl hml hown (by decide) (by decide) (hts _ (List.mem_of_getElem? (i := 1) rfl)) (hts _ (List.mem_of_getElem? (i := 2) rfl)) (k_site hZ 4 (by decide)) (vx_hat (fun w h => hts w (xaX9_car_123 w h)) xbRX9_123 (hZ.cast (by decide))) xgRX9_119_123 hZ hK hP hD hS hl.1 dX9_car_17 dX9_car_20 dX9_car_21 dX9_car_23 dX9_car_26 hex hlocks h1 (Nat.le_of_ble_eq_true rfl) (Nat.le_of_ble_eq_true rfl) (Nat.le_of_ble_eq_true rfl) (Nat.le_of_ble_eq_true rfl)
def fX9_car_b37 (u : FS) : Option ((String ⊕ Int32) × FS) :=
  some (.inl "java/lang/IllegalArgumentException", u)
set_option maxHeartbeats 4000000 in
set_option maxRecDepth 100000 in
theorem tX9_car_b37 {p : Program} {l : Launch} {e : Env} {s : State} {m : MethodId} {args : Array Value} {below : List Frame} {meth : Method} {c : Code} {D : va_G} {cy : Nat → ClassId} {A : Nat → Prop} {ad : Nat → Nat} {hh : Nat → Nat} {aa : Nat → Nat → Nat} {pa : Nat → Nat} {za zv : Nat → Nat} (K : (String ⊕ Int32) × FS → Prop) (E : mE D cy RX9 cX9_car 3 (some .int) wsX9_car A p s m args meth c) (hfl : l.stackTraces = false) (hex : ∀ x ∈ c.exceptionTable.toList, False) (hZ : mZ za zv A s s.heap)
     (u : FS) (H : Heap) (locs : List Loc) (ls : Array Slot) (hl : lv_has ls 3 []) (hP : va_P D kCl (wF cy ad hh aa pa u) H) (hD : va_D A (wF cy ad hh aa pa u)) (hS : va_S A s.heap H locs) (h1 : Ok (fX9_car_b37 u) K) :
    kWx p l e rmX9_car s m args below meth c H locs (va_Qi (fun r q => K (.inr r, q)) (fun q => kPost D A (wF cy ad hh aa pa q)) A) (vx_X (fun _ : FS => True) (fun E q t => K (.inl E, q) ∧ kPost D A (wF cy ad hh aa pa q) t) A) A 37 ls [] := by
  obtain ⟨hx, hb, hr, hml, hown, hts, hlocks, hK, hA⟩ := id E
  unfold fX9_car_b37 at h1
  exact kx_throw (names := ["java/lang/RuntimeException", "java/lang/Exception"]) (text := "what") (sa := za 2) hx hb hfl hml hown (by decide) (by decide) (hts _ (List.mem_of_getElem? (i := 3) rfl)) (hts _ (List.mem_of_getElem? (i := 4) rfl)) (k_site hZ 2 (by decide)) (vx_hat (fun w h => hts w (xaX9_car_75 w h)) xbRX9_75 (hZ.cast (by decide))) xgRX9_72_75 hZ hK hP hD hS hl.1 dX9_car_37 dX9_car_40 dX9_car_41 dX9_car_43 dX9_car_46 hex hlocks h1 (Nat.le_of_ble_eq_true rfl) (Nat.le_of_ble_eq_true rfl) (Nat.le_of_ble_eq_true rfl) (Nat.le_of_ble_eq_true rfl)
def fX9_car_b0 (x1 : Int32) (x2 : Int32) (u : FS) : Option ((String ⊕ Int32) × FS) :=
  (if x1 < 0 then fX9_car_b17 u else (if x1 < (sC (fN u) 3) then (if x2 < 0 then fX9_car_b37 u else (if x2 < 7 then bnd (fX8_carFact x1 x2 (fN u)) (fun r53 => some (.inr r53, u)) else fX9_car_b37 u)) else fX9_car_b17 u))
set_option maxHeartbeats 4000000 in
set_option maxRecDepth 100000 in
theorem tX9_car_b0 {p : Program} {l : Launch} {e : Env} {s : State} {m : MethodId} {args : Array Value} {below : List Frame} {meth : Method} {c : Code} {D : va_G} {cy : Nat → ClassId} {A : Nat → Prop} {ad : Nat → Nat} {hh : Nat → Nat} {aa : Nat → Nat → Nat} {pa : Nat → Nat} {za zv : Nat → Nat} (K : (String ⊕ Int32) × FS → Prop) (E : mE D cy RX9 cX9_car 3 (some .int) wsX9_car A p s m args meth c) (hfl : l.stackTraces = false) (hex : ∀ x ∈ c.exceptionTable.toList, False) (hZ : mZ za zv A s s.heap)
     (x1 : Int32) (x2 : Int32) (u : FS) (H : Heap) (locs : List Loc) (ls : Array Slot) (hl : lv_has ls 3 [(0, .ref (ad 0)), (1, .int x1), (2, .int x2)]) (hP : va_P D kCl (wF cy ad hh aa pa u) H) (hD : va_D A (wF cy ad hh aa pa u)) (hS : va_S A s.heap H locs) (h1 : Ok (fX9_car_b0 x1 x2 u) K) :
    kWx p l e rmX9_car s m args below meth c H locs (va_Qi (fun r q => K (.inr r, q)) (fun q => kPost D A (wF cy ad hh aa pa q)) A) (vx_X (fun _ : FS => True) (fun E q t => K (.inl E, q) ∧ kPost D A (wF cy ad hh aa pa q) t) A) A 0 ls [] := by
  obtain ⟨hx, hb, hr, hml, hown, hts, hlocks, hK, hA⟩ := id E
  unfold fX9_car_b0 at h1
  refine lv_iload_n hx hb dX9_car_0 rfl (lv_at hl 1 rfl) ?_
  refine lv_if_lt (tgt := 17) hx hb dX9_car_1 (by decide) (fun c1 => ?_) (fun c1 => ?_)
  · replace h1 := Ok.pos c1 h1
    exact tX9_car_b17 K E hfl hex hZ u H locs ls (lv_sub hl [] rfl) hP hD hS h1
  · replace h1 := Ok.neg c1 h1
    refine lv_iload_n hx hb dX9_car_4 rfl (lv_at hl 1 rfl) ?_
    refine lv_aload_n hx hb dX9_car_5 rfl (lv_at hl 0 rfl) ?_
    refine k_get (v := .ref (hh 0)) (C := RX9) (T := TX9) (N := 9) hx hb hts inX9_car_X9 hown hK hP 0 (wF_c0 _ _ _ _ _ _) rfl 0 (by decide) lkX9_car_10 (fFs_0 _ _ _ _) dX9_car_6 ?_
    refine k_get (v := .ref ((aa 0) 0)) (C := RX8) (T := TX8) (N := 13) hx hb hts inX9_car_X8 hown hK hP 5 (wF_c5 _ _ _ _ _ _) rfl 0 (by decide) lkX9_car_87 (sFs_0 _ _) dX9_car_9 ?_
    refine lv_iconst (v := 3) hx hb dX9_car_12 rfl ?_
    refine k_iald (k := 3) hx hb hK hP 6 (wF_c6 _ _ _ _ _ _) rfl rfl dX9_car_13 ?_
    refine lv_icmp_lt (tgt := 27) hx hb dX9_car_14 (by decide) (fun c14 => ?_) (fun c14 => ?_)
    · replace h1 := Ok.pos c14 h1
      refine lv_iload_n hx hb dX9_car_27 rfl (lv_at hl 2 rfl) ?_
      refine lv_if_lt (tgt := 37) hx hb dX9_car_28 (by decide) (fun c28 => ?_) (fun c28 => ?_)
      · replace h1 := Ok.pos c28 h1
        exact tX9_car_b37 K E hfl hex hZ u H locs ls (lv_sub hl [] rfl) hP hD hS h1
      · replace h1 := Ok.neg c28 h1
        refine lv_iload_n hx hb dX9_car_31 rfl (lv_at hl 2 rfl) ?_
        refine lv_bipush (v := 7) hx hb dX9_car_32 rfl ?_
        refine lv_icmp_lt (tgt := 47) hx hb dX9_car_34 (by decide) (fun c34 => ?_) (fun c34 => ?_)
        · replace h1 := Ok.pos c34 h1
          refine lv_aload_n hx hb dX9_car_47 rfl (lv_at hl 0 rfl) ?_
          refine k_get (v := .ref (hh 0)) (C := RX9) (T := TX9) (N := 9) hx hb hts inX9_car_X9 hown hK hP 0 (wF_c0 _ _ _ _ _ _) rfl 0 (by decide) lkX9_car_10 (fFs_0 _ _ _ _) dX9_car_48 ?_
          refine lv_iload_n hx hb dX9_car_51 rfl (lv_at hl 1 rfl) ?_
          refine lv_iload_n hx hb dX9_car_52 rfl (lv_at hl 2 rfl) ?_
          refine kc_rV (b := (hh 0)) (As := [.int x1, .int x2]) (rest := []) h1 ⟨hx, hb, hml, hown, hts⟩ (cX8_carFactM l D cy (hh 0) (aa 0) H.size (fN u) x1 x2) (cwV 2 hts gX9_car_X8_carFact rfl rfl rfl hdX8_carFact ⟨Nat.le_of_ble_eq_true rfl, Nat.le_of_ble_eq_true rfl⟩) hK (wF_sel1 _ _ _ _ _ _) hP hD hS hA (q0 := 0) rfl rfl rfl hl.1 rfl (Nat.le_of_ble_eq_true rfl) dX9_car_53 ⟨Nat.zero_le _, Nat.zero_le _⟩ (fun r53 H locs h1 hP hS => ?_)
          exact kret_x hx hb hr hlocks hP hD hS h1 dX9_car_56
        · replace h1 := Ok.neg c34 h1
          exact tX9_car_b37 K E hfl hex hZ u H locs ls (lv_sub hl [] rfl) hP hD hS h1
    · replace h1 := Ok.neg c14 h1
      exact tX9_car_b17 K E hfl hex hZ u H locs ls (lv_sub hl [] rfl) hP hD hS h1
def fX9_car (p1 : Int32) (p2 : Int32) (u : FS) : Option ((String ⊕ Int32) × FS) := fX9_car_b0 p1 p2 u
set_option maxHeartbeats 4000000 in
set_option maxRecDepth 100000 in
theorem cX9_carM (l : Launch) (hfl : l.stackTraces = false) (D : va_G) (cy : Nat → ClassId) (za zv : Nat → Nat) (ad : Nat → Nat) (hh : Nat → Nat) (aa : Nat → Nat → Nat) (pa : Nat → Nat) (sz : Nat) (u : FS) (p1 : Int32) (p2 : Int32) : ∀ (K : (String ⊕ Int32) × FS → Prop), Ok (fX9_car p1 p2 u) K → vx_Met l yX9_car wsX9_car rmX9_car (va_Pc [.ref (ad 0), .int p1, .int p2] (kPreZ D cy za zv sz (wF cy ad hh aa pa u))) (va_Qi (fun r q => K (.inr r, q)) (fun q => kPost D (va_A (wF cy ad hh aa pa u) sz) (wF cy ad hh aa pa q)) (va_A (wF cy ad hh aa pa u) sz)) (vx_X (fun _ : FS => True) (fun E q t => K (.inl E, q) ∧ kPost D (va_A (wF cy ad hh aa pa u) sz) (wF cy ad hh aa pa q) t) (va_A (wF cy ad hh aa pa u) sz)) 1 6 (va_A (wF cy ad hh aa pa u) sz) := by
  intro K h1
  refine vx_ofW (cc := cX9_car) (maxL := 3) (ret := (some .int)) (by decide) rfl ?_
  intro p e s m args below meth c s₁ B hml hex hv
  obtain ⟨rfl, ⟨hsz, hP, hK, hD0⟩, hZ⟩ := hv
  subst hsz
  have E : mE D cy RX9 cX9_car 3 (some .int) wsX9_car (va_A (wF cy ad hh aa pa u) s.heap.size) p s m _ meth c := ⟨B.exec, B.bytes, B.returns, hml, findClass_of_methodNamed B.named, atoms_spec (ws := wsX9_car) B.pre, B.notSynchronized, hK, fun q h => Or.inr h⟩
  have hl := lv_entry ([.ref (ad 0), .int p1, .int p2]) (n := 3) (Nat.le_of_ble_eq_true rfl)
  rw [lg_entry_eq]
  generalize (lg_sl ([.ref (ad 0), .int p1, .int p2]) ++ List.replicate (3 - (lg_sl ([.ref (ad 0), .int p1, .int p2])).length) Slot.unset).toArray = ls at hl ⊢
  exact tX9_car_b0 K E hfl hex hZ p1 p2 u _ _ _ hl hP hD0.self va_S.rf h1
-- X9_standing
theorem xaX9_standing_123 : ∀ w ∈ (vx_atS RX9 123 "java/lang/IndexOutOfBoundsException" ["java/lang/RuntimeException", "java/lang/Exception"]).filter goodWord, w ∈ wsX9_standing := fun w h => List.mem_cons_of_mem _ (List.mem_append_right _ h)
theorem inX9_standing_X9 : ∀ w ∈ u_ws RX9 TX9 9, w ∈ wsX9_standing := k_lays 14 rfl
theorem lkX9_standing_10 : Cond.fieldLink RX9 10 "FerryRamp" "now" "LFerryRamp$State;" ∈ wsX9_standing := List.mem_of_getElem? (i := 3) rfl
abbrev rmX9_standing : Room := { frames := 6, cells := 1, slots := 6, locals := 90 }
def fX9_standing_b9 (u : FS) : Option ((String ⊕ Int32) × FS) :=
  some (.inl "java/lang/IndexOutOfBoundsException", u)
set_option maxHeartbeats 4000000 in
set_option maxRecDepth 100000 in
theorem tX9_standing_b9 {p : Program} {l : Launch} {e : Env} {s : State} {m : MethodId} {args : Array Value} {below : List Frame} {meth : Method} {c : Code} {D : va_G} {cy : Nat → ClassId} {A : Nat → Prop} {ad : Nat → Nat} {hh : Nat → Nat} {aa : Nat → Nat → Nat} {pa : Nat → Nat} {za zv : Nat → Nat} (K : (String ⊕ Int32) × FS → Prop) (E : mE D cy RX9 cX9_standing 3 (some .int) wsX9_standing A p s m args meth c) (hfl : l.stackTraces = false) (hex : ∀ x ∈ c.exceptionTable.toList, False) (hZ : mZ za zv A s s.heap)
     (u : FS) (H : Heap) (locs : List Loc) (ls : Array Slot) (hl : lv_has ls 3 []) (hP : va_P D kCl (wF cy ad hh aa pa u) H) (hD : va_D A (wF cy ad hh aa pa u)) (hS : va_S A s.heap H locs) (h1 : Ok (fX9_standing_b9 u) K) :
    kWx p l e rmX9_standing s m args below meth c H locs (va_Qi (fun r q => K (.inr r, q)) (fun q => kPost D A (wF cy ad hh aa pa q)) A) (vx_X (fun _ : FS => True) (fun E q t => K (.inl E, q) ∧ kPost D A (wF cy ad hh aa pa q) t) A) A 9 ls [] := by
  obtain ⟨hx, hb, hr, hml, hown, hts, hlocks, hK, hA⟩ := id E
  unfold fX9_standing_b9 at h1
  exact kx_throw (names := ["java/lang/RuntimeException", "java/lang/Exception"]) (text := "lane") (sa := za 5) hx hb hfl hml hown (by decide) (by decide) (hts _ (List.mem_of_getElem? (i := 1) rfl)) (hts _ (List.mem_of_getElem? (i := 2) rfl)) (k_site hZ 5 (by decide)) (vx_hat (fun w h => hts w (xaX9_standing_123 w h)) xbRX9_123 (hZ.cast (by decide))) xgRX9_119_123 hZ hK hP hD hS hl.1 dX9_standing_9 dX9_standing_12 dX9_standing_13 dX9_standing_15 dX9_standing_18 hex hlocks h1 (Nat.le_of_ble_eq_true rfl) (Nat.le_of_ble_eq_true rfl) (Nat.le_of_ble_eq_true rfl) (Nat.le_of_ble_eq_true rfl)
def fX9_standing_b0 (x1 : Int32) (x2 : Int32) (u : FS) : Option ((String ⊕ Int32) × FS) :=
  (if x1 < 0 then fX9_standing_b9 u else (if x1 < 3 then bnd (fX8_carOnDeck x1 x2 (fN u)) (fun r25 => some (.inr r25, u)) else fX9_standing_b9 u))
set_option maxHeartbeats 4000000 in
set_option maxRecDepth 100000 in
theorem tX9_standing_b0 {p : Program} {l : Launch} {e : Env} {s : State} {m : MethodId} {args : Array Value} {below : List Frame} {meth : Method} {c : Code} {D : va_G} {cy : Nat → ClassId} {A : Nat → Prop} {ad : Nat → Nat} {hh : Nat → Nat} {aa : Nat → Nat → Nat} {pa : Nat → Nat} {za zv : Nat → Nat} (K : (String ⊕ Int32) × FS → Prop) (E : mE D cy RX9 cX9_standing 3 (some .int) wsX9_standing A p s m args meth c) (hfl : l.stackTraces = false) (hex : ∀ x ∈ c.exceptionTable.toList, False) (hZ : mZ za zv A s s.heap)
     (x1 : Int32) (x2 : Int32) (u : FS) (H : Heap) (locs : List Loc) (ls : Array Slot) (hl : lv_has ls 3 [(0, .ref (ad 0)), (1, .int x1), (2, .int x2)]) (hP : va_P D kCl (wF cy ad hh aa pa u) H) (hD : va_D A (wF cy ad hh aa pa u)) (hS : va_S A s.heap H locs) (h1 : Ok (fX9_standing_b0 x1 x2 u) K) :
    kWx p l e rmX9_standing s m args below meth c H locs (va_Qi (fun r q => K (.inr r, q)) (fun q => kPost D A (wF cy ad hh aa pa q)) A) (vx_X (fun _ : FS => True) (fun E q t => K (.inl E, q) ∧ kPost D A (wF cy ad hh aa pa q) t) A) A 0 ls [] := by
  obtain ⟨hx, hb, hr, hml, hown, hts, hlocks, hK, hA⟩ := id E
  unfold fX9_standing_b0 at h1
  refine lv_iload_n hx hb dX9_standing_0 rfl (lv_at hl 1 rfl) ?_
  refine lv_if_lt (tgt := 9) hx hb dX9_standing_1 (by decide) (fun c1 => ?_) (fun c1 => ?_)
  · replace h1 := Ok.pos c1 h1
    exact tX9_standing_b9 K E hfl hex hZ u H locs ls (lv_sub hl [] rfl) hP hD hS h1
  · replace h1 := Ok.neg c1 h1
    refine lv_iload_n hx hb dX9_standing_4 rfl (lv_at hl 1 rfl) ?_
    refine lv_iconst (v := 3) hx hb dX9_standing_5 rfl ?_
    refine lv_icmp_lt (tgt := 19) hx hb dX9_standing_6 (by decide) (fun c6 => ?_) (fun c6 => ?_)
    · replace h1 := Ok.pos c6 h1
      refine lv_aload_n hx hb dX9_standing_19 rfl (lv_at hl 0 rfl) ?_
      refine k_get (v := .ref (hh 0)) (C := RX9) (T := TX9) (N := 9) hx hb hts inX9_standing_X9 hown hK hP 0 (wF_c0 _ _ _ _ _ _) rfl 0 (by decide) lkX9_standing_10 (fFs_0 _ _ _ _) dX9_standing_20 ?_
      refine lv_iload_n hx hb dX9_standing_23 rfl (lv_at hl 1 rfl) ?_
      refine lv_iload_n hx hb dX9_standing_24 rfl (lv_at hl 2 rfl) ?_
      refine kc_rV (b := (hh 0)) (As := [.int x1, .int x2]) (rest := []) h1 ⟨hx, hb, hml, hown, hts⟩ (cX8_carOnDeckM l D cy (hh 0) (aa 0) H.size (fN u) x1 x2) (cwV 2 hts gX9_standing_X8_carOnDeck rfl rfl rfl hdX8_carOnDeck ⟨Nat.le_of_ble_eq_true rfl, Nat.le_of_ble_eq_true rfl⟩) hK (wF_sel1 _ _ _ _ _ _) hP hD hS hA (q0 := 0) rfl rfl rfl hl.1 rfl (Nat.le_of_ble_eq_true rfl) dX9_standing_25 ⟨Nat.zero_le _, Nat.zero_le _⟩ (fun r25 H locs h1 hP hS => ?_)
      exact kret_x hx hb hr hlocks hP hD hS h1 dX9_standing_28
    · replace h1 := Ok.neg c6 h1
      exact tX9_standing_b9 K E hfl hex hZ u H locs ls (lv_sub hl [] rfl) hP hD hS h1
def fX9_standing (p1 : Int32) (p2 : Int32) (u : FS) : Option ((String ⊕ Int32) × FS) := fX9_standing_b0 p1 p2 u
set_option maxHeartbeats 4000000 in
set_option maxRecDepth 100000 in
theorem cX9_standingM (l : Launch) (hfl : l.stackTraces = false) (D : va_G) (cy : Nat → ClassId) (za zv : Nat → Nat) (ad : Nat → Nat) (hh : Nat → Nat) (aa : Nat → Nat → Nat) (pa : Nat → Nat) (sz : Nat) (u : FS) (p1 : Int32) (p2 : Int32) : ∀ (K : (String ⊕ Int32) × FS → Prop), Ok (fX9_standing p1 p2 u) K → vx_Met l yX9_standing wsX9_standing rmX9_standing (va_Pc [.ref (ad 0), .int p1, .int p2] (kPreZ D cy za zv sz (wF cy ad hh aa pa u))) (va_Qi (fun r q => K (.inr r, q)) (fun q => kPost D (va_A (wF cy ad hh aa pa u) sz) (wF cy ad hh aa pa q)) (va_A (wF cy ad hh aa pa u) sz)) (vx_X (fun _ : FS => True) (fun E q t => K (.inl E, q) ∧ kPost D (va_A (wF cy ad hh aa pa u) sz) (wF cy ad hh aa pa q) t) (va_A (wF cy ad hh aa pa u) sz)) 1 6 (va_A (wF cy ad hh aa pa u) sz) := by
  intro K h1
  refine vx_ofW (cc := cX9_standing) (maxL := 3) (ret := (some .int)) (by decide) rfl ?_
  intro p e s m args below meth c s₁ B hml hex hv
  obtain ⟨rfl, ⟨hsz, hP, hK, hD0⟩, hZ⟩ := hv
  subst hsz
  have E : mE D cy RX9 cX9_standing 3 (some .int) wsX9_standing (va_A (wF cy ad hh aa pa u) s.heap.size) p s m _ meth c := ⟨B.exec, B.bytes, B.returns, hml, findClass_of_methodNamed B.named, atoms_spec (ws := wsX9_standing) B.pre, B.notSynchronized, hK, fun q h => Or.inr h⟩
  have hl := lv_entry ([.ref (ad 0), .int p1, .int p2]) (n := 3) (Nat.le_of_ble_eq_true rfl)
  rw [lg_entry_eq]
  generalize (lg_sl ([.ref (ad 0), .int p1, .int p2]) ++ List.replicate (3 - (lg_sl ([.ref (ad 0), .int p1, .int p2])).length) Slot.unset).toArray = ls at hl ⊢
  exact tX9_standing_b0 K E hfl hex hZ p1 p2 u _ _ _ hl hP hD0.self va_S.rf h1
-- X9_lane
theorem xaX9_lane_123 : ∀ w ∈ (vx_atS RX9 123 "java/lang/IndexOutOfBoundsException" ["java/lang/RuntimeException", "java/lang/Exception"]).filter goodWord, w ∈ wsX9_lane := fun w h => List.mem_cons_of_mem _ (List.mem_append_right _ h)
theorem inX9_lane_X9 : ∀ w ∈ u_ws RX9 TX9 9, w ∈ wsX9_lane := k_lays 7 rfl
theorem lkX9_lane_10 : Cond.fieldLink RX9 10 "FerryRamp" "now" "LFerryRamp$State;" ∈ wsX9_lane := List.mem_of_getElem? (i := 3) rfl
theorem inX9_lane_X8 : ∀ w ∈ u_ws RX8 TX8 13, w ∈ wsX9_lane := k_lays 16 rfl
theorem lkX9_lane_152 : Cond.fieldLink RX9 152 "FerryRamp$State" "weights" "[I" ∈ wsX9_lane := List.mem_of_getElem? (i := 6) rfl
theorem lkX9_lane_116 : Cond.fieldLink RX9 116 "FerryRamp$State" "settings" "[I" ∈ wsX9_lane := List.mem_of_getElem? (i := 4) rfl
theorem lkX9_lane_149 : Cond.fieldLink RX9 149 "FerryRamp$State" "taken" "[I" ∈ wsX9_lane := List.mem_of_getElem? (i := 5) rfl
theorem wF_c14 (cy : Nat → ClassId) (ad : Nat → Nat) (hh : Nat → Nat) (aa : Nat → Nat → Nat) (pa : Nat → Nat) (u : FS) : (wF cy ad hh aa pa u)[14]? = some (((aa 0) 8), .inl (cy 0, 3, .inl (sN (fN u)))) := fl_atj (l := wFl cy ad hh aa pa u) (j := 1) (q := 9) rfl rfl rfl
abbrev rmX9_lane : Room := { frames := 6, cells := 1, slots := 6, locals := 90 }
def fX9_lane_b9 (u : FS) : Option ((String ⊕ Int32) × FS) :=
  some (.inl "java/lang/IndexOutOfBoundsException", u)
set_option maxHeartbeats 4000000 in
set_option maxRecDepth 100000 in
theorem tX9_lane_b9 {p : Program} {l : Launch} {e : Env} {s : State} {m : MethodId} {args : Array Value} {below : List Frame} {meth : Method} {c : Code} {D : va_G} {cy : Nat → ClassId} {A : Nat → Prop} {ad : Nat → Nat} {hh : Nat → Nat} {aa : Nat → Nat → Nat} {pa : Nat → Nat} {za zv : Nat → Nat} (K : (String ⊕ Int32) × FS → Prop) (E : mE D cy RX9 cX9_lane 3 (some .int) wsX9_lane A p s m args meth c) (hfl : l.stackTraces = false) (hex : ∀ x ∈ c.exceptionTable.toList, False) (hZ : mZ za zv A s s.heap)
     (u : FS) (H : Heap) (locs : List Loc) (ls : Array Slot) (hl : lv_has ls 3 []) (hP : va_P D kCl (wF cy ad hh aa pa u) H) (hD : va_D A (wF cy ad hh aa pa u)) (hS : va_S A s.heap H locs) (h1 : Ok (fX9_lane_b9 u) K) :
    kWx p l e rmX9_lane s m args below meth c H locs (va_Qi (fun r q => K (.inr r, q)) (fun q => kPost D A (wF cy ad hh aa pa q)) A) (vx_X (fun _ : FS => True) (fun E q t => K (.inl E, q) ∧ kPost D A (wF cy ad hh aa pa q) t) A) A 9 ls [] := by
  obtain ⟨hx, hb, hr, hml, hown, hts, hlocks, hK, hA⟩ := id E
  unfold fX9_lane_b9 at h1
  exact kx_throw (names := ["java/lang/RuntimeException", "java/lang/Exception"]) (text := "lane") (sa := za 5) hx hb hfl hml hown (by decide) (by decide) (hts _ (List.mem_of_getElem? (i := 1) rfl)) (hts _ (List.mem_of_getElem? (i := 2) rfl)) (k_site hZ 5 (by decide)) (vx_hat (fun w h => hts w (xaX9_lane_123 w h)) xbRX9_123 (hZ.cast (by decide))) xgRX9_119_123 hZ hK hP hD hS hl.1 dX9_lane_9 dX9_lane_12 dX9_lane_13 dX9_lane_15 dX9_lane_18 hex hlocks h1 (Nat.le_of_ble_eq_true rfl) (Nat.le_of_ble_eq_true rfl) (Nat.le_of_ble_eq_true rfl) (Nat.le_of_ble_eq_true rfl)
def fX9_lane_b0 (x1 : Int32) (x2 : Int32) (u : FS) : Option ((String ⊕ Int32) × FS) :=
  (if x1 < 0 then fX9_lane_b9 u else (if x1 < 3 then (if x2 = 0 then grd (inb x1 3) (some (.inr (sW (fN u) (ix x1)), u)) else grd (inb x1 3) (some (.inr ((sT (fN u) 6) - (sN (fN u) (ix x1))), u))) else fX9_lane_b9 u))
set_option maxHeartbeats 4000000 in
set_option maxRecDepth 100000 in
theorem tX9_lane_b0 {p : Program} {l : Launch} {e : Env} {s : State} {m : MethodId} {args : Array Value} {below : List Frame} {meth : Method} {c : Code} {D : va_G} {cy : Nat → ClassId} {A : Nat → Prop} {ad : Nat → Nat} {hh : Nat → Nat} {aa : Nat → Nat → Nat} {pa : Nat → Nat} {za zv : Nat → Nat} (K : (String ⊕ Int32) × FS → Prop) (E : mE D cy RX9 cX9_lane 3 (some .int) wsX9_lane A p s m args meth c) (hfl : l.stackTraces = false) (hex : ∀ x ∈ c.exceptionTable.toList, False) (hZ : mZ za zv A s s.heap)
     (x1 : Int32) (x2 : Int32) (u : FS) (H : Heap) (locs : List Loc) (ls : Array Slot) (hl : lv_has ls 3 [(0, .ref (ad 0)), (1, .int x1), (2, .int x2)]) (hP : va_P D kCl (wF cy ad hh aa pa u) H) (hD : va_D A (wF cy ad hh aa pa u)) (hS : va_S A s.heap H locs) (h1 : Ok (fX9_lane_b0 x1 x2 u) K) :
    kWx p l e rmX9_lane s m args below meth c H locs (va_Qi (fun r q => K (.inr r, q)) (fun q => kPost D A (wF cy ad hh aa pa q)) A) (vx_X (fun _ : FS => True) (fun E q t => K (.inl E, q) ∧ kPost D A (wF cy ad hh aa pa q) t) A) A 0 ls [] := by
  obtain ⟨hx, hb, hr, hml, hown, hts, hlocks, hK, hA⟩ := id E
  unfold fX9_lane_b0 at h1
  refine lv_iload_n hx hb dX9_lane_0 rfl (lv_at hl 1 rfl) ?_
  refine lv_if_lt (tgt := 9) hx hb dX9_lane_1 (by decide) (fun c1 => ?_) (fun c1 => ?_)
  · replace h1 := Ok.pos c1 h1
    exact tX9_lane_b9 K E hfl hex hZ u H locs ls (lv_sub hl [] rfl) hP hD hS h1
  · replace h1 := Ok.neg c1 h1
    refine lv_iload_n hx hb dX9_lane_4 rfl (lv_at hl 1 rfl) ?_
    refine lv_iconst (v := 3) hx hb dX9_lane_5 rfl ?_
    refine lv_icmp_lt (tgt := 19) hx hb dX9_lane_6 (by decide) (fun c6 => ?_) (fun c6 => ?_)
    · replace h1 := Ok.pos c6 h1
      refine lv_iload_n hx hb dX9_lane_19 rfl (lv_at hl 2 rfl) ?_
      refine lv_if_eq (tgt := 46) hx hb dX9_lane_20 (by decide) (fun c20 => ?_) (fun c20 => ?_)
      · replace h1 := Ok.pos c20 h1
        refine lv_aload_n hx hb dX9_lane_46 rfl (lv_at hl 0 rfl) ?_
        refine k_get (v := .ref (hh 0)) (C := RX9) (T := TX9) (N := 9) hx hb hts inX9_lane_X9 hown hK hP 0 (wF_c0 _ _ _ _ _ _) rfl 0 (by decide) lkX9_lane_10 (fFs_0 _ _ _ _) dX9_lane_47 ?_
        refine k_get (v := .ref ((aa 0) 7)) (C := RX8) (T := TX8) (N := 13) hx hb hts inX9_lane_X8 hown hK hP 5 (wF_c5 _ _ _ _ _ _) rfl 7 (by decide) lkX9_lane_152 (sFs_7 _ _) dX9_lane_50 ?_
        refine lv_iload_n hx hb dX9_lane_53 rfl (lv_at hl 1 rfl) ?_
        have g54 := h1.grd1
        replace h1 := h1.grd2
        refine k_iald (k := (ix x1)) hx hb hK hP 13 (wF_c13 _ _ _ _ _ _) g54 rfl dX9_lane_54 ?_
        exact kret_x hx hb hr hlocks hP hD hS h1 dX9_lane_55
      · replace h1 := Ok.neg c20 h1
        refine lv_aload_n hx hb dX9_lane_23 rfl (lv_at hl 0 rfl) ?_
        refine k_get (v := .ref (hh 0)) (C := RX9) (T := TX9) (N := 9) hx hb hts inX9_lane_X9 hown hK hP 0 (wF_c0 _ _ _ _ _ _) rfl 0 (by decide) lkX9_lane_10 (fFs_0 _ _ _ _) dX9_lane_24 ?_
        refine k_get (v := .ref ((aa 0) 1)) (C := RX8) (T := TX8) (N := 13) hx hb hts inX9_lane_X8 hown hK hP 5 (wF_c5 _ _ _ _ _ _) rfl 1 (by decide) lkX9_lane_116 (sFs_1 _ _) dX9_lane_27 ?_
        refine lv_bipush (v := 6) hx hb dX9_lane_30 rfl ?_
        refine k_iald (k := 6) hx hb hK hP 7 (wF_c7 _ _ _ _ _ _) rfl rfl dX9_lane_32 ?_
        refine lv_aload_n hx hb dX9_lane_33 rfl (lv_at hl 0 rfl) ?_
        refine k_get (v := .ref (hh 0)) (C := RX9) (T := TX9) (N := 9) hx hb hts inX9_lane_X9 hown hK hP 0 (wF_c0 _ _ _ _ _ _) rfl 0 (by decide) lkX9_lane_10 (fFs_0 _ _ _ _) dX9_lane_34 ?_
        refine k_get (v := .ref ((aa 0) 8)) (C := RX8) (T := TX8) (N := 13) hx hb hts inX9_lane_X8 hown hK hP 5 (wF_c5 _ _ _ _ _ _) rfl 8 (by decide) lkX9_lane_149 (sFs_8 _ _) dX9_lane_37 ?_
        refine lv_iload_n hx hb dX9_lane_40 rfl (lv_at hl 1 rfl) ?_
        have g41 := h1.grd1
        replace h1 := h1.grd2
        refine k_iald (k := (ix x1)) hx hb hK hP 14 (wF_c14 _ _ _ _ _ _) g41 rfl dX9_lane_41 ?_
        refine lv_isub hx hb dX9_lane_42 ?_
        refine lv_goto (tgt := 55) hx hb dX9_lane_43 (by decide) ?_
        exact kret_x hx hb hr hlocks hP hD hS h1 dX9_lane_55
    · replace h1 := Ok.neg c6 h1
      exact tX9_lane_b9 K E hfl hex hZ u H locs ls (lv_sub hl [] rfl) hP hD hS h1
def fX9_lane (p1 : Int32) (p2 : Int32) (u : FS) : Option ((String ⊕ Int32) × FS) := fX9_lane_b0 p1 p2 u
set_option maxHeartbeats 4000000 in
set_option maxRecDepth 100000 in
theorem cX9_laneM (l : Launch) (hfl : l.stackTraces = false) (D : va_G) (cy : Nat → ClassId) (za zv : Nat → Nat) (ad : Nat → Nat) (hh : Nat → Nat) (aa : Nat → Nat → Nat) (pa : Nat → Nat) (sz : Nat) (u : FS) (p1 : Int32) (p2 : Int32) : ∀ (K : (String ⊕ Int32) × FS → Prop), Ok (fX9_lane p1 p2 u) K → vx_Met l yX9_lane wsX9_lane rmX9_lane (va_Pc [.ref (ad 0), .int p1, .int p2] (kPreZ D cy za zv sz (wF cy ad hh aa pa u))) (va_Qi (fun r q => K (.inr r, q)) (fun q => kPost D (va_A (wF cy ad hh aa pa u) sz) (wF cy ad hh aa pa q)) (va_A (wF cy ad hh aa pa u) sz)) (vx_X (fun _ : FS => True) (fun E q t => K (.inl E, q) ∧ kPost D (va_A (wF cy ad hh aa pa u) sz) (wF cy ad hh aa pa q) t) (va_A (wF cy ad hh aa pa u) sz)) 1 6 (va_A (wF cy ad hh aa pa u) sz) := by
  intro K h1
  refine vx_ofW (cc := cX9_lane) (maxL := 3) (ret := (some .int)) (by decide) rfl ?_
  intro p e s m args below meth c s₁ B hml hex hv
  obtain ⟨rfl, ⟨hsz, hP, hK, hD0⟩, hZ⟩ := hv
  subst hsz
  have E : mE D cy RX9 cX9_lane 3 (some .int) wsX9_lane (va_A (wF cy ad hh aa pa u) s.heap.size) p s m _ meth c := ⟨B.exec, B.bytes, B.returns, hml, findClass_of_methodNamed B.named, atoms_spec (ws := wsX9_lane) B.pre, B.notSynchronized, hK, fun q h => Or.inr h⟩
  have hl := lv_entry ([.ref (ad 0), .int p1, .int p2]) (n := 3) (Nat.le_of_ble_eq_true rfl)
  rw [lg_entry_eq]
  generalize (lg_sl ([.ref (ad 0), .int p1, .int p2]) ++ List.replicate (3 - (lg_sl ([.ref (ad 0), .int p1, .int p2])).length) Slot.unset).toArray = ls at hl ⊢
  exact tX9_lane_b0 K E hfl hex hZ p1 p2 u _ _ _ hl hP hD0.self va_S.rf h1
-- X9_call
theorem inX9_call_X9 : ∀ w ∈ u_ws RX9 TX9 9, w ∈ wsX9_call := k_lays 12 rfl
theorem lkX9_call_10 : Cond.fieldLink RX9 10 "FerryRamp" "now" "LFerryRamp$State;" ∈ wsX9_call := List.mem_of_getElem? (i := 5) rfl
theorem inX9_call_X8 : ∀ w ∈ u_ws RX8 TX8 13, w ∈ wsX9_call := k_lays 21 rfl
theorem lkX9_call_87 : Cond.fieldLink RX9 87 "FerryRamp$State" "counts" "[I" ∈ wsX9_call := List.mem_of_getElem? (i := 6) rfl
theorem xaX9_call_123 : ∀ w ∈ (vx_atS RX9 123 "java/lang/IndexOutOfBoundsException" ["java/lang/RuntimeException", "java/lang/Exception"]).filter goodWord, w ∈ wsX9_call := fun w h => List.mem_cons_of_mem _ (List.mem_append_left _ (List.mem_append_right _ h))
theorem xaX9_call_75 : ∀ w ∈ (vx_atS RX9 75 "java/lang/IllegalArgumentException" ["java/lang/RuntimeException", "java/lang/Exception"]).filter goodWord, w ∈ wsX9_call := fun w h => List.mem_cons_of_mem _ (List.mem_append_right _ h)
theorem lkX9_call_159 : Cond.fieldLink RX9 159 "FerryRamp$State" "calls" "[I" ∈ wsX9_call := List.mem_of_getElem? (i := 7) rfl
theorem wF_c15 (cy : Nat → ClassId) (ad : Nat → Nat) (hh : Nat → Nat) (aa : Nat → Nat → Nat) (pa : Nat → Nat) (u : FS) : (wF cy ad hh aa pa u)[15]? = some (((aa 0) 9), .inl (cy 0, 80, .inl (sL (fN u)))) := fl_atj (l := wFl cy ad hh aa pa u) (j := 1) (q := 10) rfl rfl rfl
abbrev rmX9_call : Room := { frames := 6, cells := 1, slots := 6, locals := 90 }
def fX9_call_b26 (u : FS) : Option ((String ⊕ Int32) × FS) :=
  some (.inl "java/lang/IndexOutOfBoundsException", u)
set_option maxHeartbeats 4000000 in
set_option maxRecDepth 100000 in
theorem tX9_call_b26 {p : Program} {l : Launch} {e : Env} {s : State} {m : MethodId} {args : Array Value} {below : List Frame} {meth : Method} {c : Code} {D : va_G} {cy : Nat → ClassId} {A : Nat → Prop} {ad : Nat → Nat} {hh : Nat → Nat} {aa : Nat → Nat → Nat} {pa : Nat → Nat} {za zv : Nat → Nat} (K : (String ⊕ Int32) × FS → Prop) (E : mE D cy RX9 cX9_call 4 (some .int) wsX9_call A p s m args meth c) (hfl : l.stackTraces = false) (hex : ∀ x ∈ c.exceptionTable.toList, False) (hZ : mZ za zv A s s.heap)
     (u : FS) (H : Heap) (locs : List Loc) (ls : Array Slot) (hl : lv_has ls 4 []) (hP : va_P D kCl (wF cy ad hh aa pa u) H) (hD : va_D A (wF cy ad hh aa pa u)) (hS : va_S A s.heap H locs) (h1 : Ok (fX9_call_b26 u) K) :
    kWx p l e rmX9_call s m args below meth c H locs (va_Qi (fun r q => K (.inr r, q)) (fun q => kPost D A (wF cy ad hh aa pa q)) A) (vx_X (fun _ : FS => True) (fun E q t => K (.inl E, q) ∧ kPost D A (wF cy ad hh aa pa q) t) A) A 26 ls [] := by
  obtain ⟨hx, hb, hr, hml, hown, hts, hlocks, hK, hA⟩ := id E
  unfold fX9_call_b26 at h1
  exact kx_throw (names := ["java/lang/RuntimeException", "java/lang/Exception"]) (text := "call") (sa := za 6) hx hb hfl hml hown (by decide) (by decide) (hts _ (List.mem_of_getElem? (i := 1) rfl)) (hts _ (List.mem_of_getElem? (i := 2) rfl)) (k_site hZ 6 (by decide)) (vx_hat (fun w h => hts w (xaX9_call_123 w h)) xbRX9_123 (hZ.cast (by decide))) xgRX9_119_123 hZ hK hP hD hS hl.1 dX9_call_26 dX9_call_29 dX9_call_30 dX9_call_32 dX9_call_35 hex hlocks h1 (Nat.le_of_ble_eq_true rfl) (Nat.le_of_ble_eq_true rfl) (Nat.le_of_ble_eq_true rfl) (Nat.le_of_ble_eq_true rfl)
def fX9_call_b45 (u : FS) : Option ((String ⊕ Int32) × FS) :=
  some (.inl "java/lang/IllegalArgumentException", u)
set_option maxHeartbeats 4000000 in
set_option maxRecDepth 100000 in
theorem tX9_call_b45 {p : Program} {l : Launch} {e : Env} {s : State} {m : MethodId} {args : Array Value} {below : List Frame} {meth : Method} {c : Code} {D : va_G} {cy : Nat → ClassId} {A : Nat → Prop} {ad : Nat → Nat} {hh : Nat → Nat} {aa : Nat → Nat → Nat} {pa : Nat → Nat} {za zv : Nat → Nat} (K : (String ⊕ Int32) × FS → Prop) (E : mE D cy RX9 cX9_call 4 (some .int) wsX9_call A p s m args meth c) (hfl : l.stackTraces = false) (hex : ∀ x ∈ c.exceptionTable.toList, False) (hZ : mZ za zv A s s.heap)
     (u : FS) (H : Heap) (locs : List Loc) (ls : Array Slot) (hl : lv_has ls 4 []) (hP : va_P D kCl (wF cy ad hh aa pa u) H) (hD : va_D A (wF cy ad hh aa pa u)) (hS : va_S A s.heap H locs) (h1 : Ok (fX9_call_b45 u) K) :
    kWx p l e rmX9_call s m args below meth c H locs (va_Qi (fun r q => K (.inr r, q)) (fun q => kPost D A (wF cy ad hh aa pa q)) A) (vx_X (fun _ : FS => True) (fun E q t => K (.inl E, q) ∧ kPost D A (wF cy ad hh aa pa q) t) A) A 45 ls [] := by
  obtain ⟨hx, hb, hr, hml, hown, hts, hlocks, hK, hA⟩ := id E
  unfold fX9_call_b45 at h1
  exact kx_throw (names := ["java/lang/RuntimeException", "java/lang/Exception"]) (text := "what") (sa := za 2) hx hb hfl hml hown (by decide) (by decide) (hts _ (List.mem_of_getElem? (i := 3) rfl)) (hts _ (List.mem_of_getElem? (i := 4) rfl)) (k_site hZ 2 (by decide)) (vx_hat (fun w h => hts w (xaX9_call_75 w h)) xbRX9_75 (hZ.cast (by decide))) xgRX9_72_75 hZ hK hP hD hS hl.1 dX9_call_45 dX9_call_48 dX9_call_49 dX9_call_51 dX9_call_54 hex hlocks h1 (Nat.le_of_ble_eq_true rfl) (Nat.le_of_ble_eq_true rfl) (Nat.le_of_ble_eq_true rfl) (Nat.le_of_ble_eq_true rfl)
def fX9_call_b0 (x1 : Int32) (x2 : Int32) (u : FS) : Option ((String ⊕ Int32) × FS) :=
  (if x1 < 0 then fX9_call_b26 u else (if (sC (fN u) 12) ≤ x1 then fX9_call_b26 u else (if x1 < 20 then (if x2 < 0 then fX9_call_b45 u else (if x2 < 4 then bnd (fX9_at ((((((sC (fN u) 12) - 1) - x1) - (((sC (fN u) 12) - 1) - x1) / 20 * 20) * 4) + x2) 80 (sL (fN u))) (fun r74 => some (.inr r74, u)) else fX9_call_b45 u)) else fX9_call_b26 u)))
set_option maxHeartbeats 4000000 in
set_option maxRecDepth 100000 in
theorem tX9_call_b0 {p : Program} {l : Launch} {e : Env} {s : State} {m : MethodId} {args : Array Value} {below : List Frame} {meth : Method} {c : Code} {D : va_G} {cy : Nat → ClassId} {A : Nat → Prop} {ad : Nat → Nat} {hh : Nat → Nat} {aa : Nat → Nat → Nat} {pa : Nat → Nat} {za zv : Nat → Nat} (K : (String ⊕ Int32) × FS → Prop) (E : mE D cy RX9 cX9_call 4 (some .int) wsX9_call A p s m args meth c) (hfl : l.stackTraces = false) (hex : ∀ x ∈ c.exceptionTable.toList, False) (hZ : mZ za zv A s s.heap)
     (x1 : Int32) (x2 : Int32) (u : FS) (H : Heap) (locs : List Loc) (ls : Array Slot) (hl : lv_has ls 4 [(0, .ref (ad 0)), (1, .int x1), (2, .int x2)]) (hP : va_P D kCl (wF cy ad hh aa pa u) H) (hD : va_D A (wF cy ad hh aa pa u)) (hS : va_S A s.heap H locs) (h1 : Ok (fX9_call_b0 x1 x2 u) K) :
    kWx p l e rmX9_call s m args below meth c H locs (va_Qi (fun r q => K (.inr r, q)) (fun q => kPost D A (wF cy ad hh aa pa q)) A) (vx_X (fun _ : FS => True) (fun E q t => K (.inl E, q) ∧ kPost D A (wF cy ad hh aa pa q) t) A) A 0 ls [] := by
  obtain ⟨hx, hb, hr, hml, hown, hts, hlocks, hK, hA⟩ := id E
  unfold fX9_call_b0 at h1
  refine lv_aload_n hx hb dX9_call_0 rfl (lv_at hl 0 rfl) ?_
  refine k_get (v := .ref (hh 0)) (C := RX9) (T := TX9) (N := 9) hx hb hts inX9_call_X9 hown hK hP 0 (wF_c0 _ _ _ _ _ _) rfl 0 (by decide) lkX9_call_10 (fFs_0 _ _ _ _) dX9_call_1 ?_
  refine k_get (v := .ref ((aa 0) 0)) (C := RX8) (T := TX8) (N := 13) hx hb hts inX9_call_X8 hown hK hP 5 (wF_c5 _ _ _ _ _ _) rfl 0 (by decide) lkX9_call_87 (sFs_0 _ _) dX9_call_4 ?_
  refine lv_bipush (v := 12) hx hb dX9_call_7 rfl ?_
  refine k_iald (k := 12) hx hb hK hP 6 (wF_c6 _ _ _ _ _ _) rfl rfl dX9_call_9 ?_
  refine lv_istore_n (lv' := [(3, .int (sC (fN u) 12)), (0, .ref (ad 0)), (1, .int x1), (2, .int x2)]) hx hb dX9_call_10 rfl hl (by decide) rfl (fun ls hl => ?_)
  refine lv_iload_n hx hb dX9_call_11 rfl (lv_at hl 2 rfl) ?_
  refine lv_if_lt (tgt := 26) hx hb dX9_call_12 (by decide) (fun c12 => ?_) (fun c12 => ?_)
  · replace h1 := Ok.pos c12 h1
    exact tX9_call_b26 K E hfl hex hZ u H locs ls (lv_sub hl [] rfl) hP hD hS h1
  · replace h1 := Ok.neg c12 h1
    refine lv_iload_n hx hb dX9_call_15 rfl (lv_at hl 2 rfl) ?_
    refine lv_iload_n hx hb dX9_call_16 rfl (lv_at hl 0 rfl) ?_
    refine lv_icmp_ge (tgt := 26) hx hb dX9_call_17 (by decide) (fun c17 => ?_) (fun c17 => ?_)
    · replace h1 := Ok.pos c17 h1
      exact tX9_call_b26 K E hfl hex hZ u H locs ls (lv_sub hl [] rfl) hP hD hS h1
    · replace h1 := Ok.neg c17 h1
      refine lv_iload_n hx hb dX9_call_20 rfl (lv_at hl 2 rfl) ?_
      refine lv_bipush (v := 20) hx hb dX9_call_21 rfl ?_
      refine lv_icmp_lt (tgt := 36) hx hb dX9_call_23 (by decide) (fun c23 => ?_) (fun c23 => ?_)
      · replace h1 := Ok.pos c23 h1
        refine lv_iload_n hx hb dX9_call_36 rfl (lv_at hl 3 rfl) ?_
        refine lv_if_lt (tgt := 45) hx hb dX9_call_37 (by decide) (fun c37 => ?_) (fun c37 => ?_)
        · replace h1 := Ok.pos c37 h1
          exact tX9_call_b45 K E hfl hex hZ u H locs ls (lv_sub hl [] rfl) hP hD hS h1
        · replace h1 := Ok.neg c37 h1
          refine lv_iload_n hx hb dX9_call_40 rfl (lv_at hl 3 rfl) ?_
          refine lv_iconst (v := 4) hx hb dX9_call_41 rfl ?_
          refine lv_icmp_lt (tgt := 55) hx hb dX9_call_42 (by decide) (fun c42 => ?_) (fun c42 => ?_)
          · replace h1 := Ok.pos c42 h1
            refine lv_aload_n hx hb dX9_call_55 rfl (lv_at hl 1 rfl) ?_
            refine k_get (v := .ref (hh 0)) (C := RX9) (T := TX9) (N := 9) hx hb hts inX9_call_X9 hown hK hP 0 (wF_c0 _ _ _ _ _ _) rfl 0 (by decide) lkX9_call_10 (fFs_0 _ _ _ _) dX9_call_56 ?_
            refine k_get (v := .ref ((aa 0) 9)) (C := RX8) (T := TX8) (N := 13) hx hb hts inX9_call_X8 hown hK hP 5 (wF_c5 _ _ _ _ _ _) rfl 9 (by decide) lkX9_call_159 (sFs_9 _ _) dX9_call_59 ?_
            refine lv_iload_n hx hb dX9_call_62 rfl (lv_at hl 0 rfl) ?_
            refine lv_iconst (v := 1) hx hb dX9_call_63 rfl ?_
            refine lv_isub hx hb dX9_call_64 ?_
            refine lv_iload_n hx hb dX9_call_65 rfl (lv_at hl 2 rfl) ?_
            refine lv_isub hx hb dX9_call_66 ?_
            refine lv_bipush (v := 20) hx hb dX9_call_67 rfl ?_
            refine lv_irem hx hb dX9_call_69 (by decide) ?_
            refine lv_iconst (v := 4) hx hb dX9_call_70 rfl ?_
            refine lv_imul hx hb dX9_call_71 ?_
            refine lv_iload_n hx hb dX9_call_72 rfl (lv_at hl 3 rfl) ?_
            refine lv_iadd hx hb dX9_call_73 ?_
            refine kc_rS (As := [.ref ((aa 0) 9), .int ((((((sC (fN u) 12) - 1) - x1) - (((sC (fN u) 12) - 1) - x1) / 20 * 20) * 4) + x2)]) (rest := []) h1 ⟨hx, hb, hml, hown, hts⟩ (cX9_atM l D cy ((aa 0) 9) H.size 80 (sL (fN u)) ((((((sC (fN u) 12) - 1) - x1) - (((sC (fN u) 12) - 1) - x1) / 20 * 20) * 4) + x2)) (va_cwS 2 hts gX9_call_X9_at rfl rfl rfl heX9_at ⟨Nat.le_of_ble_eq_true rfl, Nat.le_of_ble_eq_true rfl⟩) hK (k_pick (k := 15) (wF_c15 _ _ _ _ _ _)) hP hD hS hA rfl hl.1 rfl (Nat.le_of_ble_eq_true rfl) dX9_call_74 ⟨Nat.zero_le _, Nat.zero_le _⟩ (fun r74 H locs h1 hP hS => ?_)
            exact kret_x hx hb hr hlocks hP hD hS h1 dX9_call_77
          · replace h1 := Ok.neg c42 h1
            exact tX9_call_b45 K E hfl hex hZ u H locs ls (lv_sub hl [] rfl) hP hD hS h1
      · replace h1 := Ok.neg c23 h1
        exact tX9_call_b26 K E hfl hex hZ u H locs ls (lv_sub hl [] rfl) hP hD hS h1
def fX9_call (p1 : Int32) (p2 : Int32) (u : FS) : Option ((String ⊕ Int32) × FS) := fX9_call_b0 p1 p2 u
set_option maxHeartbeats 4000000 in
set_option maxRecDepth 100000 in
theorem cX9_callM (l : Launch) (hfl : l.stackTraces = false) (D : va_G) (cy : Nat → ClassId) (za zv : Nat → Nat) (ad : Nat → Nat) (hh : Nat → Nat) (aa : Nat → Nat → Nat) (pa : Nat → Nat) (sz : Nat) (u : FS) (p1 : Int32) (p2 : Int32) : ∀ (K : (String ⊕ Int32) × FS → Prop), Ok (fX9_call p1 p2 u) K → vx_Met l yX9_call wsX9_call rmX9_call (va_Pc [.ref (ad 0), .int p1, .int p2] (kPreZ D cy za zv sz (wF cy ad hh aa pa u))) (va_Qi (fun r q => K (.inr r, q)) (fun q => kPost D (va_A (wF cy ad hh aa pa u) sz) (wF cy ad hh aa pa q)) (va_A (wF cy ad hh aa pa u) sz)) (vx_X (fun _ : FS => True) (fun E q t => K (.inl E, q) ∧ kPost D (va_A (wF cy ad hh aa pa u) sz) (wF cy ad hh aa pa q) t) (va_A (wF cy ad hh aa pa u) sz)) 1 6 (va_A (wF cy ad hh aa pa u) sz) := by
  intro K h1
  refine vx_ofW (cc := cX9_call) (maxL := 4) (ret := (some .int)) (by decide) rfl ?_
  intro p e s m args below meth c s₁ B hml hex hv
  obtain ⟨rfl, ⟨hsz, hP, hK, hD0⟩, hZ⟩ := hv
  subst hsz
  have E : mE D cy RX9 cX9_call 4 (some .int) wsX9_call (va_A (wF cy ad hh aa pa u) s.heap.size) p s m _ meth c := ⟨B.exec, B.bytes, B.returns, hml, findClass_of_methodNamed B.named, atoms_spec (ws := wsX9_call) B.pre, B.notSynchronized, hK, fun q h => Or.inr h⟩
  have hl := lv_entry ([.ref (ad 0), .int p1, .int p2]) (n := 4) (Nat.le_of_ble_eq_true rfl)
  rw [lg_entry_eq]
  generalize (lg_sl ([.ref (ad 0), .int p1, .int p2]) ++ List.replicate (4 - (lg_sl ([.ref (ad 0), .int p1, .int p2])).length) Slot.unset).toArray = ls at hl ⊢
  exact tX9_call_b0 K E hfl hex hZ p1 p2 u _ _ _ hl hP hD0.self va_S.rf h1
-- X9_tide
theorem inX9_tide_X9 : ∀ w ∈ u_ws RX9 TX9 9, w ∈ wsX9_tide := k_lays 10 rfl
theorem lkX9_tide_10 : Cond.fieldLink RX9 10 "FerryRamp" "now" "LFerryRamp$State;" ∈ wsX9_tide := List.mem_of_getElem? (i := 3) rfl
theorem xaX9_tide_75 : ∀ w ∈ (vx_atS RX9 75 "java/lang/IllegalArgumentException" ["java/lang/RuntimeException", "java/lang/Exception"]).filter goodWord, w ∈ wsX9_tide := fun w h => List.mem_cons_of_mem _ (List.mem_append_right _ h)
abbrev rmX9_tide : Room := { frames := 6, cells := 1, slots := 6, locals := 90 }
def fX9_tide_b0 (x1 : Int32) (u : FS) : Option ((String ⊕ Int32) × FS) :=
  (if 0 ≤ x1 then bnd (fX8_tideAt x1 (fN u)) (fun r19 => some (.inr r19, u)) else some (.inl "java/lang/IllegalArgumentException", u))
set_option maxHeartbeats 4000000 in
set_option maxRecDepth 100000 in
theorem tX9_tide_b0 {p : Program} {l : Launch} {e : Env} {s : State} {m : MethodId} {args : Array Value} {below : List Frame} {meth : Method} {c : Code} {D : va_G} {cy : Nat → ClassId} {A : Nat → Prop} {ad : Nat → Nat} {hh : Nat → Nat} {aa : Nat → Nat → Nat} {pa : Nat → Nat} {za zv : Nat → Nat} (K : (String ⊕ Int32) × FS → Prop) (E : mE D cy RX9 cX9_tide 2 (some .int) wsX9_tide A p s m args meth c) (hfl : l.stackTraces = false) (hex : ∀ x ∈ c.exceptionTable.toList, False) (hZ : mZ za zv A s s.heap)
     (x1 : Int32) (u : FS) (H : Heap) (locs : List Loc) (ls : Array Slot) (hl : lv_has ls 2 [(0, .ref (ad 0)), (1, .int x1)]) (hP : va_P D kCl (wF cy ad hh aa pa u) H) (hD : va_D A (wF cy ad hh aa pa u)) (hS : va_S A s.heap H locs) (h1 : Ok (fX9_tide_b0 x1 u) K) :
    kWx p l e rmX9_tide s m args below meth c H locs (va_Qi (fun r q => K (.inr r, q)) (fun q => kPost D A (wF cy ad hh aa pa q)) A) (vx_X (fun _ : FS => True) (fun E q t => K (.inl E, q) ∧ kPost D A (wF cy ad hh aa pa q) t) A) A 0 ls [] := by
  obtain ⟨hx, hb, hr, hml, hown, hts, hlocks, hK, hA⟩ := id E
  unfold fX9_tide_b0 at h1
  refine lv_iload_n hx hb dX9_tide_0 rfl (lv_at hl 1 rfl) ?_
  refine lv_if_ge (tgt := 14) hx hb dX9_tide_1 (by decide) (fun c1 => ?_) (fun c1 => ?_)
  · replace h1 := Ok.pos c1 h1
    refine lv_aload_n hx hb dX9_tide_14 rfl (lv_at hl 0 rfl) ?_
    refine k_get (v := .ref (hh 0)) (C := RX9) (T := TX9) (N := 9) hx hb hts inX9_tide_X9 hown hK hP 0 (wF_c0 _ _ _ _ _ _) rfl 0 (by decide) lkX9_tide_10 (fFs_0 _ _ _ _) dX9_tide_15 ?_
    refine lv_iload_n hx hb dX9_tide_18 rfl (lv_at hl 1 rfl) ?_
    refine kc_rV (b := (hh 0)) (As := [.int x1]) (rest := []) h1 ⟨hx, hb, hml, hown, hts⟩ (cX8_tideAtM l D cy (hh 0) (aa 0) H.size (fN u) x1) (cwV 1 hts gX9_tide_X8_tideAt rfl rfl rfl hdX8_tideAt ⟨Nat.le_of_ble_eq_true rfl, Nat.le_of_ble_eq_true rfl⟩) hK (wF_sel1 _ _ _ _ _ _) hP hD hS hA (q0 := 0) rfl rfl rfl hl.1 rfl (Nat.le_of_ble_eq_true rfl) dX9_tide_19 ⟨Nat.zero_le _, Nat.zero_le _⟩ (fun r19 H locs h1 hP hS => ?_)
    exact kret_x hx hb hr hlocks hP hD hS h1 dX9_tide_22
  · replace h1 := Ok.neg c1 h1
    exact kx_throw (names := ["java/lang/RuntimeException", "java/lang/Exception"]) (text := "time") (sa := za 7) hx hb hfl hml hown (by decide) (by decide) (hts _ (List.mem_of_getElem? (i := 1) rfl)) (hts _ (List.mem_of_getElem? (i := 2) rfl)) (k_site hZ 7 (by decide)) (vx_hat (fun w h => hts w (xaX9_tide_75 w h)) xbRX9_75 (hZ.cast (by decide))) xgRX9_72_75 hZ hK hP hD hS hl.1 dX9_tide_4 dX9_tide_7 dX9_tide_8 dX9_tide_10 dX9_tide_13 hex hlocks h1 (Nat.le_of_ble_eq_true rfl) (Nat.le_of_ble_eq_true rfl) (Nat.le_of_ble_eq_true rfl) (Nat.le_of_ble_eq_true rfl)
def fX9_tide (p1 : Int32) (u : FS) : Option ((String ⊕ Int32) × FS) := fX9_tide_b0 p1 u
set_option maxHeartbeats 4000000 in
set_option maxRecDepth 100000 in
theorem cX9_tideM (l : Launch) (hfl : l.stackTraces = false) (D : va_G) (cy : Nat → ClassId) (za zv : Nat → Nat) (ad : Nat → Nat) (hh : Nat → Nat) (aa : Nat → Nat → Nat) (pa : Nat → Nat) (sz : Nat) (u : FS) (p1 : Int32) : ∀ (K : (String ⊕ Int32) × FS → Prop), Ok (fX9_tide p1 u) K → vx_Met l yX9_tide wsX9_tide rmX9_tide (va_Pc [.ref (ad 0), .int p1] (kPreZ D cy za zv sz (wF cy ad hh aa pa u))) (va_Qi (fun r q => K (.inr r, q)) (fun q => kPost D (va_A (wF cy ad hh aa pa u) sz) (wF cy ad hh aa pa q)) (va_A (wF cy ad hh aa pa u) sz)) (vx_X (fun _ : FS => True) (fun E q t => K (.inl E, q) ∧ kPost D (va_A (wF cy ad hh aa pa u) sz) (wF cy ad hh aa pa q) t) (va_A (wF cy ad hh aa pa u) sz)) 1 6 (va_A (wF cy ad hh aa pa u) sz) := by
  intro K h1
  refine vx_ofW (cc := cX9_tide) (maxL := 2) (ret := (some .int)) (by decide) rfl ?_
  intro p e s m args below meth c s₁ B hml hex hv
  obtain ⟨rfl, ⟨hsz, hP, hK, hD0⟩, hZ⟩ := hv
  subst hsz
  have E : mE D cy RX9 cX9_tide 2 (some .int) wsX9_tide (va_A (wF cy ad hh aa pa u) s.heap.size) p s m _ meth c := ⟨B.exec, B.bytes, B.returns, hml, findClass_of_methodNamed B.named, atoms_spec (ws := wsX9_tide) B.pre, B.notSynchronized, hK, fun q h => Or.inr h⟩
  have hl := lv_entry ([.ref (ad 0), .int p1]) (n := 2) (Nat.le_of_ble_eq_true rfl)
  rw [lg_entry_eq]
  generalize (lg_sl ([.ref (ad 0), .int p1]) ++ List.replicate (2 - (lg_sl ([.ref (ad 0), .int p1])).length) Slot.unset).toArray = ls at hl ⊢
  exact tX9_tide_b0 K E hfl hex hZ p1 u _ _ _ hl hP hD0.self va_S.rf h1
-- X9_deck
theorem inX9_deck_X9 : ∀ w ∈ u_ws RX9 TX9 9, w ∈ wsX9_deck := k_lays 15 rfl
theorem lkX9_deck_10 : Cond.fieldLink RX9 10 "FerryRamp" "now" "LFerryRamp$State;" ∈ wsX9_deck := List.mem_of_getElem? (i := 3) rfl
theorem xaX9_deck_75 : ∀ w ∈ (vx_atS RX9 75 "java/lang/IllegalArgumentException" ["java/lang/RuntimeException", "java/lang/Exception"]).filter goodWord, w ∈ wsX9_deck := fun w h => List.mem_cons_of_mem _ (List.mem_append_right _ h)
abbrev rmX9_deck : Room := { frames := 6, cells := 1, slots := 6, locals := 90 }
def fX9_deck_b0 (x1 : Int32) (u : FS) : Option ((String ⊕ Int32) × FS) :=
  (if 0 ≤ x1 then bnd (fX8_deckAt x1 (fN u)) (fun r19 => some (.inr r19, u)) else some (.inl "java/lang/IllegalArgumentException", u))
set_option maxHeartbeats 4000000 in
set_option maxRecDepth 100000 in
theorem tX9_deck_b0 {p : Program} {l : Launch} {e : Env} {s : State} {m : MethodId} {args : Array Value} {below : List Frame} {meth : Method} {c : Code} {D : va_G} {cy : Nat → ClassId} {A : Nat → Prop} {ad : Nat → Nat} {hh : Nat → Nat} {aa : Nat → Nat → Nat} {pa : Nat → Nat} {za zv : Nat → Nat} (K : (String ⊕ Int32) × FS → Prop) (E : mE D cy RX9 cX9_deck 2 (some .int) wsX9_deck A p s m args meth c) (hfl : l.stackTraces = false) (hex : ∀ x ∈ c.exceptionTable.toList, False) (hZ : mZ za zv A s s.heap)
     (x1 : Int32) (u : FS) (H : Heap) (locs : List Loc) (ls : Array Slot) (hl : lv_has ls 2 [(0, .ref (ad 0)), (1, .int x1)]) (hP : va_P D kCl (wF cy ad hh aa pa u) H) (hD : va_D A (wF cy ad hh aa pa u)) (hS : va_S A s.heap H locs) (h1 : Ok (fX9_deck_b0 x1 u) K) :
    kWx p l e rmX9_deck s m args below meth c H locs (va_Qi (fun r q => K (.inr r, q)) (fun q => kPost D A (wF cy ad hh aa pa q)) A) (vx_X (fun _ : FS => True) (fun E q t => K (.inl E, q) ∧ kPost D A (wF cy ad hh aa pa q) t) A) A 0 ls [] := by
  obtain ⟨hx, hb, hr, hml, hown, hts, hlocks, hK, hA⟩ := id E
  unfold fX9_deck_b0 at h1
  refine lv_iload_n hx hb dX9_deck_0 rfl (lv_at hl 1 rfl) ?_
  refine lv_if_ge (tgt := 14) hx hb dX9_deck_1 (by decide) (fun c1 => ?_) (fun c1 => ?_)
  · replace h1 := Ok.pos c1 h1
    refine lv_aload_n hx hb dX9_deck_14 rfl (lv_at hl 0 rfl) ?_
    refine k_get (v := .ref (hh 0)) (C := RX9) (T := TX9) (N := 9) hx hb hts inX9_deck_X9 hown hK hP 0 (wF_c0 _ _ _ _ _ _) rfl 0 (by decide) lkX9_deck_10 (fFs_0 _ _ _ _) dX9_deck_15 ?_
    refine lv_iload_n hx hb dX9_deck_18 rfl (lv_at hl 1 rfl) ?_
    refine kc_rV (b := (hh 0)) (As := [.int x1]) (rest := []) h1 ⟨hx, hb, hml, hown, hts⟩ (cX8_deckAtM l D cy (hh 0) (aa 0) H.size (fN u) x1) (cwV 1 hts gX9_deck_X8_deckAt rfl rfl rfl hdX8_deckAt ⟨Nat.le_of_ble_eq_true rfl, Nat.le_of_ble_eq_true rfl⟩) hK (wF_sel1 _ _ _ _ _ _) hP hD hS hA (q0 := 0) rfl rfl rfl hl.1 rfl (Nat.le_of_ble_eq_true rfl) dX9_deck_19 ⟨Nat.zero_le _, Nat.zero_le _⟩ (fun r19 H locs h1 hP hS => ?_)
    exact kret_x hx hb hr hlocks hP hD hS h1 dX9_deck_22
  · replace h1 := Ok.neg c1 h1
    exact kx_throw (names := ["java/lang/RuntimeException", "java/lang/Exception"]) (text := "time") (sa := za 7) hx hb hfl hml hown (by decide) (by decide) (hts _ (List.mem_of_getElem? (i := 1) rfl)) (hts _ (List.mem_of_getElem? (i := 2) rfl)) (k_site hZ 7 (by decide)) (vx_hat (fun w h => hts w (xaX9_deck_75 w h)) xbRX9_75 (hZ.cast (by decide))) xgRX9_72_75 hZ hK hP hD hS hl.1 dX9_deck_4 dX9_deck_7 dX9_deck_8 dX9_deck_10 dX9_deck_13 hex hlocks h1 (Nat.le_of_ble_eq_true rfl) (Nat.le_of_ble_eq_true rfl) (Nat.le_of_ble_eq_true rfl) (Nat.le_of_ble_eq_true rfl)
def fX9_deck (p1 : Int32) (u : FS) : Option ((String ⊕ Int32) × FS) := fX9_deck_b0 p1 u
set_option maxHeartbeats 4000000 in
set_option maxRecDepth 100000 in
theorem cX9_deckM (l : Launch) (hfl : l.stackTraces = false) (D : va_G) (cy : Nat → ClassId) (za zv : Nat → Nat) (ad : Nat → Nat) (hh : Nat → Nat) (aa : Nat → Nat → Nat) (pa : Nat → Nat) (sz : Nat) (u : FS) (p1 : Int32) : ∀ (K : (String ⊕ Int32) × FS → Prop), Ok (fX9_deck p1 u) K → vx_Met l yX9_deck wsX9_deck rmX9_deck (va_Pc [.ref (ad 0), .int p1] (kPreZ D cy za zv sz (wF cy ad hh aa pa u))) (va_Qi (fun r q => K (.inr r, q)) (fun q => kPost D (va_A (wF cy ad hh aa pa u) sz) (wF cy ad hh aa pa q)) (va_A (wF cy ad hh aa pa u) sz)) (vx_X (fun _ : FS => True) (fun E q t => K (.inl E, q) ∧ kPost D (va_A (wF cy ad hh aa pa u) sz) (wF cy ad hh aa pa q) t) (va_A (wF cy ad hh aa pa u) sz)) 1 6 (va_A (wF cy ad hh aa pa u) sz) := by
  intro K h1
  refine vx_ofW (cc := cX9_deck) (maxL := 2) (ret := (some .int)) (by decide) rfl ?_
  intro p e s m args below meth c s₁ B hml hex hv
  obtain ⟨rfl, ⟨hsz, hP, hK, hD0⟩, hZ⟩ := hv
  subst hsz
  have E : mE D cy RX9 cX9_deck 2 (some .int) wsX9_deck (va_A (wF cy ad hh aa pa u) s.heap.size) p s m _ meth c := ⟨B.exec, B.bytes, B.returns, hml, findClass_of_methodNamed B.named, atoms_spec (ws := wsX9_deck) B.pre, B.notSynchronized, hK, fun q h => Or.inr h⟩
  have hl := lv_entry ([.ref (ad 0), .int p1]) (n := 2) (Nat.le_of_ble_eq_true rfl)
  rw [lg_entry_eq]
  generalize (lg_sl ([.ref (ad 0), .int p1]) ++ List.replicate (2 - (lg_sl ([.ref (ad 0), .int p1])).length) Slot.unset).toArray = ls at hl ⊢
  exact tX9_deck_b0 K E hfl hex hZ p1 u _ _ _ hl hP hD0.self va_S.rf h1
-- X9_whyNot
theorem inX9_whyNot_X9 : ∀ w ∈ u_ws RX9 TX9 9, w ∈ wsX9_whyNot := k_lays 38 rfl
theorem lkX9_whyNot_10 : Cond.fieldLink RX9 10 "FerryRamp" "now" "LFerryRamp$State;" ∈ wsX9_whyNot := List.mem_of_getElem? (i := 3) rfl
theorem xaX9_whyNot_123 : ∀ w ∈ (vx_atS RX9 123 "java/lang/IndexOutOfBoundsException" ["java/lang/RuntimeException", "java/lang/Exception"]).filter goodWord, w ∈ wsX9_whyNot := fun w h => List.mem_cons_of_mem _ (List.mem_append_right _ h)
abbrev rmX9_whyNot : Room := { frames := 6, cells := 1, slots := 6, locals := 90 }
def fX9_whyNot_b0 (x1 : Int32) (u : FS) : Option ((String ⊕ Int32) × FS) :=
  bnd (fX8_placeOf x1 (fN u)) (fun r5 => (if r5 = (-1) then some (.inl "java/lang/IndexOutOfBoundsException", u) else bnd (fX8_reasonFor x1 (fN u)) (fun r27 => some (.inr r27, u))))
set_option maxHeartbeats 4000000 in
set_option maxRecDepth 100000 in
theorem tX9_whyNot_b0 {p : Program} {l : Launch} {e : Env} {s : State} {m : MethodId} {args : Array Value} {below : List Frame} {meth : Method} {c : Code} {D : va_G} {cy : Nat → ClassId} {A : Nat → Prop} {ad : Nat → Nat} {hh : Nat → Nat} {aa : Nat → Nat → Nat} {pa : Nat → Nat} {za zv : Nat → Nat} (K : (String ⊕ Int32) × FS → Prop) (E : mE D cy RX9 cX9_whyNot 2 (some .int) wsX9_whyNot A p s m args meth c) (hfl : l.stackTraces = false) (hex : ∀ x ∈ c.exceptionTable.toList, False) (hZ : mZ za zv A s s.heap)
     (x1 : Int32) (u : FS) (H : Heap) (locs : List Loc) (ls : Array Slot) (hl : lv_has ls 2 [(0, .ref (ad 0)), (1, .int x1)]) (hP : va_P D kCl (wF cy ad hh aa pa u) H) (hD : va_D A (wF cy ad hh aa pa u)) (hS : va_S A s.heap H locs) (h1 : Ok (fX9_whyNot_b0 x1 u) K) :
    kWx p l e rmX9_whyNot s m args below meth c H locs (va_Qi (fun r q => K (.inr r, q)) (fun q => kPost D A (wF cy ad hh aa pa q)) A) (vx_X (fun _ : FS => True) (fun E q t => K (.inl E, q) ∧ kPost D A (wF cy ad hh aa pa q) t) A) A 0 ls [] := by
  obtain ⟨hx, hb, hr, hml, hown, hts, hlocks, hK, hA⟩ := id E
  unfold fX9_whyNot_b0 at h1
  refine lv_aload_n hx hb dX9_whyNot_0 rfl (lv_at hl 0 rfl) ?_
  refine k_get (v := .ref (hh 0)) (C := RX9) (T := TX9) (N := 9) hx hb hts inX9_whyNot_X9 hown hK hP 0 (wF_c0 _ _ _ _ _ _) rfl 0 (by decide) lkX9_whyNot_10 (fFs_0 _ _ _ _) dX9_whyNot_1 ?_
  refine lv_iload_n hx hb dX9_whyNot_4 rfl (lv_at hl 1 rfl) ?_
  refine kc_rV (b := (hh 0)) (As := [.int x1]) (rest := []) h1 ⟨hx, hb, hml, hown, hts⟩ (cX8_placeOfM l D cy (hh 0) (aa 0) H.size (fN u) x1) (cwV 1 hts gX9_whyNot_X8_placeOf rfl rfl rfl hdX8_placeOf ⟨Nat.le_of_ble_eq_true rfl, Nat.le_of_ble_eq_true rfl⟩) hK (wF_sel1 _ _ _ _ _ _) hP hD hS hA (q0 := 0) rfl rfl rfl hl.1 rfl (Nat.le_of_ble_eq_true rfl) dX9_whyNot_5 ⟨Nat.zero_le _, Nat.zero_le _⟩ (fun r5 H locs h1 hP hS => ?_)
  refine lv_iconst (v := (-1)) hx hb dX9_whyNot_8 rfl ?_
  refine lv_icmp_ne (tgt := 22) hx hb dX9_whyNot_9 (by decide) (fun c9 => ?_) (fun c9 => ?_)
  · replace h1 := Ok.neg c9 h1
    refine lv_aload_n hx hb dX9_whyNot_22 rfl (lv_at hl 0 rfl) ?_
    refine k_get (v := .ref (hh 0)) (C := RX9) (T := TX9) (N := 9) hx hb hts inX9_whyNot_X9 hown hK hP 0 (wF_c0 _ _ _ _ _ _) rfl 0 (by decide) lkX9_whyNot_10 (fFs_0 _ _ _ _) dX9_whyNot_23 ?_
    refine lv_iload_n hx hb dX9_whyNot_26 rfl (lv_at hl 1 rfl) ?_
    refine kc_rV (b := (hh 0)) (As := [.int x1]) (rest := []) h1 ⟨hx, hb, hml, hown, hts⟩ (cX8_reasonForM l D cy (hh 0) (aa 0) H.size (fN u) x1) (cwV 1 hts gX9_whyNot_X8_reasonFor rfl rfl rfl hdX8_reasonFor ⟨Nat.le_of_ble_eq_true rfl, Nat.le_of_ble_eq_true rfl⟩) hK (wF_sel1 _ _ _ _ _ _) hP hD hS hA (q0 := 0) rfl rfl rfl hl.1 rfl (Nat.le_of_ble_eq_true rfl) dX9_whyNot_27 ⟨Nat.zero_le _, Nat.zero_le _⟩ (fun r27 H locs h1 hP hS => ?_)
    exact kret_x hx hb hr hlocks hP hD hS h1 dX9_whyNot_30
  · replace h1 := Ok.pos c9 h1
    exact kx_throw (names := ["java/lang/RuntimeException", "java/lang/Exception"]) (text := "car") (sa := za 4) hx hb hfl hml hown (by decide) (by decide) (hts _ (List.mem_of_getElem? (i := 1) rfl)) (hts _ (List.mem_of_getElem? (i := 2) rfl)) (k_site hZ 4 (by decide)) (vx_hat (fun w h => hts w (xaX9_whyNot_123 w h)) xbRX9_123 (hZ.cast (by decide))) xgRX9_119_123 hZ hK hP hD hS hl.1 dX9_whyNot_12 dX9_whyNot_15 dX9_whyNot_16 dX9_whyNot_18 dX9_whyNot_21 hex hlocks h1 (Nat.le_of_ble_eq_true rfl) (Nat.le_of_ble_eq_true rfl) (Nat.le_of_ble_eq_true rfl) (Nat.le_of_ble_eq_true rfl)
def fX9_whyNot (p1 : Int32) (u : FS) : Option ((String ⊕ Int32) × FS) := fX9_whyNot_b0 p1 u
set_option maxHeartbeats 4000000 in
set_option maxRecDepth 100000 in
theorem cX9_whyNotM (l : Launch) (hfl : l.stackTraces = false) (D : va_G) (cy : Nat → ClassId) (za zv : Nat → Nat) (ad : Nat → Nat) (hh : Nat → Nat) (aa : Nat → Nat → Nat) (pa : Nat → Nat) (sz : Nat) (u : FS) (p1 : Int32) : ∀ (K : (String ⊕ Int32) × FS → Prop), Ok (fX9_whyNot p1 u) K → vx_Met l yX9_whyNot wsX9_whyNot rmX9_whyNot (va_Pc [.ref (ad 0), .int p1] (kPreZ D cy za zv sz (wF cy ad hh aa pa u))) (va_Qi (fun r q => K (.inr r, q)) (fun q => kPost D (va_A (wF cy ad hh aa pa u) sz) (wF cy ad hh aa pa q)) (va_A (wF cy ad hh aa pa u) sz)) (vx_X (fun _ : FS => True) (fun E q t => K (.inl E, q) ∧ kPost D (va_A (wF cy ad hh aa pa u) sz) (wF cy ad hh aa pa q) t) (va_A (wF cy ad hh aa pa u) sz)) 1 6 (va_A (wF cy ad hh aa pa u) sz) := by
  intro K h1
  refine vx_ofW (cc := cX9_whyNot) (maxL := 2) (ret := (some .int)) (by decide) rfl ?_
  intro p e s m args below meth c s₁ B hml hex hv
  obtain ⟨rfl, ⟨hsz, hP, hK, hD0⟩, hZ⟩ := hv
  subst hsz
  have E : mE D cy RX9 cX9_whyNot 2 (some .int) wsX9_whyNot (va_A (wF cy ad hh aa pa u) s.heap.size) p s m _ meth c := ⟨B.exec, B.bytes, B.returns, hml, findClass_of_methodNamed B.named, atoms_spec (ws := wsX9_whyNot) B.pre, B.notSynchronized, hK, fun q h => Or.inr h⟩
  have hl := lv_entry ([.ref (ad 0), .int p1]) (n := 2) (Nat.le_of_ble_eq_true rfl)
  rw [lg_entry_eq]
  generalize (lg_sl ([.ref (ad 0), .int p1]) ++ List.replicate (2 - (lg_sl ([.ref (ad 0), .int p1])).length) Slot.unset).toArray = ls at hl ⊢
  exact tX9_whyNot_b0 K E hfl hex hZ p1 u _ _ _ hl hP hD0.self va_S.rf h1
-- X9_boardIn
theorem xaX9_boardIn_75 : ∀ w ∈ (vx_atS RX9 75 "java/lang/IllegalArgumentException" ["java/lang/RuntimeException", "java/lang/Exception"]).filter goodWord, w ∈ wsX9_boardIn := fun w h => List.mem_cons_of_mem _ (List.mem_append_right _ h)
theorem inX9_boardIn_X9 : ∀ w ∈ u_ws RX9 TX9 9, w ∈ wsX9_boardIn := k_lays 116 rfl
theorem lkX9_boardIn_16 : Cond.fieldLink RX9 16 "FerryRamp" "trial" "LFerryRamp$State;" ∈ wsX9_boardIn := List.mem_of_getElem? (i := 3) rfl
theorem lkX9_boardIn_10 : Cond.fieldLink RX9 10 "FerryRamp" "now" "LFerryRamp$State;" ∈ wsX9_boardIn := List.mem_of_getElem? (i := 4) rfl
abbrev rmX9_boardIn : Room := { frames := 6, cells := 1, slots := 6, locals := 121 }
def fX9_boardIn_b12 (u : FS) : Option ((String ⊕ Int32) × FS) :=
  some (.inl "java/lang/IllegalArgumentException", u)
set_option maxHeartbeats 4000000 in
set_option maxRecDepth 100000 in
theorem tX9_boardIn_b12 {p : Program} {l : Launch} {e : Env} {s : State} {m : MethodId} {args : Array Value} {below : List Frame} {meth : Method} {c : Code} {D : va_G} {cy : Nat → ClassId} {A : Nat → Prop} {ad : Nat → Nat} {hh : Nat → Nat} {aa : Nat → Nat → Nat} {pa : Nat → Nat} {za zv : Nat → Nat} (K : (String ⊕ Int32) × FS → Prop) (E : mE D cy RX9 cX9_boardIn 2 (some .int) wsX9_boardIn A p s m args meth c) (hfl : l.stackTraces = false) (hex : ∀ x ∈ c.exceptionTable.toList, False) (hZ : mZ za zv A s s.heap)
     (u : FS) (H : Heap) (locs : List Loc) (ls : Array Slot) (hl : lv_has ls 2 []) (hP : va_P D kCl (wF cy ad hh aa pa u) H) (hD : va_D A (wF cy ad hh aa pa u)) (hS : va_S A s.heap H locs) (h1 : Ok (fX9_boardIn_b12 u) K) :
    kWx p l e rmX9_boardIn s m args below meth c H locs (va_Qi (fun r q => K (.inr r, q)) (fun q => kPost D A (wF cy ad hh aa pa q)) A) (vx_X (fun _ : FS => True) (fun E q t => K (.inl E, q) ∧ kPost D A (wF cy ad hh aa pa q) t) A) A 12 ls [] := by
  obtain ⟨hx, hb, hr, hml, hown, hts, hlocks, hK, hA⟩ := id E
  unfold fX9_boardIn_b12 at h1
  exact kx_throw (names := ["java/lang/RuntimeException", "java/lang/Exception"]) (text := "ticks") (sa := za 8) hx hb hfl hml hown (by decide) (by decide) (hts _ (List.mem_of_getElem? (i := 1) rfl)) (hts _ (List.mem_of_getElem? (i := 2) rfl)) (k_site hZ 8 (by decide)) (vx_hat (fun w h => hts w (xaX9_boardIn_75 w h)) xbRX9_75 (hZ.cast (by decide))) xgRX9_72_75 hZ hK hP hD hS hl.1 dX9_boardIn_12 dX9_boardIn_15 dX9_boardIn_16 dX9_boardIn_18 dX9_boardIn_21 hex hlocks h1 (Nat.le_of_ble_eq_true rfl) (Nat.le_of_ble_eq_true rfl) (Nat.le_of_ble_eq_true rfl) (Nat.le_of_ble_eq_true rfl)
def fX9_boardIn_b0 (x1 : Int32) (u : FS) : Option ((String ⊕ Int32) × FS) :=
  (if x1 < 1 then fX9_boardIn_b12 u else (if x1 ≤ 200 then bnd (fX8_copyFrom (fT u) (fN u)) (fun u30 => bnd2 (fX8_passTicks x1 (fT (gT u u30))) (fun r38 u38 => some (.inr r38, gT (gT u u30) u38))) else fX9_boardIn_b12 u))
set_option maxHeartbeats 4000000 in
set_option maxRecDepth 100000 in
theorem tX9_boardIn_b0 {p : Program} {l : Launch} {e : Env} {s : State} {m : MethodId} {args : Array Value} {below : List Frame} {meth : Method} {c : Code} {D : va_G} {cy : Nat → ClassId} {A : Nat → Prop} {ad : Nat → Nat} {hh : Nat → Nat} {aa : Nat → Nat → Nat} {pa : Nat → Nat} {za zv : Nat → Nat} (K : (String ⊕ Int32) × FS → Prop) (E : mE D cy RX9 cX9_boardIn 2 (some .int) wsX9_boardIn A p s m args meth c) (hfl : l.stackTraces = false) (hex : ∀ x ∈ c.exceptionTable.toList, False) (hZ : mZ za zv A s s.heap)
     (x1 : Int32) (u : FS) (H : Heap) (locs : List Loc) (ls : Array Slot) (hl : lv_has ls 2 [(0, .ref (ad 0)), (1, .int x1)]) (hP : va_P D kCl (wF cy ad hh aa pa u) H) (hD : va_D A (wF cy ad hh aa pa u)) (hS : va_S A s.heap H locs) (h1 : Ok (fX9_boardIn_b0 x1 u) K) :
    kWx p l e rmX9_boardIn s m args below meth c H locs (va_Qi (fun r q => K (.inr r, q)) (fun q => kPost D A (wF cy ad hh aa pa q)) A) (vx_X (fun _ : FS => True) (fun E q t => K (.inl E, q) ∧ kPost D A (wF cy ad hh aa pa q) t) A) A 0 ls [] := by
  obtain ⟨hx, hb, hr, hml, hown, hts, hlocks, hK, hA⟩ := id E
  unfold fX9_boardIn_b0 at h1
  refine lv_iload_n hx hb dX9_boardIn_0 rfl (lv_at hl 1 rfl) ?_
  refine lv_iconst (v := 1) hx hb dX9_boardIn_1 rfl ?_
  refine lv_icmp_lt (tgt := 12) hx hb dX9_boardIn_2 (by decide) (fun c2 => ?_) (fun c2 => ?_)
  · replace h1 := Ok.pos c2 h1
    exact tX9_boardIn_b12 K E hfl hex hZ u H locs ls (lv_sub hl [] rfl) hP hD hS h1
  · replace h1 := Ok.neg c2 h1
    refine lv_iload_n hx hb dX9_boardIn_5 rfl (lv_at hl 1 rfl) ?_
    refine lv_sipush (v := 200) hx hb dX9_boardIn_6 rfl ?_
    refine lv_icmp_le (tgt := 22) hx hb dX9_boardIn_9 (by decide) (fun c9 => ?_) (fun c9 => ?_)
    · replace h1 := Ok.pos c9 h1
      refine lv_aload_n hx hb dX9_boardIn_22 rfl (lv_at hl 0 rfl) ?_
      refine k_get (v := .ref (hh 1)) (C := RX9) (T := TX9) (N := 9) hx hb hts inX9_boardIn_X9 hown hK hP 0 (wF_c0 _ _ _ _ _ _) rfl 1 (by decide) lkX9_boardIn_16 (fFs_1 _ _ _ _) dX9_boardIn_23 ?_
      refine lv_aload_n hx hb dX9_boardIn_26 rfl (lv_at hl 0 rfl) ?_
      refine k_get (v := .ref (hh 0)) (C := RX9) (T := TX9) (N := 9) hx hb hts inX9_boardIn_X9 hown hK hP 0 (wF_c0 _ _ _ _ _ _) rfl 0 (by decide) lkX9_boardIn_10 (fFs_0 _ _ _ _) dX9_boardIn_27 ?_
      refine kc_vV (b := (hh 1)) (As := [.ref (hh 0)]) (rest := []) h1 ⟨hx, hb, hml, hown, hts⟩ (cX8_copyFromM l D cy (hh 1) (aa 1) (hh 0) (aa 0) H.size (fT u) (fN u)) (cwV 1 hts gX9_boardIn_X8_copyFrom rfl rfl rfl hdX8_copyFrom ⟨Nat.le_of_ble_eq_true rfl, Nat.le_of_ble_eq_true rfl⟩) hK (wF_sel2_1 _ _ _ _ _ _) hP hD hS hA (q0 := 0) rfl rfl rfl hl.1 rfl (Nat.le_of_ble_eq_true rfl) dX9_boardIn_30 ⟨Nat.zero_le _, Nat.zero_le _⟩ (fun u30 H locs h1 hP hD hS => ?_)
      replace hP := kP_perm (wF_uns2_1_0 cy ad hh aa pa u u30).symm hP
      replace hD := kD_perm (wF_uns2_1_0 cy ad hh aa pa u u30).symm hD
      refine lv_aload_n hx hb dX9_boardIn_33 rfl (lv_at hl 0 rfl) ?_
      refine k_get (v := .ref (hh 1)) (C := RX9) (T := TX9) (N := 9) hx hb hts inX9_boardIn_X9 hown hK hP 0 (wF_c0 _ _ _ _ _ _) rfl 1 (by decide) lkX9_boardIn_16 (fFs_1 _ _ _ _) dX9_boardIn_34 ?_
      refine lv_iload_n hx hb dX9_boardIn_37 rfl (lv_at hl 1 rfl) ?_
      refine kc_iV (b := (hh 1)) (As := [.int x1]) (rest := []) h1 ⟨hx, hb, hml, hown, hts⟩ (cX8_passTicksM l D cy (hh 1) (aa 1) H.size (fT (gT u u30)) x1) (cwV 1 hts gX9_boardIn_X8_passTicks rfl rfl rfl hdX8_passTicks ⟨Nat.le_of_ble_eq_true rfl, Nat.le_of_ble_eq_true rfl⟩) hK (wF_sel2 _ _ _ _ _ _) hP hD hS hA (q0 := 0) rfl rfl rfl hl.1 rfl (Nat.le_of_ble_eq_true rfl) dX9_boardIn_38 ⟨Nat.zero_le _, Nat.zero_le _⟩ (fun r38 u38 H locs h1 hP hD hS => ?_)
      replace hP := kP_perm (wF_uns2_0 cy ad hh aa pa (gT u u30) u38).symm hP
      replace hD := kD_perm (wF_uns2_0 cy ad hh aa pa (gT u u30) u38).symm hD
      exact kret_x hx hb hr hlocks hP hD hS h1 dX9_boardIn_41
    · replace h1 := Ok.neg c9 h1
      exact tX9_boardIn_b12 K E hfl hex hZ u H locs ls (lv_sub hl [] rfl) hP hD hS h1
def fX9_boardIn (p1 : Int32) (u : FS) : Option ((String ⊕ Int32) × FS) := fX9_boardIn_b0 p1 u
set_option maxHeartbeats 4000000 in
set_option maxRecDepth 100000 in
theorem cX9_boardInM (l : Launch) (hfl : l.stackTraces = false) (D : va_G) (cy : Nat → ClassId) (za zv : Nat → Nat) (ad : Nat → Nat) (hh : Nat → Nat) (aa : Nat → Nat → Nat) (pa : Nat → Nat) (sz : Nat) (u : FS) (p1 : Int32) : ∀ (K : (String ⊕ Int32) × FS → Prop), Ok (fX9_boardIn p1 u) K → vx_Met l yX9_boardIn wsX9_boardIn rmX9_boardIn (va_Pc [.ref (ad 0), .int p1] (kPreZ D cy za zv sz (wF cy ad hh aa pa u))) (va_Qi (fun r q => K (.inr r, q)) (fun q => kPost D (va_A (wF cy ad hh aa pa u) sz) (wF cy ad hh aa pa q)) (va_A (wF cy ad hh aa pa u) sz)) (vx_X (fun _ : FS => True) (fun E q t => K (.inl E, q) ∧ kPost D (va_A (wF cy ad hh aa pa u) sz) (wF cy ad hh aa pa q) t) (va_A (wF cy ad hh aa pa u) sz)) 1 6 (va_A (wF cy ad hh aa pa u) sz) := by
  intro K h1
  refine vx_ofW (cc := cX9_boardIn) (maxL := 2) (ret := (some .int)) (by decide) rfl ?_
  intro p e s m args below meth c s₁ B hml hex hv
  obtain ⟨rfl, ⟨hsz, hP, hK, hD0⟩, hZ⟩ := hv
  subst hsz
  have E : mE D cy RX9 cX9_boardIn 2 (some .int) wsX9_boardIn (va_A (wF cy ad hh aa pa u) s.heap.size) p s m _ meth c := ⟨B.exec, B.bytes, B.returns, hml, findClass_of_methodNamed B.named, atoms_spec (ws := wsX9_boardIn) B.pre, B.notSynchronized, hK, fun q h => Or.inr h⟩
  have hl := lv_entry ([.ref (ad 0), .int p1]) (n := 2) (Nat.le_of_ble_eq_true rfl)
  rw [lg_entry_eq]
  generalize (lg_sl ([.ref (ad 0), .int p1]) ++ List.replicate (2 - (lg_sl ([.ref (ad 0), .int p1])).length) Slot.unset).toArray = ls at hl ⊢
  exact tX9_boardIn_b0 K E hfl hex hZ p1 u _ _ _ hl hP hD0.self va_S.rf h1
-- X9_easyIn
theorem xaX9_easyIn_123 : ∀ w ∈ (vx_atS RX9 123 "java/lang/IndexOutOfBoundsException" ["java/lang/RuntimeException", "java/lang/Exception"]).filter goodWord, w ∈ wsX9_easyIn := fun w h => List.mem_cons_of_mem _ (List.mem_append_right _ h)
theorem inX9_easyIn_X9 : ∀ w ∈ u_ws RX9 TX9 9, w ∈ wsX9_easyIn := k_lays 119 rfl
theorem lkX9_easyIn_16 : Cond.fieldLink RX9 16 "FerryRamp" "trial" "LFerryRamp$State;" ∈ wsX9_easyIn := List.mem_of_getElem? (i := 3) rfl
theorem lkX9_easyIn_10 : Cond.fieldLink RX9 10 "FerryRamp" "now" "LFerryRamp$State;" ∈ wsX9_easyIn := List.mem_of_getElem? (i := 4) rfl
theorem inX9_easyIn_X8 : ∀ w ∈ u_ws RX8 TX8 13, w ∈ wsX9_easyIn := k_lays 128 rfl
theorem lkX9_easyIn_170 : Cond.fieldLink RX9 170 "FerryRamp$State" "slope" "I" ∈ wsX9_easyIn := List.mem_of_getElem? (i := 5) rfl
theorem lkX9_easyIn_173 : Cond.fieldLink RX9 173 "FerryRamp$State" "lip" "I" ∈ wsX9_easyIn := List.mem_of_getElem? (i := 6) rfl
abbrev rmX9_easyIn : Room := { frames := 6, cells := 1, slots := 6, locals := 121 }
def fX9_easyIn_b9 (u : FS) : Option ((String ⊕ Int32) × FS) :=
  some (.inl "java/lang/IndexOutOfBoundsException", u)
set_option maxHeartbeats 4000000 in
set_option maxRecDepth 100000 in
theorem tX9_easyIn_b9 {p : Program} {l : Launch} {e : Env} {s : State} {m : MethodId} {args : Array Value} {below : List Frame} {meth : Method} {c : Code} {D : va_G} {cy : Nat → ClassId} {A : Nat → Prop} {ad : Nat → Nat} {hh : Nat → Nat} {aa : Nat → Nat → Nat} {pa : Nat → Nat} {za zv : Nat → Nat} (K : (String ⊕ Int32) × FS → Prop) (E : mE D cy RX9 cX9_easyIn 3 (some .int) wsX9_easyIn A p s m args meth c) (hfl : l.stackTraces = false) (hex : ∀ x ∈ c.exceptionTable.toList, False) (hZ : mZ za zv A s s.heap)
     (u : FS) (H : Heap) (locs : List Loc) (ls : Array Slot) (hl : lv_has ls 3 []) (hP : va_P D kCl (wF cy ad hh aa pa u) H) (hD : va_D A (wF cy ad hh aa pa u)) (hS : va_S A s.heap H locs) (h1 : Ok (fX9_easyIn_b9 u) K) :
    kWx p l e rmX9_easyIn s m args below meth c H locs (va_Qi (fun r q => K (.inr r, q)) (fun q => kPost D A (wF cy ad hh aa pa q)) A) (vx_X (fun _ : FS => True) (fun E q t => K (.inl E, q) ∧ kPost D A (wF cy ad hh aa pa q) t) A) A 9 ls [] := by
  obtain ⟨hx, hb, hr, hml, hown, hts, hlocks, hK, hA⟩ := id E
  unfold fX9_easyIn_b9 at h1
  exact kx_throw (names := ["java/lang/RuntimeException", "java/lang/Exception"]) (text := "kind") (sa := za 3) hx hb hfl hml hown (by decide) (by decide) (hts _ (List.mem_of_getElem? (i := 1) rfl)) (hts _ (List.mem_of_getElem? (i := 2) rfl)) (k_site hZ 3 (by decide)) (vx_hat (fun w h => hts w (xaX9_easyIn_123 w h)) xbRX9_123 (hZ.cast (by decide))) xgRX9_119_123 hZ hK hP hD hS hl.1 dX9_easyIn_9 dX9_easyIn_12 dX9_easyIn_13 dX9_easyIn_15 dX9_easyIn_18 hex hlocks h1 (Nat.le_of_ble_eq_true rfl) (Nat.le_of_ble_eq_true rfl) (Nat.le_of_ble_eq_true rfl) (Nat.le_of_ble_eq_true rfl)
def fX9_easyIn_b79 (k32 : Int32 × Int32 × FS → Option ((String ⊕ Int32) × FS)) (x1 : Int32) (x2 : Int32) (u : FS) : Option ((String ⊕ Int32) × FS) :=
  bnd2 (fX8_passTicks 1 (fT u)) (fun r84 u84 => k32 (x1, x2 + 1, gT u u84))
set_option maxHeartbeats 4000000 in
set_option maxRecDepth 100000 in
theorem tX9_easyIn_b79 {p : Program} {l : Launch} {e : Env} {s : State} {m : MethodId} {args : Array Value} {below : List Frame} {meth : Method} {c : Code} {D : va_G} {cy : Nat → ClassId} {A : Nat → Prop} {ad : Nat → Nat} {hh : Nat → Nat} {aa : Nat → Nat → Nat} {pa : Nat → Nat} {za zv : Nat → Nat} (K : (String ⊕ Int32) × FS → Prop) (E : mE D cy RX9 cX9_easyIn 3 (some .int) wsX9_easyIn A p s m args meth c) (hfl : l.stackTraces = false) (hex : ∀ x ∈ c.exceptionTable.toList, False) (hZ : mZ za zv A s s.heap)
    (k32 : Int32 × Int32 × FS → Option ((String ⊕ Int32) × FS)) (hk32 : ∀ (x1 : Int32) (x2 : Int32) (u : FS) (H : Heap) (locs : List Loc) (ls : Array Slot), lv_has ls 3 [(0, .ref (ad 0)), (1, .int x1), (2, .int x2)] → va_P D kCl (wF cy ad hh aa pa u) H → va_D A (wF cy ad hh aa pa u) → va_S A s.heap H locs → Ok (k32 (x1, x2, u)) K → kWx p l e rmX9_easyIn s m args below meth c H locs (va_Qi (fun r q => K (.inr r, q)) (fun q => kPost D A (wF cy ad hh aa pa q)) A) (vx_X (fun _ : FS => True) (fun E q t => K (.inl E, q) ∧ kPost D A (wF cy ad hh aa pa q) t) A) A 32 ls [])
     (x1 : Int32) (x2 : Int32) (u : FS) (H : Heap) (locs : List Loc) (ls : Array Slot) (hl : lv_has ls 3 [(0, .ref (ad 0)), (1, .int x1), (2, .int x2)]) (hP : va_P D kCl (wF cy ad hh aa pa u) H) (hD : va_D A (wF cy ad hh aa pa u)) (hS : va_S A s.heap H locs) (h1 : Ok (fX9_easyIn_b79 k32 x1 x2 u) K) :
    kWx p l e rmX9_easyIn s m args below meth c H locs (va_Qi (fun r q => K (.inr r, q)) (fun q => kPost D A (wF cy ad hh aa pa q)) A) (vx_X (fun _ : FS => True) (fun E q t => K (.inl E, q) ∧ kPost D A (wF cy ad hh aa pa q) t) A) A 79 ls [] := by
  obtain ⟨hx, hb, hr, hml, hown, hts, hlocks, hK, hA⟩ := id E
  unfold fX9_easyIn_b79 at h1
  refine lv_aload_n hx hb dX9_easyIn_79 rfl (lv_at hl 0 rfl) ?_
  refine k_get (v := .ref (hh 1)) (C := RX9) (T := TX9) (N := 9) hx hb hts inX9_easyIn_X9 hown hK hP 0 (wF_c0 _ _ _ _ _ _) rfl 1 (by decide) lkX9_easyIn_16 (fFs_1 _ _ _ _) dX9_easyIn_80 ?_
  refine lv_iconst (v := 1) hx hb dX9_easyIn_83 rfl ?_
  refine kc_iV (b := (hh 1)) (As := [.int 1]) (rest := []) h1 ⟨hx, hb, hml, hown, hts⟩ (cX8_passTicksM l D cy (hh 1) (aa 1) H.size (fT u) 1) (cwV 1 hts gX9_easyIn_X8_passTicks rfl rfl rfl hdX8_passTicks ⟨Nat.le_of_ble_eq_true rfl, Nat.le_of_ble_eq_true rfl⟩) hK (wF_sel2 _ _ _ _ _ _) hP hD hS hA (q0 := 0) rfl rfl rfl hl.1 rfl (Nat.le_of_ble_eq_true rfl) dX9_easyIn_84 ⟨Nat.zero_le _, Nat.zero_le _⟩ (fun r84 u84 H locs h1 hP hD hS => ?_)
  replace hP := kP_perm (wF_uns2_0 cy ad hh aa pa u u84).symm hP
  replace hD := kD_perm (wF_uns2_0 cy ad hh aa pa u u84).symm hD
  refine lv_pop hx hb dX9_easyIn_87 rfl ?_
  refine lv_iinc (v := x2 + 1) (lv' := [(2, .int (x2 + 1)), (0, .ref (ad 0)), (1, .int x1)]) hx hb dX9_easyIn_88 hl (k := 2) rfl rfl (by decide) rfl (fun ls hl => ?_)
  refine lv_goto (tgt := 32) hx hb dX9_easyIn_91 (by decide) ?_
  exact hk32 x1 (x2 + 1) (gT u u84) H locs ls (lv_sub hl [1, 2, 0] rfl) hP hD hS h1
def fX9_easyIn_b32 (k32 : Int32 × Int32 × FS → Option ((String ⊕ Int32) × FS)) (x1 : Int32) (x2 : Int32) (u : FS) : Option ((String ⊕ Int32) × FS) :=
  (if 200 < x2 then some (.inr (-1), u) else bnd (fX8_kindFact x1 0 (fT u)) (fun r52 => (if r52 < (sp (fT u)) then fX9_easyIn_b79 k32 x1 x2 u else bnd (fX8_kindFact x1 1 (fT u)) (fun r71 => (if r71 < (si (fT u)) then fX9_easyIn_b79 k32 x1 x2 u else some (.inr x2, u))))))
set_option maxHeartbeats 4000000 in
set_option maxRecDepth 100000 in
theorem tX9_easyIn_b32 {p : Program} {l : Launch} {e : Env} {s : State} {m : MethodId} {args : Array Value} {below : List Frame} {meth : Method} {c : Code} {D : va_G} {cy : Nat → ClassId} {A : Nat → Prop} {ad : Nat → Nat} {hh : Nat → Nat} {aa : Nat → Nat → Nat} {pa : Nat → Nat} {za zv : Nat → Nat} (K : (String ⊕ Int32) × FS → Prop) (E : mE D cy RX9 cX9_easyIn 3 (some .int) wsX9_easyIn A p s m args meth c) (hfl : l.stackTraces = false) (hex : ∀ x ∈ c.exceptionTable.toList, False) (hZ : mZ za zv A s s.heap)
    (k32 : Int32 × Int32 × FS → Option ((String ⊕ Int32) × FS)) (hk32 : ∀ (x1 : Int32) (x2 : Int32) (u : FS) (H : Heap) (locs : List Loc) (ls : Array Slot), lv_has ls 3 [(0, .ref (ad 0)), (1, .int x1), (2, .int x2)] → va_P D kCl (wF cy ad hh aa pa u) H → va_D A (wF cy ad hh aa pa u) → va_S A s.heap H locs → Ok (k32 (x1, x2, u)) K → kWx p l e rmX9_easyIn s m args below meth c H locs (va_Qi (fun r q => K (.inr r, q)) (fun q => kPost D A (wF cy ad hh aa pa q)) A) (vx_X (fun _ : FS => True) (fun E q t => K (.inl E, q) ∧ kPost D A (wF cy ad hh aa pa q) t) A) A 32 ls [])
     (x1 : Int32) (x2 : Int32) (u : FS) (H : Heap) (locs : List Loc) (ls : Array Slot) (hl : lv_has ls 3 [(0, .ref (ad 0)), (1, .int x1), (2, .int x2)]) (hP : va_P D kCl (wF cy ad hh aa pa u) H) (hD : va_D A (wF cy ad hh aa pa u)) (hS : va_S A s.heap H locs) (h1 : Ok (fX9_easyIn_b32 k32 x1 x2 u) K) :
    kWx p l e rmX9_easyIn s m args below meth c H locs (va_Qi (fun r q => K (.inr r, q)) (fun q => kPost D A (wF cy ad hh aa pa q)) A) (vx_X (fun _ : FS => True) (fun E q t => K (.inl E, q) ∧ kPost D A (wF cy ad hh aa pa q) t) A) A 32 ls [] := by
  obtain ⟨hx, hb, hr, hml, hown, hts, hlocks, hK, hA⟩ := id E
  unfold fX9_easyIn_b32 at h1
  refine lv_iload_n hx hb dX9_easyIn_32 rfl (lv_at hl 2 rfl) ?_
  refine lv_sipush (v := 200) hx hb dX9_easyIn_33 rfl ?_
  refine lv_icmp_gt (tgt := 94) hx hb dX9_easyIn_36 (by decide) (fun c36 => ?_) (fun c36 => ?_)
  · replace h1 := Ok.pos c36 h1
    refine lv_iconst (v := (-1)) hx hb dX9_easyIn_94 rfl ?_
    exact kret_x hx hb hr hlocks hP hD hS h1 dX9_easyIn_95
  · replace h1 := Ok.neg c36 h1
    refine lv_aload_n hx hb dX9_easyIn_39 rfl (lv_at hl 0 rfl) ?_
    refine k_get (v := .ref (hh 1)) (C := RX9) (T := TX9) (N := 9) hx hb hts inX9_easyIn_X9 hown hK hP 0 (wF_c0 _ _ _ _ _ _) rfl 1 (by decide) lkX9_easyIn_16 (fFs_1 _ _ _ _) dX9_easyIn_40 ?_
    refine k_get (v := .int (sp (fT u))) (C := RX8) (T := TX8) (N := 13) hx hb hts inX9_easyIn_X8 hown hK hP 16 (wF_c16 _ _ _ _ _ _) rfl 11 (by decide) lkX9_easyIn_170 (sFs_11 _ _) dX9_easyIn_43 ?_
    refine lv_aload_n hx hb dX9_easyIn_46 rfl (lv_at hl 0 rfl) ?_
    refine k_get (v := .ref (hh 1)) (C := RX9) (T := TX9) (N := 9) hx hb hts inX9_easyIn_X9 hown hK hP 0 (wF_c0 _ _ _ _ _ _) rfl 1 (by decide) lkX9_easyIn_16 (fFs_1 _ _ _ _) dX9_easyIn_47 ?_
    refine lv_iload_n hx hb dX9_easyIn_50 rfl (lv_at hl 1 rfl) ?_
    refine lv_iconst (v := 0) hx hb dX9_easyIn_51 rfl ?_
    refine kc_rV (b := (hh 1)) (As := [.int x1, .int 0]) (rest := [.int (sp (fT u))]) h1 ⟨hx, hb, hml, hown, hts⟩ (cX8_kindFactM l D cy (hh 1) (aa 1) H.size (fT u) x1 0) (cwV 2 hts gX9_easyIn_X8_kindFact rfl rfl rfl hdX8_kindFact ⟨Nat.le_of_ble_eq_true rfl, Nat.le_of_ble_eq_true rfl⟩) hK (wF_sel2 _ _ _ _ _ _) hP hD hS hA (q0 := 0) rfl rfl rfl hl.1 rfl (Nat.le_of_ble_eq_true rfl) dX9_easyIn_52 ⟨Nat.zero_le _, Nat.zero_le _⟩ (fun r52 H locs h1 hP hS => ?_)
    refine lv_icmp_gt (tgt := 79) hx hb dX9_easyIn_55 (by decide) (fun c55 => ?_) (fun c55 => ?_)
    · replace h1 := Ok.pos c55 h1
      exact tX9_easyIn_b79 K E hfl hex hZ k32 hk32 x1 x2 u H locs ls (lv_sub hl [0, 1, 2] rfl) hP hD hS h1
    · replace h1 := Ok.neg c55 h1
      refine lv_aload_n hx hb dX9_easyIn_58 rfl (lv_at hl 0 rfl) ?_
      refine k_get (v := .ref (hh 1)) (C := RX9) (T := TX9) (N := 9) hx hb hts inX9_easyIn_X9 hown hK hP 0 (wF_c0 _ _ _ _ _ _) rfl 1 (by decide) lkX9_easyIn_16 (fFs_1 _ _ _ _) dX9_easyIn_59 ?_
      refine k_get (v := .int (si (fT u))) (C := RX8) (T := TX8) (N := 13) hx hb hts inX9_easyIn_X8 hown hK hP 16 (wF_c16 _ _ _ _ _ _) rfl 12 (by decide) lkX9_easyIn_173 (sFs_12 _ _) dX9_easyIn_62 ?_
      refine lv_aload_n hx hb dX9_easyIn_65 rfl (lv_at hl 0 rfl) ?_
      refine k_get (v := .ref (hh 1)) (C := RX9) (T := TX9) (N := 9) hx hb hts inX9_easyIn_X9 hown hK hP 0 (wF_c0 _ _ _ _ _ _) rfl 1 (by decide) lkX9_easyIn_16 (fFs_1 _ _ _ _) dX9_easyIn_66 ?_
      refine lv_iload_n hx hb dX9_easyIn_69 rfl (lv_at hl 1 rfl) ?_
      refine lv_iconst (v := 1) hx hb dX9_easyIn_70 rfl ?_
      refine kc_rV (b := (hh 1)) (As := [.int x1, .int 1]) (rest := [.int (si (fT u))]) h1 ⟨hx, hb, hml, hown, hts⟩ (cX8_kindFactM l D cy (hh 1) (aa 1) H.size (fT u) x1 1) (cwV 2 hts gX9_easyIn_X8_kindFact rfl rfl rfl hdX8_kindFact ⟨Nat.le_of_ble_eq_true rfl, Nat.le_of_ble_eq_true rfl⟩) hK (wF_sel2 _ _ _ _ _ _) hP hD hS hA (q0 := 0) rfl rfl rfl hl.1 rfl (Nat.le_of_ble_eq_true rfl) dX9_easyIn_71 ⟨Nat.zero_le _, Nat.zero_le _⟩ (fun r71 H locs h1 hP hS => ?_)
      refine lv_icmp_gt (tgt := 79) hx hb dX9_easyIn_74 (by decide) (fun c74 => ?_) (fun c74 => ?_)
      · replace h1 := Ok.pos c74 h1
        exact tX9_easyIn_b79 K E hfl hex hZ k32 hk32 x1 x2 u H locs ls (lv_sub hl [0, 1, 2] rfl) hP hD hS h1
      · replace h1 := Ok.neg c74 h1
        refine lv_iload_n hx hb dX9_easyIn_77 rfl (lv_at hl 2 rfl) ?_
        exact kret_x hx hb hr hlocks hP hD hS h1 dX9_easyIn_78
theorem tX9_easyIn_l32 {p : Program} {l : Launch} {e : Env} {s : State} {m : MethodId} {args : Array Value} {below : List Frame} {meth : Method} {c : Code} {D : va_G} {cy : Nat → ClassId} {A : Nat → Prop} {ad : Nat → Nat} {hh : Nat → Nat} {aa : Nat → Nat → Nat} {pa : Nat → Nat} {za zv : Nat → Nat} (K : (String ⊕ Int32) × FS → Prop) (E : mE D cy RX9 cX9_easyIn 3 (some .int) wsX9_easyIn A p s m args meth c) (hfl : l.stackTraces = false) (hex : ∀ x ∈ c.exceptionTable.toList, False) (hZ : mZ za zv A s s.heap) : ∀ (n9 : Nat) (x1 : Int32) (x2 : Int32) (u : FS) (H : Heap) (locs : List Loc) (ls : Array Slot), lv_has ls 3 [(0, .ref (ad 0)), (1, .int x1), (2, .int x2)] → va_P D kCl (wF cy ad hh aa pa u) H → va_D A (wF cy ad hh aa pa u) → va_S A s.heap H locs → Ok (lop (fun y z => fX9_easyIn_b32 y z.1 z.2.1 z.2.2) n9 (x1, x2, u)) K → kWx p l e rmX9_easyIn s m args below meth c H locs (va_Qi (fun r q => K (.inr r, q)) (fun q => kPost D A (wF cy ad hh aa pa q)) A) (vx_X (fun _ : FS => True) (fun E q t => K (.inl E, q) ∧ kPost D A (wF cy ad hh aa pa q) t) A) A 32 ls [] := by
  intro n9
  induction n9 with
  | zero =>
    intro x1 x2 u H locs ls hl hP hD hS h1
    exact h1.no
  | succ n9 ih =>
    intro x1 x2 u H locs ls hl hP hD hS h1
    exact tX9_easyIn_b32 K E hfl hex hZ (lop (fun y z => fX9_easyIn_b32 y z.1 z.2.1 z.2.2) n9) (fun x1 x2 u H locs ls hl hP hD hS h1 => ih x1 x2 u H locs ls hl hP hD hS h1) x1 x2 u H locs ls hl hP hD hS h1
def fX9_easyIn_b0 (x1 : Int32) (u : FS) : Option ((String ⊕ Int32) × FS) :=
  (if x1 < 0 then fX9_easyIn_b9 u else (if x1 < 4 then bnd (fX8_copyFrom (fT u) (fN u)) (fun u27 => lop (fun y z => fX9_easyIn_b32 y z.1 z.2.1 z.2.2) LF (x1, 0, gT u u27)) else fX9_easyIn_b9 u))
set_option maxHeartbeats 4000000 in
set_option maxRecDepth 100000 in
theorem tX9_easyIn_b0 {p : Program} {l : Launch} {e : Env} {s : State} {m : MethodId} {args : Array Value} {below : List Frame} {meth : Method} {c : Code} {D : va_G} {cy : Nat → ClassId} {A : Nat → Prop} {ad : Nat → Nat} {hh : Nat → Nat} {aa : Nat → Nat → Nat} {pa : Nat → Nat} {za zv : Nat → Nat} (K : (String ⊕ Int32) × FS → Prop) (E : mE D cy RX9 cX9_easyIn 3 (some .int) wsX9_easyIn A p s m args meth c) (hfl : l.stackTraces = false) (hex : ∀ x ∈ c.exceptionTable.toList, False) (hZ : mZ za zv A s s.heap)
     (x1 : Int32) (u : FS) (H : Heap) (locs : List Loc) (ls : Array Slot) (hl : lv_has ls 3 [(0, .ref (ad 0)), (1, .int x1)]) (hP : va_P D kCl (wF cy ad hh aa pa u) H) (hD : va_D A (wF cy ad hh aa pa u)) (hS : va_S A s.heap H locs) (h1 : Ok (fX9_easyIn_b0 x1 u) K) :
    kWx p l e rmX9_easyIn s m args below meth c H locs (va_Qi (fun r q => K (.inr r, q)) (fun q => kPost D A (wF cy ad hh aa pa q)) A) (vx_X (fun _ : FS => True) (fun E q t => K (.inl E, q) ∧ kPost D A (wF cy ad hh aa pa q) t) A) A 0 ls [] := by
  obtain ⟨hx, hb, hr, hml, hown, hts, hlocks, hK, hA⟩ := id E
  unfold fX9_easyIn_b0 at h1
  refine lv_iload_n hx hb dX9_easyIn_0 rfl (lv_at hl 1 rfl) ?_
  refine lv_if_lt (tgt := 9) hx hb dX9_easyIn_1 (by decide) (fun c1 => ?_) (fun c1 => ?_)
  · replace h1 := Ok.pos c1 h1
    exact tX9_easyIn_b9 K E hfl hex hZ u H locs ls (lv_sub hl [] rfl) hP hD hS h1
  · replace h1 := Ok.neg c1 h1
    refine lv_iload_n hx hb dX9_easyIn_4 rfl (lv_at hl 1 rfl) ?_
    refine lv_iconst (v := 4) hx hb dX9_easyIn_5 rfl ?_
    refine lv_icmp_lt (tgt := 19) hx hb dX9_easyIn_6 (by decide) (fun c6 => ?_) (fun c6 => ?_)
    · replace h1 := Ok.pos c6 h1
      refine lv_aload_n hx hb dX9_easyIn_19 rfl (lv_at hl 0 rfl) ?_
      refine k_get (v := .ref (hh 1)) (C := RX9) (T := TX9) (N := 9) hx hb hts inX9_easyIn_X9 hown hK hP 0 (wF_c0 _ _ _ _ _ _) rfl 1 (by decide) lkX9_easyIn_16 (fFs_1 _ _ _ _) dX9_easyIn_20 ?_
      refine lv_aload_n hx hb dX9_easyIn_23 rfl (lv_at hl 0 rfl) ?_
      refine k_get (v := .ref (hh 0)) (C := RX9) (T := TX9) (N := 9) hx hb hts inX9_easyIn_X9 hown hK hP 0 (wF_c0 _ _ _ _ _ _) rfl 0 (by decide) lkX9_easyIn_10 (fFs_0 _ _ _ _) dX9_easyIn_24 ?_
      refine kc_vV (b := (hh 1)) (As := [.ref (hh 0)]) (rest := []) h1 ⟨hx, hb, hml, hown, hts⟩ (cX8_copyFromM l D cy (hh 1) (aa 1) (hh 0) (aa 0) H.size (fT u) (fN u)) (cwV 1 hts gX9_easyIn_X8_copyFrom rfl rfl rfl hdX8_copyFrom ⟨Nat.le_of_ble_eq_true rfl, Nat.le_of_ble_eq_true rfl⟩) hK (wF_sel2_1 _ _ _ _ _ _) hP hD hS hA (q0 := 0) rfl rfl rfl hl.1 rfl (Nat.le_of_ble_eq_true rfl) dX9_easyIn_27 ⟨Nat.zero_le _, Nat.zero_le _⟩ (fun u27 H locs h1 hP hD hS => ?_)
      replace hP := kP_perm (wF_uns2_1_0 cy ad hh aa pa u u27).symm hP
      replace hD := kD_perm (wF_uns2_1_0 cy ad hh aa pa u u27).symm hD
      refine lv_iconst (v := 0) hx hb dX9_easyIn_30 rfl ?_
      refine lv_istore_n (lv' := [(2, .int 0), (0, .ref (ad 0)), (1, .int x1)]) hx hb dX9_easyIn_31 rfl hl (by decide) rfl (fun ls hl => ?_)
      exact tX9_easyIn_l32 K E hfl hex hZ LF x1 0 (gT u u27) H locs ls (lv_sub hl [1, 2, 0] rfl) hP hD hS h1
    · replace h1 := Ok.neg c6 h1
      exact tX9_easyIn_b9 K E hfl hex hZ u H locs ls (lv_sub hl [] rfl) hP hD hS h1
def fX9_easyIn (p1 : Int32) (u : FS) : Option ((String ⊕ Int32) × FS) := fX9_easyIn_b0 p1 u
set_option maxHeartbeats 4000000 in
set_option maxRecDepth 100000 in
theorem cX9_easyInM (l : Launch) (hfl : l.stackTraces = false) (D : va_G) (cy : Nat → ClassId) (za zv : Nat → Nat) (ad : Nat → Nat) (hh : Nat → Nat) (aa : Nat → Nat → Nat) (pa : Nat → Nat) (sz : Nat) (u : FS) (p1 : Int32) : ∀ (K : (String ⊕ Int32) × FS → Prop), Ok (fX9_easyIn p1 u) K → vx_Met l yX9_easyIn wsX9_easyIn rmX9_easyIn (va_Pc [.ref (ad 0), .int p1] (kPreZ D cy za zv sz (wF cy ad hh aa pa u))) (va_Qi (fun r q => K (.inr r, q)) (fun q => kPost D (va_A (wF cy ad hh aa pa u) sz) (wF cy ad hh aa pa q)) (va_A (wF cy ad hh aa pa u) sz)) (vx_X (fun _ : FS => True) (fun E q t => K (.inl E, q) ∧ kPost D (va_A (wF cy ad hh aa pa u) sz) (wF cy ad hh aa pa q) t) (va_A (wF cy ad hh aa pa u) sz)) 1 6 (va_A (wF cy ad hh aa pa u) sz) := by
  intro K h1
  refine vx_ofW (cc := cX9_easyIn) (maxL := 3) (ret := (some .int)) (by decide) rfl ?_
  intro p e s m args below meth c s₁ B hml hex hv
  obtain ⟨rfl, ⟨hsz, hP, hK, hD0⟩, hZ⟩ := hv
  subst hsz
  have E : mE D cy RX9 cX9_easyIn 3 (some .int) wsX9_easyIn (va_A (wF cy ad hh aa pa u) s.heap.size) p s m _ meth c := ⟨B.exec, B.bytes, B.returns, hml, findClass_of_methodNamed B.named, atoms_spec (ws := wsX9_easyIn) B.pre, B.notSynchronized, hK, fun q h => Or.inr h⟩
  have hl := lv_entry ([.ref (ad 0), .int p1]) (n := 3) (Nat.le_of_ble_eq_true rfl)
  rw [lg_entry_eq]
  generalize (lg_sl ([.ref (ad 0), .int p1]) ++ List.replicate (3 - (lg_sl ([.ref (ad 0), .int p1])).length) Slot.unset).toArray = ls at hl ⊢
  exact tX9_easyIn_b0 K E hfl hex hZ p1 u _ _ _ hl hP hD0.self va_S.rf h1
-- X9_bestFirst
theorem xaX9_bestFirst_75 : ∀ w ∈ (vx_atS RX9 75 "java/lang/IllegalArgumentException" ["java/lang/RuntimeException", "java/lang/Exception"]).filter goodWord, w ∈ wsX9_bestFirst := fun w h => List.mem_cons_of_mem _ (List.mem_append_right _ h)
theorem inX9_bestFirst_X9 : ∀ w ∈ u_ws RX9 TX9 9, w ∈ wsX9_bestFirst := k_lays 123 rfl
theorem lkX9_bestFirst_10 : Cond.fieldLink RX9 10 "FerryRamp" "now" "LFerryRamp$State;" ∈ wsX9_bestFirst := List.mem_of_getElem? (i := 3) rfl
theorem inX9_bestFirst_X8 : ∀ w ∈ u_ws RX8 TX8 13, w ∈ wsX9_bestFirst := k_lays 132 rfl
theorem lkX9_bestFirst_87 : Cond.fieldLink RX9 87 "FerryRamp$State" "counts" "[I" ∈ wsX9_bestFirst := List.mem_of_getElem? (i := 4) rfl
theorem lkX9_bestFirst_16 : Cond.fieldLink RX9 16 "FerryRamp" "trial" "LFerryRamp$State;" ∈ wsX9_bestFirst := List.mem_of_getElem? (i := 5) rfl
theorem lkX9_bestFirst_137 : Cond.fieldLink RX9 137 "FerryRamp$State" "queue" "[I" ∈ wsX9_bestFirst := List.mem_of_getElem? (i := 6) rfl
abbrev rmX9_bestFirst : Room := { frames := 6, cells := 1, slots := 6, locals := 121 }
def fX9_bestFirst_b11 (u : FS) : Option ((String ⊕ Int32) × FS) :=
  some (.inl "java/lang/IllegalArgumentException", u)
set_option maxHeartbeats 4000000 in
set_option maxRecDepth 100000 in
theorem tX9_bestFirst_b11 {p : Program} {l : Launch} {e : Env} {s : State} {m : MethodId} {args : Array Value} {below : List Frame} {meth : Method} {c : Code} {D : va_G} {cy : Nat → ClassId} {A : Nat → Prop} {ad : Nat → Nat} {hh : Nat → Nat} {aa : Nat → Nat → Nat} {pa : Nat → Nat} {za zv : Nat → Nat} (K : (String ⊕ Int32) × FS → Prop) (E : mE D cy RX9 cX9_bestFirst 6 (some .int) wsX9_bestFirst A p s m args meth c) (hfl : l.stackTraces = false) (hex : ∀ x ∈ c.exceptionTable.toList, False) (hZ : mZ za zv A s s.heap)
     (u : FS) (H : Heap) (locs : List Loc) (ls : Array Slot) (hl : lv_has ls 6 []) (hP : va_P D kCl (wF cy ad hh aa pa u) H) (hD : va_D A (wF cy ad hh aa pa u)) (hS : va_S A s.heap H locs) (h1 : Ok (fX9_bestFirst_b11 u) K) :
    kWx p l e rmX9_bestFirst s m args below meth c H locs (va_Qi (fun r q => K (.inr r, q)) (fun q => kPost D A (wF cy ad hh aa pa q)) A) (vx_X (fun _ : FS => True) (fun E q t => K (.inl E, q) ∧ kPost D A (wF cy ad hh aa pa q) t) A) A 11 ls [] := by
  obtain ⟨hx, hb, hr, hml, hown, hts, hlocks, hK, hA⟩ := id E
  unfold fX9_bestFirst_b11 at h1
  exact kx_throw (names := ["java/lang/RuntimeException", "java/lang/Exception"]) (text := "ticks") (sa := za 8) hx hb hfl hml hown (by decide) (by decide) (hts _ (List.mem_of_getElem? (i := 1) rfl)) (hts _ (List.mem_of_getElem? (i := 2) rfl)) (k_site hZ 8 (by decide)) (vx_hat (fun w h => hts w (xaX9_bestFirst_75 w h)) xbRX9_75 (hZ.cast (by decide))) xgRX9_72_75 hZ hK hP hD hS hl.1 dX9_bestFirst_11 dX9_bestFirst_14 dX9_bestFirst_15 dX9_bestFirst_17 dX9_bestFirst_20 hex hlocks h1 (Nat.le_of_ble_eq_true rfl) (Nat.le_of_ble_eq_true rfl) (Nat.le_of_ble_eq_true rfl) (Nat.le_of_ble_eq_true rfl)
def fX9_bestFirst_b94 (k28 : Int32 × Int32 × Int32 × Int32 × FS → Option ((String ⊕ Int32) × FS)) (x1 : Int32) (x2 : Int32) (x3 : Int32) (x4 : Int32) (u : FS) : Option ((String ⊕ Int32) × FS) :=
  k28 (x1, x2, x3, x4 + 1, u)
set_option maxHeartbeats 4000000 in
set_option maxRecDepth 100000 in
theorem tX9_bestFirst_b94 {p : Program} {l : Launch} {e : Env} {s : State} {m : MethodId} {args : Array Value} {below : List Frame} {meth : Method} {c : Code} {D : va_G} {cy : Nat → ClassId} {A : Nat → Prop} {ad : Nat → Nat} {hh : Nat → Nat} {aa : Nat → Nat → Nat} {pa : Nat → Nat} {za zv : Nat → Nat} (K : (String ⊕ Int32) × FS → Prop) (E : mE D cy RX9 cX9_bestFirst 6 (some .int) wsX9_bestFirst A p s m args meth c) (hfl : l.stackTraces = false) (hex : ∀ x ∈ c.exceptionTable.toList, False) (hZ : mZ za zv A s s.heap)
    (k28 : Int32 × Int32 × Int32 × Int32 × FS → Option ((String ⊕ Int32) × FS)) (hk28 : ∀ (x1 : Int32) (x2 : Int32) (x3 : Int32) (x4 : Int32) (u : FS) (H : Heap) (locs : List Loc) (ls : Array Slot), lv_has ls 6 [(0, .ref (ad 0)), (1, .int x1), (2, .int x2), (3, .int x3), (4, .int x4)] → va_P D kCl (wF cy ad hh aa pa u) H → va_D A (wF cy ad hh aa pa u) → va_S A s.heap H locs → Ok (k28 (x1, x2, x3, x4, u)) K → kWx p l e rmX9_bestFirst s m args below meth c H locs (va_Qi (fun r q => K (.inr r, q)) (fun q => kPost D A (wF cy ad hh aa pa q)) A) (vx_X (fun _ : FS => True) (fun E q t => K (.inl E, q) ∧ kPost D A (wF cy ad hh aa pa q) t) A) A 28 ls [])
     (x1 : Int32) (x2 : Int32) (x3 : Int32) (x4 : Int32) (u : FS) (H : Heap) (locs : List Loc) (ls : Array Slot) (hl : lv_has ls 6 [(0, .ref (ad 0)), (1, .int x1), (2, .int x2), (3, .int x3), (4, .int x4)]) (hP : va_P D kCl (wF cy ad hh aa pa u) H) (hD : va_D A (wF cy ad hh aa pa u)) (hS : va_S A s.heap H locs) (h1 : Ok (fX9_bestFirst_b94 k28 x1 x2 x3 x4 u) K) :
    kWx p l e rmX9_bestFirst s m args below meth c H locs (va_Qi (fun r q => K (.inr r, q)) (fun q => kPost D A (wF cy ad hh aa pa q)) A) (vx_X (fun _ : FS => True) (fun E q t => K (.inl E, q) ∧ kPost D A (wF cy ad hh aa pa q) t) A) A 94 ls [] := by
  obtain ⟨hx, hb, hr, hml, hown, hts, hlocks, hK, hA⟩ := id E
  unfold fX9_bestFirst_b94 at h1
  refine lv_iinc (v := x4 + 1) (lv' := [(4, .int (x4 + 1)), (0, .ref (ad 0)), (1, .int x1), (2, .int x2), (3, .int x3)]) hx hb dX9_bestFirst_94 hl (k := 4) rfl rfl (by decide) rfl (fun ls hl => ?_)
  refine lv_goto (tgt := 28) hx hb dX9_bestFirst_97 (by decide) ?_
  exact hk28 x1 x2 x3 (x4 + 1) u H locs ls (lv_sub hl [1, 2, 3, 4, 0] rfl) hP hD hS h1
def fX9_bestFirst_b28 (k28 : Int32 × Int32 × Int32 × Int32 × FS → Option ((String ⊕ Int32) × FS)) (x1 : Int32) (x2 : Int32) (x3 : Int32) (x4 : Int32) (u : FS) : Option ((String ⊕ Int32) × FS) :=
  (if (sC (fN u) 1) ≤ x4 then some (.inr x2, u) else bnd (fX8_copyFrom (fT u) (fN u)) (fun u50 => bnd (fX8_bringToFront x4 (fT (gT u u50))) (fun u59 => bnd2 (fX8_passTicks x1 (fT (gT (gT u u50) u59))) (fun r67 u67 => (if r67 ≤ x3 then fX9_bestFirst_b94 k28 x1 x2 x3 x4 (gT (gT (gT u u50) u59) u67) else bnd (fX9_at x4 20 (sQ (fN (gT (gT (gT u u50) u59) u67)))) (fun r87 => fX9_bestFirst_b94 k28 x1 r87 r67 x4 (gT (gT (gT u u50) u59) u67)))))))
set_option maxHeartbeats 4000000 in
set_option maxRecDepth 100000 in
theorem tX9_bestFirst_b28 {p : Program} {l : Launch} {e : Env} {s : State} {m : MethodId} {args : Array Value} {below : List Frame} {meth : Method} {c : Code} {D : va_G} {cy : Nat → ClassId} {A : Nat → Prop} {ad : Nat → Nat} {hh : Nat → Nat} {aa : Nat → Nat → Nat} {pa : Nat → Nat} {za zv : Nat → Nat} (K : (String ⊕ Int32) × FS → Prop) (E : mE D cy RX9 cX9_bestFirst 6 (some .int) wsX9_bestFirst A p s m args meth c) (hfl : l.stackTraces = false) (hex : ∀ x ∈ c.exceptionTable.toList, False) (hZ : mZ za zv A s s.heap)
    (k28 : Int32 × Int32 × Int32 × Int32 × FS → Option ((String ⊕ Int32) × FS)) (hk28 : ∀ (x1 : Int32) (x2 : Int32) (x3 : Int32) (x4 : Int32) (u : FS) (H : Heap) (locs : List Loc) (ls : Array Slot), lv_has ls 6 [(0, .ref (ad 0)), (1, .int x1), (2, .int x2), (3, .int x3), (4, .int x4)] → va_P D kCl (wF cy ad hh aa pa u) H → va_D A (wF cy ad hh aa pa u) → va_S A s.heap H locs → Ok (k28 (x1, x2, x3, x4, u)) K → kWx p l e rmX9_bestFirst s m args below meth c H locs (va_Qi (fun r q => K (.inr r, q)) (fun q => kPost D A (wF cy ad hh aa pa q)) A) (vx_X (fun _ : FS => True) (fun E q t => K (.inl E, q) ∧ kPost D A (wF cy ad hh aa pa q) t) A) A 28 ls [])
     (x1 : Int32) (x2 : Int32) (x3 : Int32) (x4 : Int32) (u : FS) (H : Heap) (locs : List Loc) (ls : Array Slot) (hl : lv_has ls 6 [(0, .ref (ad 0)), (1, .int x1), (2, .int x2), (3, .int x3), (4, .int x4)]) (hP : va_P D kCl (wF cy ad hh aa pa u) H) (hD : va_D A (wF cy ad hh aa pa u)) (hS : va_S A s.heap H locs) (h1 : Ok (fX9_bestFirst_b28 k28 x1 x2 x3 x4 u) K) :
    kWx p l e rmX9_bestFirst s m args below meth c H locs (va_Qi (fun r q => K (.inr r, q)) (fun q => kPost D A (wF cy ad hh aa pa q)) A) (vx_X (fun _ : FS => True) (fun E q t => K (.inl E, q) ∧ kPost D A (wF cy ad hh aa pa q) t) A) A 28 ls [] := by
  obtain ⟨hx, hb, hr, hml, hown, hts, hlocks, hK, hA⟩ := id E
  unfold fX9_bestFirst_b28 at h1
  refine lv_iload hx hb dX9_bestFirst_28 (lv_at hl 4 rfl) ?_
  refine lv_aload_n hx hb dX9_bestFirst_30 rfl (lv_at hl 0 rfl) ?_
  refine k_get (v := .ref (hh 0)) (C := RX9) (T := TX9) (N := 9) hx hb hts inX9_bestFirst_X9 hown hK hP 0 (wF_c0 _ _ _ _ _ _) rfl 0 (by decide) lkX9_bestFirst_10 (fFs_0 _ _ _ _) dX9_bestFirst_31 ?_
  refine k_get (v := .ref ((aa 0) 0)) (C := RX8) (T := TX8) (N := 13) hx hb hts inX9_bestFirst_X8 hown hK hP 5 (wF_c5 _ _ _ _ _ _) rfl 0 (by decide) lkX9_bestFirst_87 (sFs_0 _ _) dX9_bestFirst_34 ?_
  refine lv_iconst (v := 1) hx hb dX9_bestFirst_37 rfl ?_
  refine k_iald (k := 1) hx hb hK hP 6 (wF_c6 _ _ _ _ _ _) rfl rfl dX9_bestFirst_38 ?_
  refine lv_icmp_ge (tgt := 100) hx hb dX9_bestFirst_39 (by decide) (fun c39 => ?_) (fun c39 => ?_)
  · replace h1 := Ok.pos c39 h1
    refine lv_iload_n hx hb dX9_bestFirst_100 rfl (lv_at hl 2 rfl) ?_
    exact kret_x hx hb hr hlocks hP hD hS h1 dX9_bestFirst_101
  · replace h1 := Ok.neg c39 h1
    refine lv_aload_n hx hb dX9_bestFirst_42 rfl (lv_at hl 0 rfl) ?_
    refine k_get (v := .ref (hh 1)) (C := RX9) (T := TX9) (N := 9) hx hb hts inX9_bestFirst_X9 hown hK hP 0 (wF_c0 _ _ _ _ _ _) rfl 1 (by decide) lkX9_bestFirst_16 (fFs_1 _ _ _ _) dX9_bestFirst_43 ?_
    refine lv_aload_n hx hb dX9_bestFirst_46 rfl (lv_at hl 0 rfl) ?_
    refine k_get (v := .ref (hh 0)) (C := RX9) (T := TX9) (N := 9) hx hb hts inX9_bestFirst_X9 hown hK hP 0 (wF_c0 _ _ _ _ _ _) rfl 0 (by decide) lkX9_bestFirst_10 (fFs_0 _ _ _ _) dX9_bestFirst_47 ?_
    refine kc_vV (b := (hh 1)) (As := [.ref (hh 0)]) (rest := []) h1 ⟨hx, hb, hml, hown, hts⟩ (cX8_copyFromM l D cy (hh 1) (aa 1) (hh 0) (aa 0) H.size (fT u) (fN u)) (cwV 1 hts gX9_bestFirst_X8_copyFrom rfl rfl rfl hdX8_copyFrom ⟨Nat.le_of_ble_eq_true rfl, Nat.le_of_ble_eq_true rfl⟩) hK (wF_sel2_1 _ _ _ _ _ _) hP hD hS hA (q0 := 0) rfl rfl rfl hl.1 rfl (Nat.le_of_ble_eq_true rfl) dX9_bestFirst_50 ⟨Nat.zero_le _, Nat.zero_le _⟩ (fun u50 H locs h1 hP hD hS => ?_)
    replace hP := kP_perm (wF_uns2_1_0 cy ad hh aa pa u u50).symm hP
    replace hD := kD_perm (wF_uns2_1_0 cy ad hh aa pa u u50).symm hD
    refine lv_aload_n hx hb dX9_bestFirst_53 rfl (lv_at hl 0 rfl) ?_
    refine k_get (v := .ref (hh 1)) (C := RX9) (T := TX9) (N := 9) hx hb hts inX9_bestFirst_X9 hown hK hP 0 (wF_c0 _ _ _ _ _ _) rfl 1 (by decide) lkX9_bestFirst_16 (fFs_1 _ _ _ _) dX9_bestFirst_54 ?_
    refine lv_iload hx hb dX9_bestFirst_57 (lv_at hl 4 rfl) ?_
    refine kc_vV (b := (hh 1)) (As := [.int x4]) (rest := []) h1 ⟨hx, hb, hml, hown, hts⟩ (cX8_bringToFrontM l D cy (hh 1) (aa 1) H.size (fT (gT u u50)) x4) (cwV 1 hts gX9_bestFirst_X8_bringToFront rfl rfl rfl hdX8_bringToFront ⟨Nat.le_of_ble_eq_true rfl, Nat.le_of_ble_eq_true rfl⟩) hK (wF_sel2 _ _ _ _ _ _) hP hD hS hA (q0 := 0) rfl rfl rfl hl.1 rfl (Nat.le_of_ble_eq_true rfl) dX9_bestFirst_59 ⟨Nat.zero_le _, Nat.zero_le _⟩ (fun u59 H locs h1 hP hD hS => ?_)
    replace hP := kP_perm (wF_uns2_0 cy ad hh aa pa (gT u u50) u59).symm hP
    replace hD := kD_perm (wF_uns2_0 cy ad hh aa pa (gT u u50) u59).symm hD
    refine lv_aload_n hx hb dX9_bestFirst_62 rfl (lv_at hl 0 rfl) ?_
    refine k_get (v := .ref (hh 1)) (C := RX9) (T := TX9) (N := 9) hx hb hts inX9_bestFirst_X9 hown hK hP 0 (wF_c0 _ _ _ _ _ _) rfl 1 (by decide) lkX9_bestFirst_16 (fFs_1 _ _ _ _) dX9_bestFirst_63 ?_
    refine lv_iload_n hx hb dX9_bestFirst_66 rfl (lv_at hl 1 rfl) ?_
    refine kc_iV (b := (hh 1)) (As := [.int x1]) (rest := []) h1 ⟨hx, hb, hml, hown, hts⟩ (cX8_passTicksM l D cy (hh 1) (aa 1) H.size (fT (gT (gT u u50) u59)) x1) (cwV 1 hts gX9_bestFirst_X8_passTicks rfl rfl rfl hdX8_passTicks ⟨Nat.le_of_ble_eq_true rfl, Nat.le_of_ble_eq_true rfl⟩) hK (wF_sel2 _ _ _ _ _ _) hP hD hS hA (q0 := 0) rfl rfl rfl hl.1 rfl (Nat.le_of_ble_eq_true rfl) dX9_bestFirst_67 ⟨Nat.zero_le _, Nat.zero_le _⟩ (fun r67 u67 H locs h1 hP hD hS => ?_)
    replace hP := kP_perm (wF_uns2_0 cy ad hh aa pa (gT (gT u u50) u59) u67).symm hP
    replace hD := kD_perm (wF_uns2_0 cy ad hh aa pa (gT (gT u u50) u59) u67).symm hD
    refine lv_istore (lv' := [(5, .int r67), (0, .ref (ad 0)), (1, .int x1), (2, .int x2), (3, .int x3), (4, .int x4)]) hx hb dX9_bestFirst_70 hl (by decide) rfl (fun ls hl => ?_)
    refine lv_iload hx hb dX9_bestFirst_72 (lv_at hl 0 rfl) ?_
    refine lv_iload_n hx hb dX9_bestFirst_74 rfl (lv_at hl 4 rfl) ?_
    refine lv_icmp_le (tgt := 94) hx hb dX9_bestFirst_75 (by decide) (fun c75 => ?_) (fun c75 => ?_)
    · replace h1 := Ok.pos c75 h1
      exact tX9_bestFirst_b94 K E hfl hex hZ k28 hk28 x1 x2 x3 x4 (gT (gT (gT u u50) u59) u67) H locs ls (lv_sub hl [1, 2, 3, 4, 5] rfl) hP hD hS h1
    · replace h1 := Ok.neg c75 h1
      refine lv_aload_n hx hb dX9_bestFirst_78 rfl (lv_at hl 1 rfl) ?_
      refine k_get (v := .ref (hh 0)) (C := RX9) (T := TX9) (N := 9) hx hb hts inX9_bestFirst_X9 hown hK hP 0 (wF_c0 _ _ _ _ _ _) rfl 0 (by decide) lkX9_bestFirst_10 (fFs_0 _ _ _ _) dX9_bestFirst_79 ?_
      refine k_get (v := .ref ((aa 0) 4)) (C := RX8) (T := TX8) (N := 13) hx hb hts inX9_bestFirst_X8 hown hK hP 5 (wF_c5 _ _ _ _ _ _) rfl 4 (by decide) lkX9_bestFirst_137 (sFs_4 _ _) dX9_bestFirst_82 ?_
      refine lv_iload hx hb dX9_bestFirst_85 (lv_at hl 5 rfl) ?_
      refine kc_rS (As := [.ref ((aa 0) 4), .int x4]) (rest := []) h1 ⟨hx, hb, hml, hown, hts⟩ (cX9_atM l D cy ((aa 0) 4) H.size 20 (sQ (fN (gT (gT (gT u u50) u59) u67))) x4) (va_cwS 2 hts gX9_bestFirst_X9_at rfl rfl rfl heX9_at ⟨Nat.le_of_ble_eq_true rfl, Nat.le_of_ble_eq_true rfl⟩) hK (k_pick (k := 10) (wF_c10 _ _ _ _ _ _)) hP hD hS hA rfl hl.1 rfl (Nat.le_of_ble_eq_true rfl) dX9_bestFirst_87 ⟨Nat.zero_le _, Nat.zero_le _⟩ (fun r87 H locs h1 hP hS => ?_)
      refine lv_istore_n (lv' := [(2, .int r87), (5, .int r67), (0, .ref (ad 0)), (1, .int x1), (3, .int x3), (4, .int x4)]) hx hb dX9_bestFirst_90 rfl hl (by decide) rfl (fun ls hl => ?_)
      refine lv_iload hx hb dX9_bestFirst_91 (lv_at hl 1 rfl) ?_
      refine lv_istore_n (lv' := [(3, .int r67), (2, .int r87), (5, .int r67), (0, .ref (ad 0)), (1, .int x1), (4, .int x4)]) hx hb dX9_bestFirst_93 rfl hl (by decide) rfl (fun ls hl => ?_)
      exact tX9_bestFirst_b94 K E hfl hex hZ k28 hk28 x1 r87 r67 x4 (gT (gT (gT u u50) u59) u67) H locs ls (lv_sub hl [3, 4, 1, 0, 5] rfl) hP hD hS h1
theorem tX9_bestFirst_l28 {p : Program} {l : Launch} {e : Env} {s : State} {m : MethodId} {args : Array Value} {below : List Frame} {meth : Method} {c : Code} {D : va_G} {cy : Nat → ClassId} {A : Nat → Prop} {ad : Nat → Nat} {hh : Nat → Nat} {aa : Nat → Nat → Nat} {pa : Nat → Nat} {za zv : Nat → Nat} (K : (String ⊕ Int32) × FS → Prop) (E : mE D cy RX9 cX9_bestFirst 6 (some .int) wsX9_bestFirst A p s m args meth c) (hfl : l.stackTraces = false) (hex : ∀ x ∈ c.exceptionTable.toList, False) (hZ : mZ za zv A s s.heap) : ∀ (n9 : Nat) (x1 : Int32) (x2 : Int32) (x3 : Int32) (x4 : Int32) (u : FS) (H : Heap) (locs : List Loc) (ls : Array Slot), lv_has ls 6 [(0, .ref (ad 0)), (1, .int x1), (2, .int x2), (3, .int x3), (4, .int x4)] → va_P D kCl (wF cy ad hh aa pa u) H → va_D A (wF cy ad hh aa pa u) → va_S A s.heap H locs → Ok (lop (fun y z => fX9_bestFirst_b28 y z.1 z.2.1 z.2.2.1 z.2.2.2.1 z.2.2.2.2) n9 (x1, x2, x3, x4, u)) K → kWx p l e rmX9_bestFirst s m args below meth c H locs (va_Qi (fun r q => K (.inr r, q)) (fun q => kPost D A (wF cy ad hh aa pa q)) A) (vx_X (fun _ : FS => True) (fun E q t => K (.inl E, q) ∧ kPost D A (wF cy ad hh aa pa q) t) A) A 28 ls [] := by
  intro n9
  induction n9 with
  | zero =>
    intro x1 x2 x3 x4 u H locs ls hl hP hD hS h1
    exact h1.no
  | succ n9 ih =>
    intro x1 x2 x3 x4 u H locs ls hl hP hD hS h1
    exact tX9_bestFirst_b28 K E hfl hex hZ (lop (fun y z => fX9_bestFirst_b28 y z.1 z.2.1 z.2.2.1 z.2.2.2.1 z.2.2.2.2) n9) (fun x1 x2 x3 x4 u H locs ls hl hP hD hS h1 => ih x1 x2 x3 x4 u H locs ls hl hP hD hS h1) x1 x2 x3 x4 u H locs ls hl hP hD hS h1
def fX9_bestFirst_b0 (x1 : Int32) (u : FS) : Option ((String ⊕ Int32) × FS) :=
  (if x1 < 1 then fX9_bestFirst_b11 u else (if x1 ≤ 99 then lop (fun y z => fX9_bestFirst_b28 y z.1 z.2.1 z.2.2.1 z.2.2.2.1 z.2.2.2.2) LF (x1, (-1), (-1), 0, u) else fX9_bestFirst_b11 u))
set_option maxHeartbeats 4000000 in
set_option maxRecDepth 100000 in
theorem tX9_bestFirst_b0 {p : Program} {l : Launch} {e : Env} {s : State} {m : MethodId} {args : Array Value} {below : List Frame} {meth : Method} {c : Code} {D : va_G} {cy : Nat → ClassId} {A : Nat → Prop} {ad : Nat → Nat} {hh : Nat → Nat} {aa : Nat → Nat → Nat} {pa : Nat → Nat} {za zv : Nat → Nat} (K : (String ⊕ Int32) × FS → Prop) (E : mE D cy RX9 cX9_bestFirst 6 (some .int) wsX9_bestFirst A p s m args meth c) (hfl : l.stackTraces = false) (hex : ∀ x ∈ c.exceptionTable.toList, False) (hZ : mZ za zv A s s.heap)
     (x1 : Int32) (u : FS) (H : Heap) (locs : List Loc) (ls : Array Slot) (hl : lv_has ls 6 [(0, .ref (ad 0)), (1, .int x1)]) (hP : va_P D kCl (wF cy ad hh aa pa u) H) (hD : va_D A (wF cy ad hh aa pa u)) (hS : va_S A s.heap H locs) (h1 : Ok (fX9_bestFirst_b0 x1 u) K) :
    kWx p l e rmX9_bestFirst s m args below meth c H locs (va_Qi (fun r q => K (.inr r, q)) (fun q => kPost D A (wF cy ad hh aa pa q)) A) (vx_X (fun _ : FS => True) (fun E q t => K (.inl E, q) ∧ kPost D A (wF cy ad hh aa pa q) t) A) A 0 ls [] := by
  obtain ⟨hx, hb, hr, hml, hown, hts, hlocks, hK, hA⟩ := id E
  unfold fX9_bestFirst_b0 at h1
  refine lv_iload_n hx hb dX9_bestFirst_0 rfl (lv_at hl 1 rfl) ?_
  refine lv_iconst (v := 1) hx hb dX9_bestFirst_1 rfl ?_
  refine lv_icmp_lt (tgt := 11) hx hb dX9_bestFirst_2 (by decide) (fun c2 => ?_) (fun c2 => ?_)
  · replace h1 := Ok.pos c2 h1
    exact tX9_bestFirst_b11 K E hfl hex hZ u H locs ls (lv_sub hl [] rfl) hP hD hS h1
  · replace h1 := Ok.neg c2 h1
    refine lv_iload_n hx hb dX9_bestFirst_5 rfl (lv_at hl 1 rfl) ?_
    refine lv_bipush (v := 99) hx hb dX9_bestFirst_6 rfl ?_
    refine lv_icmp_le (tgt := 21) hx hb dX9_bestFirst_8 (by decide) (fun c8 => ?_) (fun c8 => ?_)
    · replace h1 := Ok.pos c8 h1
      refine lv_iconst (v := (-1)) hx hb dX9_bestFirst_21 rfl ?_
      refine lv_istore_n (lv' := [(2, .int (-1)), (0, .ref (ad 0)), (1, .int x1)]) hx hb dX9_bestFirst_22 rfl hl (by decide) rfl (fun ls hl => ?_)
      refine lv_iconst (v := (-1)) hx hb dX9_bestFirst_23 rfl ?_
      refine lv_istore_n (lv' := [(3, .int (-1)), (2, .int (-1)), (0, .ref (ad 0)), (1, .int x1)]) hx hb dX9_bestFirst_24 rfl hl (by decide) rfl (fun ls hl => ?_)
      refine lv_iconst (v := 0) hx hb dX9_bestFirst_25 rfl ?_
      refine lv_istore (lv' := [(4, .int 0), (3, .int (-1)), (2, .int (-1)), (0, .ref (ad 0)), (1, .int x1)]) hx hb dX9_bestFirst_26 hl (by decide) rfl (fun ls hl => ?_)
      exact tX9_bestFirst_l28 K E hfl hex hZ LF x1 (-1) (-1) 0 u H locs ls (lv_sub hl [3, 4, 2, 1, 0] rfl) hP hD hS h1
    · replace h1 := Ok.neg c8 h1
      exact tX9_bestFirst_b11 K E hfl hex hZ u H locs ls (lv_sub hl [] rfl) hP hD hS h1
def fX9_bestFirst (p1 : Int32) (u : FS) : Option ((String ⊕ Int32) × FS) := fX9_bestFirst_b0 p1 u
set_option maxHeartbeats 4000000 in
set_option maxRecDepth 100000 in
theorem cX9_bestFirstM (l : Launch) (hfl : l.stackTraces = false) (D : va_G) (cy : Nat → ClassId) (za zv : Nat → Nat) (ad : Nat → Nat) (hh : Nat → Nat) (aa : Nat → Nat → Nat) (pa : Nat → Nat) (sz : Nat) (u : FS) (p1 : Int32) : ∀ (K : (String ⊕ Int32) × FS → Prop), Ok (fX9_bestFirst p1 u) K → vx_Met l yX9_bestFirst wsX9_bestFirst rmX9_bestFirst (va_Pc [.ref (ad 0), .int p1] (kPreZ D cy za zv sz (wF cy ad hh aa pa u))) (va_Qi (fun r q => K (.inr r, q)) (fun q => kPost D (va_A (wF cy ad hh aa pa u) sz) (wF cy ad hh aa pa q)) (va_A (wF cy ad hh aa pa u) sz)) (vx_X (fun _ : FS => True) (fun E q t => K (.inl E, q) ∧ kPost D (va_A (wF cy ad hh aa pa u) sz) (wF cy ad hh aa pa q) t) (va_A (wF cy ad hh aa pa u) sz)) 1 6 (va_A (wF cy ad hh aa pa u) sz) := by
  intro K h1
  refine vx_ofW (cc := cX9_bestFirst) (maxL := 6) (ret := (some .int)) (by decide) rfl ?_
  intro p e s m args below meth c s₁ B hml hex hv
  obtain ⟨rfl, ⟨hsz, hP, hK, hD0⟩, hZ⟩ := hv
  subst hsz
  have E : mE D cy RX9 cX9_bestFirst 6 (some .int) wsX9_bestFirst (va_A (wF cy ad hh aa pa u) s.heap.size) p s m _ meth c := ⟨B.exec, B.bytes, B.returns, hml, findClass_of_methodNamed B.named, atoms_spec (ws := wsX9_bestFirst) B.pre, B.notSynchronized, hK, fun q h => Or.inr h⟩
  have hl := lv_entry ([.ref (ad 0), .int p1]) (n := 6) (Nat.le_of_ble_eq_true rfl)
  rw [lg_entry_eq]
  generalize (lg_sl ([.ref (ad 0), .int p1]) ++ List.replicate (6 - (lg_sl ([.ref (ad 0), .int p1])).length) Slot.unset).toArray = ls at hl ⊢
  exact tX9_bestFirst_b0 K E hfl hex hZ p1 u _ _ _ hl hP hD0.self va_S.rf h1
-- X9_tick
theorem xaX9_tick_75 : ∀ w ∈ (vx_atS RX9 75 "java/lang/IllegalArgumentException" ["java/lang/RuntimeException", "java/lang/Exception"]).filter goodWord, w ∈ wsX9_tick := fun w h => List.mem_cons_of_mem _ (List.mem_append_right _ h)
theorem hdX9_doTick : yX9_doTick.cls = RX9 ∧ yX9_doTick.cls ≠ "java/lang/invoke/MethodHandle" ∧ yX9_doTick.cls ≠ "java/lang/invoke/VarHandle" ∧ (parseMethodDescriptor yX9_doTick.desc).map (fun d => d.parameters.length) = some 1 := by decide +kernel
abbrev rmX9_tick : Room := { frames := 6, cells := 1, slots := 6, locals := 142 }
def fX9_tick_b11 (u : FS) : Option ((String ⊕ Int32) × FS) :=
  some (.inl "java/lang/IllegalArgumentException", u)
set_option maxHeartbeats 4000000 in
set_option maxRecDepth 100000 in
theorem tX9_tick_b11 {p : Program} {l : Launch} {e : Env} {s : State} {m : MethodId} {args : Array Value} {below : List Frame} {meth : Method} {c : Code} {D : va_G} {cy : Nat → ClassId} {A : Nat → Prop} {ad : Nat → Nat} {hh : Nat → Nat} {aa : Nat → Nat → Nat} {pa : Nat → Nat} {za zv : Nat → Nat} (K : (String ⊕ Int32) × FS → Prop) (E : mE D cy RX9 cX9_tick 2 (some .int) wsX9_tick A p s m args meth c) (hfl : l.stackTraces = false) (hex : ∀ x ∈ c.exceptionTable.toList, False) (hZ : mZ za zv A s s.heap)
     (u : FS) (H : Heap) (locs : List Loc) (ls : Array Slot) (hl : lv_has ls 2 []) (hP : va_P D kCl (wF cy ad hh aa pa u) H) (hD : va_D A (wF cy ad hh aa pa u)) (hS : va_S A s.heap H locs) (h1 : Ok (fX9_tick_b11 u) K) :
    kWx p l e rmX9_tick s m args below meth c H locs (va_Qi (fun r q => K (.inr r, q)) (fun q => kPost D A (wF cy ad hh aa pa q)) A) (vx_X (fun _ : FS => True) (fun E q t => K (.inl E, q) ∧ kPost D A (wF cy ad hh aa pa q) t) A) A 11 ls [] := by
  obtain ⟨hx, hb, hr, hml, hown, hts, hlocks, hK, hA⟩ := id E
  unfold fX9_tick_b11 at h1
  exact kx_throw (names := ["java/lang/RuntimeException", "java/lang/Exception"]) (text := "many") (sa := za 9) hx hb hfl hml hown (by decide) (by decide) (hts _ (List.mem_of_getElem? (i := 1) rfl)) (hts _ (List.mem_of_getElem? (i := 2) rfl)) (k_site hZ 9 (by decide)) (vx_hat (fun w h => hts w (xaX9_tick_75 w h)) xbRX9_75 (hZ.cast (by decide))) xgRX9_72_75 hZ hK hP hD hS hl.1 dX9_tick_11 dX9_tick_14 dX9_tick_15 dX9_tick_17 dX9_tick_20 hex hlocks h1 (Nat.le_of_ble_eq_true rfl) (Nat.le_of_ble_eq_true rfl) (Nat.le_of_ble_eq_true rfl) (Nat.le_of_ble_eq_true rfl)
def fX9_tick_b0 (x1 : Int32) (u : FS) : Option ((String ⊕ Int32) × FS) :=
  (if x1 < 1 then fX9_tick_b11 u else (if x1 ≤ 50 then bnd2 (fX9_doTick x1 u) (fun r23 u23 => some (.inr r23, u23)) else fX9_tick_b11 u))
set_option maxHeartbeats 4000000 in
set_option maxRecDepth 100000 in
theorem tX9_tick_b0 {p : Program} {l : Launch} {e : Env} {s : State} {m : MethodId} {args : Array Value} {below : List Frame} {meth : Method} {c : Code} {D : va_G} {cy : Nat → ClassId} {A : Nat → Prop} {ad : Nat → Nat} {hh : Nat → Nat} {aa : Nat → Nat → Nat} {pa : Nat → Nat} {za zv : Nat → Nat} (K : (String ⊕ Int32) × FS → Prop) (E : mE D cy RX9 cX9_tick 2 (some .int) wsX9_tick A p s m args meth c) (hfl : l.stackTraces = false) (hex : ∀ x ∈ c.exceptionTable.toList, False) (hZ : mZ za zv A s s.heap)
     (x1 : Int32) (u : FS) (H : Heap) (locs : List Loc) (ls : Array Slot) (hl : lv_has ls 2 [(0, .ref (ad 0)), (1, .int x1)]) (hP : va_P D kCl (wF cy ad hh aa pa u) H) (hD : va_D A (wF cy ad hh aa pa u)) (hS : va_S A s.heap H locs) (h1 : Ok (fX9_tick_b0 x1 u) K) :
    kWx p l e rmX9_tick s m args below meth c H locs (va_Qi (fun r q => K (.inr r, q)) (fun q => kPost D A (wF cy ad hh aa pa q)) A) (vx_X (fun _ : FS => True) (fun E q t => K (.inl E, q) ∧ kPost D A (wF cy ad hh aa pa q) t) A) A 0 ls [] := by
  obtain ⟨hx, hb, hr, hml, hown, hts, hlocks, hK, hA⟩ := id E
  unfold fX9_tick_b0 at h1
  refine lv_iload_n hx hb dX9_tick_0 rfl (lv_at hl 1 rfl) ?_
  refine lv_iconst (v := 1) hx hb dX9_tick_1 rfl ?_
  refine lv_icmp_lt (tgt := 11) hx hb dX9_tick_2 (by decide) (fun c2 => ?_) (fun c2 => ?_)
  · replace h1 := Ok.pos c2 h1
    exact tX9_tick_b11 K E hfl hex hZ u H locs ls (lv_sub hl [] rfl) hP hD hS h1
  · replace h1 := Ok.neg c2 h1
    refine lv_iload_n hx hb dX9_tick_5 rfl (lv_at hl 1 rfl) ?_
    refine lv_bipush (v := 50) hx hb dX9_tick_6 rfl ?_
    refine lv_icmp_le (tgt := 21) hx hb dX9_tick_8 (by decide) (fun c8 => ?_) (fun c8 => ?_)
    · replace h1 := Ok.pos c8 h1
      refine lv_aload_n hx hb dX9_tick_21 rfl (lv_at hl 0 rfl) ?_
      refine lv_iload_n hx hb dX9_tick_22 rfl (lv_at hl 1 rfl) ?_
      refine kc_iV0 (b := (ad 0)) (As := [.int x1]) (rest := []) h1 ⟨hx, hb, hml, hown, hts⟩ (cX9_doTickM l D cy ad hh aa pa H.size u x1) (cwV 1 hts gX9_tick_X9_doTick rfl rfl rfl hdX9_doTick ⟨Nat.le_of_ble_eq_true rfl, Nat.le_of_ble_eq_true rfl⟩) hK hP hD hS hA (q0 := 0) rfl rfl rfl hl.1 rfl (Nat.le_of_ble_eq_true rfl) dX9_tick_23 ⟨Nat.zero_le _, Nat.zero_le _⟩ (fun r23 u23 H locs h1 hP hD hS => ?_)
      exact kret_x hx hb hr hlocks hP hD hS h1 dX9_tick_26
    · replace h1 := Ok.neg c8 h1
      exact tX9_tick_b11 K E hfl hex hZ u H locs ls (lv_sub hl [] rfl) hP hD hS h1
def fX9_tick (p1 : Int32) (u : FS) : Option ((String ⊕ Int32) × FS) := fX9_tick_b0 p1 u
set_option maxHeartbeats 4000000 in
set_option maxRecDepth 100000 in
theorem cX9_tickM (l : Launch) (hfl : l.stackTraces = false) (D : va_G) (cy : Nat → ClassId) (za zv : Nat → Nat) (ad : Nat → Nat) (hh : Nat → Nat) (aa : Nat → Nat → Nat) (pa : Nat → Nat) (sz : Nat) (u : FS) (p1 : Int32) : ∀ (K : (String ⊕ Int32) × FS → Prop), Ok (fX9_tick p1 u) K → vx_Met l yX9_tick wsX9_tick rmX9_tick (va_Pc [.ref (ad 0), .int p1] (kPreZ D cy za zv sz (wF cy ad hh aa pa u))) (va_Qi (fun r q => K (.inr r, q)) (fun q => kPost D (va_A (wF cy ad hh aa pa u) sz) (wF cy ad hh aa pa q)) (va_A (wF cy ad hh aa pa u) sz)) (vx_X (fun _ : FS => True) (fun E q t => K (.inl E, q) ∧ kPost D (va_A (wF cy ad hh aa pa u) sz) (wF cy ad hh aa pa q) t) (va_A (wF cy ad hh aa pa u) sz)) 1 6 (va_A (wF cy ad hh aa pa u) sz) := by
  intro K h1
  refine vx_ofW (cc := cX9_tick) (maxL := 2) (ret := (some .int)) (by decide) rfl ?_
  intro p e s m args below meth c s₁ B hml hex hv
  obtain ⟨rfl, ⟨hsz, hP, hK, hD0⟩, hZ⟩ := hv
  subst hsz
  have E : mE D cy RX9 cX9_tick 2 (some .int) wsX9_tick (va_A (wF cy ad hh aa pa u) s.heap.size) p s m _ meth c := ⟨B.exec, B.bytes, B.returns, hml, findClass_of_methodNamed B.named, atoms_spec (ws := wsX9_tick) B.pre, B.notSynchronized, hK, fun q h => Or.inr h⟩
  have hl := lv_entry ([.ref (ad 0), .int p1]) (n := 2) (Nat.le_of_ble_eq_true rfl)
  rw [lg_entry_eq]
  generalize (lg_sl ([.ref (ad 0), .int p1]) ++ List.replicate (2 - (lg_sl ([.ref (ad 0), .int p1])).length) Slot.unset).toArray = ls at hl ⊢
  exact tX9_tick_b0 K E hfl hex hZ p1 u _ _ _ hl hP hD0.self va_S.rf h1
-- X9_arrive
theorem xaX9_arrive_123 : ∀ w ∈ (vx_atS RX9 123 "java/lang/IndexOutOfBoundsException" ["java/lang/RuntimeException", "java/lang/Exception"]).filter goodWord, w ∈ wsX9_arrive := fun w h => List.mem_cons_of_mem _ (List.mem_append_left _ (List.mem_append_right _ h))
theorem xaX9_arrive_75 : ∀ w ∈ (vx_atS RX9 75 "java/lang/IllegalArgumentException" ["java/lang/RuntimeException", "java/lang/Exception"]).filter goodWord, w ∈ wsX9_arrive := fun w h => List.mem_cons_of_mem _ (List.mem_append_right _ h)
theorem hdX9_doArrive : yX9_doArrive.cls = RX9 ∧ yX9_doArrive.cls ≠ "java/lang/invoke/MethodHandle" ∧ yX9_doArrive.cls ≠ "java/lang/invoke/VarHandle" ∧ (parseMethodDescriptor yX9_doArrive.desc).map (fun d => d.parameters.length) = some 2 := by decide +kernel
abbrev rmX9_arrive : Room := { frames := 6, cells := 1, slots := 6, locals := 125 }
def fX9_arrive_b9 (u : FS) : Option ((String ⊕ Int32) × FS) :=
  some (.inl "java/lang/IndexOutOfBoundsException", u)
set_option maxHeartbeats 4000000 in
set_option maxRecDepth 100000 in
theorem tX9_arrive_b9 {p : Program} {l : Launch} {e : Env} {s : State} {m : MethodId} {args : Array Value} {below : List Frame} {meth : Method} {c : Code} {D : va_G} {cy : Nat → ClassId} {A : Nat → Prop} {ad : Nat → Nat} {hh : Nat → Nat} {aa : Nat → Nat → Nat} {pa : Nat → Nat} {za zv : Nat → Nat} (K : (String ⊕ Int32) × FS → Prop) (E : mE D cy RX9 cX9_arrive 3 (some .int) wsX9_arrive A p s m args meth c) (hfl : l.stackTraces = false) (hex : ∀ x ∈ c.exceptionTable.toList, False) (hZ : mZ za zv A s s.heap)
     (u : FS) (H : Heap) (locs : List Loc) (ls : Array Slot) (hl : lv_has ls 3 []) (hP : va_P D kCl (wF cy ad hh aa pa u) H) (hD : va_D A (wF cy ad hh aa pa u)) (hS : va_S A s.heap H locs) (h1 : Ok (fX9_arrive_b9 u) K) :
    kWx p l e rmX9_arrive s m args below meth c H locs (va_Qi (fun r q => K (.inr r, q)) (fun q => kPost D A (wF cy ad hh aa pa q)) A) (vx_X (fun _ : FS => True) (fun E q t => K (.inl E, q) ∧ kPost D A (wF cy ad hh aa pa q) t) A) A 9 ls [] := by
  obtain ⟨hx, hb, hr, hml, hown, hts, hlocks, hK, hA⟩ := id E
  unfold fX9_arrive_b9 at h1
  exact kx_throw (names := ["java/lang/RuntimeException", "java/lang/Exception"]) (text := "kind") (sa := za 3) hx hb hfl hml hown (by decide) (by decide) (hts _ (List.mem_of_getElem? (i := 1) rfl)) (hts _ (List.mem_of_getElem? (i := 2) rfl)) (k_site hZ 3 (by decide)) (vx_hat (fun w h => hts w (xaX9_arrive_123 w h)) xbRX9_123 (hZ.cast (by decide))) xgRX9_119_123 hZ hK hP hD hS hl.1 dX9_arrive_9 dX9_arrive_12 dX9_arrive_13 dX9_arrive_15 dX9_arrive_18 hex hlocks h1 (Nat.le_of_ble_eq_true rfl) (Nat.le_of_ble_eq_true rfl) (Nat.le_of_ble_eq_true rfl) (Nat.le_of_ble_eq_true rfl)
def fX9_arrive_b31 (u : FS) : Option ((String ⊕ Int32) × FS) :=
  some (.inl "java/lang/IllegalArgumentException", u)
set_option maxHeartbeats 4000000 in
set_option maxRecDepth 100000 in
theorem tX9_arrive_b31 {p : Program} {l : Launch} {e : Env} {s : State} {m : MethodId} {args : Array Value} {below : List Frame} {meth : Method} {c : Code} {D : va_G} {cy : Nat → ClassId} {A : Nat → Prop} {ad : Nat → Nat} {hh : Nat → Nat} {aa : Nat → Nat → Nat} {pa : Nat → Nat} {za zv : Nat → Nat} (K : (String ⊕ Int32) × FS → Prop) (E : mE D cy RX9 cX9_arrive 3 (some .int) wsX9_arrive A p s m args meth c) (hfl : l.stackTraces = false) (hex : ∀ x ∈ c.exceptionTable.toList, False) (hZ : mZ za zv A s s.heap)
     (u : FS) (H : Heap) (locs : List Loc) (ls : Array Slot) (hl : lv_has ls 3 []) (hP : va_P D kCl (wF cy ad hh aa pa u) H) (hD : va_D A (wF cy ad hh aa pa u)) (hS : va_S A s.heap H locs) (h1 : Ok (fX9_arrive_b31 u) K) :
    kWx p l e rmX9_arrive s m args below meth c H locs (va_Qi (fun r q => K (.inr r, q)) (fun q => kPost D A (wF cy ad hh aa pa q)) A) (vx_X (fun _ : FS => True) (fun E q t => K (.inl E, q) ∧ kPost D A (wF cy ad hh aa pa q) t) A) A 31 ls [] := by
  obtain ⟨hx, hb, hr, hml, hown, hts, hlocks, hK, hA⟩ := id E
  unfold fX9_arrive_b31 at h1
  exact kx_throw (names := ["java/lang/RuntimeException", "java/lang/Exception"]) (text := "weight") (sa := za 10) hx hb hfl hml hown (by decide) (by decide) (hts _ (List.mem_of_getElem? (i := 3) rfl)) (hts _ (List.mem_of_getElem? (i := 4) rfl)) (k_site hZ 10 (by decide)) (vx_hat (fun w h => hts w (xaX9_arrive_75 w h)) xbRX9_75 (hZ.cast (by decide))) xgRX9_72_75 hZ hK hP hD hS hl.1 dX9_arrive_31 dX9_arrive_34 dX9_arrive_35 dX9_arrive_37 dX9_arrive_40 hex hlocks h1 (Nat.le_of_ble_eq_true rfl) (Nat.le_of_ble_eq_true rfl) (Nat.le_of_ble_eq_true rfl) (Nat.le_of_ble_eq_true rfl)
def fX9_arrive_b0 (x1 : Int32) (x2 : Int32) (u : FS) : Option ((String ⊕ Int32) × FS) :=
  (if x1 < 0 then fX9_arrive_b9 u else (if x1 < 4 then (if x2 < 1 then fX9_arrive_b31 u else (if x2 ≤ 999 then bnd2 (fX9_doArrive x1 x2 u) (fun r44 u44 => some (.inr r44, u44)) else fX9_arrive_b31 u)) else fX9_arrive_b9 u))
set_option maxHeartbeats 4000000 in
set_option maxRecDepth 100000 in
theorem tX9_arrive_b0 {p : Program} {l : Launch} {e : Env} {s : State} {m : MethodId} {args : Array Value} {below : List Frame} {meth : Method} {c : Code} {D : va_G} {cy : Nat → ClassId} {A : Nat → Prop} {ad : Nat → Nat} {hh : Nat → Nat} {aa : Nat → Nat → Nat} {pa : Nat → Nat} {za zv : Nat → Nat} (K : (String ⊕ Int32) × FS → Prop) (E : mE D cy RX9 cX9_arrive 3 (some .int) wsX9_arrive A p s m args meth c) (hfl : l.stackTraces = false) (hex : ∀ x ∈ c.exceptionTable.toList, False) (hZ : mZ za zv A s s.heap)
     (x1 : Int32) (x2 : Int32) (u : FS) (H : Heap) (locs : List Loc) (ls : Array Slot) (hl : lv_has ls 3 [(0, .ref (ad 0)), (1, .int x1), (2, .int x2)]) (hP : va_P D kCl (wF cy ad hh aa pa u) H) (hD : va_D A (wF cy ad hh aa pa u)) (hS : va_S A s.heap H locs) (h1 : Ok (fX9_arrive_b0 x1 x2 u) K) :
    kWx p l e rmX9_arrive s m args below meth c H locs (va_Qi (fun r q => K (.inr r, q)) (fun q => kPost D A (wF cy ad hh aa pa q)) A) (vx_X (fun _ : FS => True) (fun E q t => K (.inl E, q) ∧ kPost D A (wF cy ad hh aa pa q) t) A) A 0 ls [] := by
  obtain ⟨hx, hb, hr, hml, hown, hts, hlocks, hK, hA⟩ := id E
  unfold fX9_arrive_b0 at h1
  refine lv_iload_n hx hb dX9_arrive_0 rfl (lv_at hl 1 rfl) ?_
  refine lv_if_lt (tgt := 9) hx hb dX9_arrive_1 (by decide) (fun c1 => ?_) (fun c1 => ?_)
  · replace h1 := Ok.pos c1 h1
    exact tX9_arrive_b9 K E hfl hex hZ u H locs ls (lv_sub hl [] rfl) hP hD hS h1
  · replace h1 := Ok.neg c1 h1
    refine lv_iload_n hx hb dX9_arrive_4 rfl (lv_at hl 1 rfl) ?_
    refine lv_iconst (v := 4) hx hb dX9_arrive_5 rfl ?_
    refine lv_icmp_lt (tgt := 19) hx hb dX9_arrive_6 (by decide) (fun c6 => ?_) (fun c6 => ?_)
    · replace h1 := Ok.pos c6 h1
      refine lv_iload_n hx hb dX9_arrive_19 rfl (lv_at hl 2 rfl) ?_
      refine lv_iconst (v := 1) hx hb dX9_arrive_20 rfl ?_
      refine lv_icmp_lt (tgt := 31) hx hb dX9_arrive_21 (by decide) (fun c21 => ?_) (fun c21 => ?_)
      · replace h1 := Ok.pos c21 h1
        exact tX9_arrive_b31 K E hfl hex hZ u H locs ls (lv_sub hl [] rfl) hP hD hS h1
      · replace h1 := Ok.neg c21 h1
        refine lv_iload_n hx hb dX9_arrive_24 rfl (lv_at hl 2 rfl) ?_
        refine lv_sipush (v := 999) hx hb dX9_arrive_25 rfl ?_
        refine lv_icmp_le (tgt := 41) hx hb dX9_arrive_28 (by decide) (fun c28 => ?_) (fun c28 => ?_)
        · replace h1 := Ok.pos c28 h1
          refine lv_aload_n hx hb dX9_arrive_41 rfl (lv_at hl 0 rfl) ?_
          refine lv_iload_n hx hb dX9_arrive_42 rfl (lv_at hl 1 rfl) ?_
          refine lv_iload_n hx hb dX9_arrive_43 rfl (lv_at hl 2 rfl) ?_
          refine kc_iV0 (b := (ad 0)) (As := [.int x1, .int x2]) (rest := []) h1 ⟨hx, hb, hml, hown, hts⟩ (cX9_doArriveM l D cy ad hh aa pa H.size u x1 x2) (cwV 2 hts gX9_arrive_X9_doArrive rfl rfl rfl hdX9_doArrive ⟨Nat.le_of_ble_eq_true rfl, Nat.le_of_ble_eq_true rfl⟩) hK hP hD hS hA (q0 := 0) rfl rfl rfl hl.1 rfl (Nat.le_of_ble_eq_true rfl) dX9_arrive_44 ⟨Nat.zero_le _, Nat.zero_le _⟩ (fun r44 u44 H locs h1 hP hD hS => ?_)
          exact kret_x hx hb hr hlocks hP hD hS h1 dX9_arrive_47
        · replace h1 := Ok.neg c28 h1
          exact tX9_arrive_b31 K E hfl hex hZ u H locs ls (lv_sub hl [] rfl) hP hD hS h1
    · replace h1 := Ok.neg c6 h1
      exact tX9_arrive_b9 K E hfl hex hZ u H locs ls (lv_sub hl [] rfl) hP hD hS h1
def fX9_arrive (p1 : Int32) (p2 : Int32) (u : FS) : Option ((String ⊕ Int32) × FS) := fX9_arrive_b0 p1 p2 u
set_option maxHeartbeats 4000000 in
set_option maxRecDepth 100000 in
theorem cX9_arriveM (l : Launch) (hfl : l.stackTraces = false) (D : va_G) (cy : Nat → ClassId) (za zv : Nat → Nat) (ad : Nat → Nat) (hh : Nat → Nat) (aa : Nat → Nat → Nat) (pa : Nat → Nat) (sz : Nat) (u : FS) (p1 : Int32) (p2 : Int32) : ∀ (K : (String ⊕ Int32) × FS → Prop), Ok (fX9_arrive p1 p2 u) K → vx_Met l yX9_arrive wsX9_arrive rmX9_arrive (va_Pc [.ref (ad 0), .int p1, .int p2] (kPreZ D cy za zv sz (wF cy ad hh aa pa u))) (va_Qi (fun r q => K (.inr r, q)) (fun q => kPost D (va_A (wF cy ad hh aa pa u) sz) (wF cy ad hh aa pa q)) (va_A (wF cy ad hh aa pa u) sz)) (vx_X (fun _ : FS => True) (fun E q t => K (.inl E, q) ∧ kPost D (va_A (wF cy ad hh aa pa u) sz) (wF cy ad hh aa pa q) t) (va_A (wF cy ad hh aa pa u) sz)) 1 6 (va_A (wF cy ad hh aa pa u) sz) := by
  intro K h1
  refine vx_ofW (cc := cX9_arrive) (maxL := 3) (ret := (some .int)) (by decide) rfl ?_
  intro p e s m args below meth c s₁ B hml hex hv
  obtain ⟨rfl, ⟨hsz, hP, hK, hD0⟩, hZ⟩ := hv
  subst hsz
  have E : mE D cy RX9 cX9_arrive 3 (some .int) wsX9_arrive (va_A (wF cy ad hh aa pa u) s.heap.size) p s m _ meth c := ⟨B.exec, B.bytes, B.returns, hml, findClass_of_methodNamed B.named, atoms_spec (ws := wsX9_arrive) B.pre, B.notSynchronized, hK, fun q h => Or.inr h⟩
  have hl := lv_entry ([.ref (ad 0), .int p1, .int p2]) (n := 3) (Nat.le_of_ble_eq_true rfl)
  rw [lg_entry_eq]
  generalize (lg_sl ([.ref (ad 0), .int p1, .int p2]) ++ List.replicate (3 - (lg_sl ([.ref (ad 0), .int p1, .int p2])).length) Slot.unset).toArray = ls at hl ⊢
  exact tX9_arrive_b0 K E hfl hex hZ p1 p2 u _ _ _ hl hP hD0.self va_S.rf h1
-- X9_wave
theorem xaX9_wave_123 : ∀ w ∈ (vx_atS RX9 123 "java/lang/IndexOutOfBoundsException" ["java/lang/RuntimeException", "java/lang/Exception"]).filter goodWord, w ∈ wsX9_wave := fun w h => List.mem_cons_of_mem _ (List.mem_append_right _ h)
theorem hdX9_doWave : yX9_doWave.cls = RX9 ∧ yX9_doWave.cls ≠ "java/lang/invoke/MethodHandle" ∧ yX9_doWave.cls ≠ "java/lang/invoke/VarHandle" ∧ (parseMethodDescriptor yX9_doWave.desc).map (fun d => d.parameters.length) = some 1 := by decide +kernel
abbrev rmX9_wave : Room := { frames := 6, cells := 1, slots := 6, locals := 125 }
def fX9_wave_b10 (u : FS) : Option ((String ⊕ Int32) × FS) :=
  some (.inl "java/lang/IndexOutOfBoundsException", u)
set_option maxHeartbeats 4000000 in
set_option maxRecDepth 100000 in
theorem tX9_wave_b10 {p : Program} {l : Launch} {e : Env} {s : State} {m : MethodId} {args : Array Value} {below : List Frame} {meth : Method} {c : Code} {D : va_G} {cy : Nat → ClassId} {A : Nat → Prop} {ad : Nat → Nat} {hh : Nat → Nat} {aa : Nat → Nat → Nat} {pa : Nat → Nat} {za zv : Nat → Nat} (K : (String ⊕ Int32) × FS → Prop) (E : mE D cy RX9 cX9_wave 2 (some .int) wsX9_wave A p s m args meth c) (hfl : l.stackTraces = false) (hex : ∀ x ∈ c.exceptionTable.toList, False) (hZ : mZ za zv A s s.heap)
     (u : FS) (H : Heap) (locs : List Loc) (ls : Array Slot) (hl : lv_has ls 2 []) (hP : va_P D kCl (wF cy ad hh aa pa u) H) (hD : va_D A (wF cy ad hh aa pa u)) (hS : va_S A s.heap H locs) (h1 : Ok (fX9_wave_b10 u) K) :
    kWx p l e rmX9_wave s m args below meth c H locs (va_Qi (fun r q => K (.inr r, q)) (fun q => kPost D A (wF cy ad hh aa pa q)) A) (vx_X (fun _ : FS => True) (fun E q t => K (.inl E, q) ∧ kPost D A (wF cy ad hh aa pa q) t) A) A 10 ls [] := by
  obtain ⟨hx, hb, hr, hml, hown, hts, hlocks, hK, hA⟩ := id E
  unfold fX9_wave_b10 at h1
  exact kx_throw (names := ["java/lang/RuntimeException", "java/lang/Exception"]) (text := "car") (sa := za 4) hx hb hfl hml hown (by decide) (by decide) (hts _ (List.mem_of_getElem? (i := 1) rfl)) (hts _ (List.mem_of_getElem? (i := 2) rfl)) (k_site hZ 4 (by decide)) (vx_hat (fun w h => hts w (xaX9_wave_123 w h)) xbRX9_123 (hZ.cast (by decide))) xgRX9_119_123 hZ hK hP hD hS hl.1 dX9_wave_10 dX9_wave_13 dX9_wave_14 dX9_wave_16 dX9_wave_19 hex hlocks h1 (Nat.le_of_ble_eq_true rfl) (Nat.le_of_ble_eq_true rfl) (Nat.le_of_ble_eq_true rfl) (Nat.le_of_ble_eq_true rfl)
def fX9_wave_b0 (x1 : Int32) (u : FS) : Option ((String ⊕ Int32) × FS) :=
  (if x1 < 0 then fX9_wave_b10 u else (if x1 < 60 then bnd2 (fX9_doWave x1 u) (fun r22 u22 => some (.inr r22, u22)) else fX9_wave_b10 u))
set_option maxHeartbeats 4000000 in
set_option maxRecDepth 100000 in
theorem tX9_wave_b0 {p : Program} {l : Launch} {e : Env} {s : State} {m : MethodId} {args : Array Value} {below : List Frame} {meth : Method} {c : Code} {D : va_G} {cy : Nat → ClassId} {A : Nat → Prop} {ad : Nat → Nat} {hh : Nat → Nat} {aa : Nat → Nat → Nat} {pa : Nat → Nat} {za zv : Nat → Nat} (K : (String ⊕ Int32) × FS → Prop) (E : mE D cy RX9 cX9_wave 2 (some .int) wsX9_wave A p s m args meth c) (hfl : l.stackTraces = false) (hex : ∀ x ∈ c.exceptionTable.toList, False) (hZ : mZ za zv A s s.heap)
     (x1 : Int32) (u : FS) (H : Heap) (locs : List Loc) (ls : Array Slot) (hl : lv_has ls 2 [(0, .ref (ad 0)), (1, .int x1)]) (hP : va_P D kCl (wF cy ad hh aa pa u) H) (hD : va_D A (wF cy ad hh aa pa u)) (hS : va_S A s.heap H locs) (h1 : Ok (fX9_wave_b0 x1 u) K) :
    kWx p l e rmX9_wave s m args below meth c H locs (va_Qi (fun r q => K (.inr r, q)) (fun q => kPost D A (wF cy ad hh aa pa q)) A) (vx_X (fun _ : FS => True) (fun E q t => K (.inl E, q) ∧ kPost D A (wF cy ad hh aa pa q) t) A) A 0 ls [] := by
  obtain ⟨hx, hb, hr, hml, hown, hts, hlocks, hK, hA⟩ := id E
  unfold fX9_wave_b0 at h1
  refine lv_iload_n hx hb dX9_wave_0 rfl (lv_at hl 1 rfl) ?_
  refine lv_if_lt (tgt := 10) hx hb dX9_wave_1 (by decide) (fun c1 => ?_) (fun c1 => ?_)
  · replace h1 := Ok.pos c1 h1
    exact tX9_wave_b10 K E hfl hex hZ u H locs ls (lv_sub hl [] rfl) hP hD hS h1
  · replace h1 := Ok.neg c1 h1
    refine lv_iload_n hx hb dX9_wave_4 rfl (lv_at hl 1 rfl) ?_
    refine lv_bipush (v := 60) hx hb dX9_wave_5 rfl ?_
    refine lv_icmp_lt (tgt := 20) hx hb dX9_wave_7 (by decide) (fun c7 => ?_) (fun c7 => ?_)
    · replace h1 := Ok.pos c7 h1
      refine lv_aload_n hx hb dX9_wave_20 rfl (lv_at hl 0 rfl) ?_
      refine lv_iload_n hx hb dX9_wave_21 rfl (lv_at hl 1 rfl) ?_
      refine kc_iV0 (b := (ad 0)) (As := [.int x1]) (rest := []) h1 ⟨hx, hb, hml, hown, hts⟩ (cX9_doWaveM l D cy ad hh aa pa H.size u x1) (cwV 1 hts gX9_wave_X9_doWave rfl rfl rfl hdX9_doWave ⟨Nat.le_of_ble_eq_true rfl, Nat.le_of_ble_eq_true rfl⟩) hK hP hD hS hA (q0 := 0) rfl rfl rfl hl.1 rfl (Nat.le_of_ble_eq_true rfl) dX9_wave_22 ⟨Nat.zero_le _, Nat.zero_le _⟩ (fun r22 u22 H locs h1 hP hD hS => ?_)
      exact kret_x hx hb hr hlocks hP hD hS h1 dX9_wave_25
    · replace h1 := Ok.neg c7 h1
      exact tX9_wave_b10 K E hfl hex hZ u H locs ls (lv_sub hl [] rfl) hP hD hS h1
def fX9_wave (p1 : Int32) (u : FS) : Option ((String ⊕ Int32) × FS) := fX9_wave_b0 p1 u
set_option maxHeartbeats 4000000 in
set_option maxRecDepth 100000 in
theorem cX9_waveM (l : Launch) (hfl : l.stackTraces = false) (D : va_G) (cy : Nat → ClassId) (za zv : Nat → Nat) (ad : Nat → Nat) (hh : Nat → Nat) (aa : Nat → Nat → Nat) (pa : Nat → Nat) (sz : Nat) (u : FS) (p1 : Int32) : ∀ (K : (String ⊕ Int32) × FS → Prop), Ok (fX9_wave p1 u) K → vx_Met l yX9_wave wsX9_wave rmX9_wave (va_Pc [.ref (ad 0), .int p1] (kPreZ D cy za zv sz (wF cy ad hh aa pa u))) (va_Qi (fun r q => K (.inr r, q)) (fun q => kPost D (va_A (wF cy ad hh aa pa u) sz) (wF cy ad hh aa pa q)) (va_A (wF cy ad hh aa pa u) sz)) (vx_X (fun _ : FS => True) (fun E q t => K (.inl E, q) ∧ kPost D (va_A (wF cy ad hh aa pa u) sz) (wF cy ad hh aa pa q) t) (va_A (wF cy ad hh aa pa u) sz)) 1 6 (va_A (wF cy ad hh aa pa u) sz) := by
  intro K h1
  refine vx_ofW (cc := cX9_wave) (maxL := 2) (ret := (some .int)) (by decide) rfl ?_
  intro p e s m args below meth c s₁ B hml hex hv
  obtain ⟨rfl, ⟨hsz, hP, hK, hD0⟩, hZ⟩ := hv
  subst hsz
  have E : mE D cy RX9 cX9_wave 2 (some .int) wsX9_wave (va_A (wF cy ad hh aa pa u) s.heap.size) p s m _ meth c := ⟨B.exec, B.bytes, B.returns, hml, findClass_of_methodNamed B.named, atoms_spec (ws := wsX9_wave) B.pre, B.notSynchronized, hK, fun q h => Or.inr h⟩
  have hl := lv_entry ([.ref (ad 0), .int p1]) (n := 2) (Nat.le_of_ble_eq_true rfl)
  rw [lg_entry_eq]
  generalize (lg_sl ([.ref (ad 0), .int p1]) ++ List.replicate (2 - (lg_sl ([.ref (ad 0), .int p1])).length) Slot.unset).toArray = ls at hl ⊢
  exact tX9_wave_b0 K E hfl hex hZ p1 u _ _ _ hl hP hD0.self va_S.rf h1
-- X9_dismiss
theorem xaX9_dismiss_123 : ∀ w ∈ (vx_atS RX9 123 "java/lang/IndexOutOfBoundsException" ["java/lang/RuntimeException", "java/lang/Exception"]).filter goodWord, w ∈ wsX9_dismiss := fun w h => List.mem_cons_of_mem _ (List.mem_append_right _ h)
theorem hdX9_doDismiss : yX9_doDismiss.cls = RX9 ∧ yX9_doDismiss.cls ≠ "java/lang/invoke/MethodHandle" ∧ yX9_doDismiss.cls ≠ "java/lang/invoke/VarHandle" ∧ (parseMethodDescriptor yX9_doDismiss.desc).map (fun d => d.parameters.length) = some 1 := by decide +kernel
abbrev rmX9_dismiss : Room := { frames := 6, cells := 1, slots := 6, locals := 125 }
def fX9_dismiss_b10 (u : FS) : Option ((String ⊕ Int32) × FS) :=
  some (.inl "java/lang/IndexOutOfBoundsException", u)
set_option maxHeartbeats 4000000 in
set_option maxRecDepth 100000 in
theorem tX9_dismiss_b10 {p : Program} {l : Launch} {e : Env} {s : State} {m : MethodId} {args : Array Value} {below : List Frame} {meth : Method} {c : Code} {D : va_G} {cy : Nat → ClassId} {A : Nat → Prop} {ad : Nat → Nat} {hh : Nat → Nat} {aa : Nat → Nat → Nat} {pa : Nat → Nat} {za zv : Nat → Nat} (K : (String ⊕ Int32) × FS → Prop) (E : mE D cy RX9 cX9_dismiss 2 (some .int) wsX9_dismiss A p s m args meth c) (hfl : l.stackTraces = false) (hex : ∀ x ∈ c.exceptionTable.toList, False) (hZ : mZ za zv A s s.heap)
     (u : FS) (H : Heap) (locs : List Loc) (ls : Array Slot) (hl : lv_has ls 2 []) (hP : va_P D kCl (wF cy ad hh aa pa u) H) (hD : va_D A (wF cy ad hh aa pa u)) (hS : va_S A s.heap H locs) (h1 : Ok (fX9_dismiss_b10 u) K) :
    kWx p l e rmX9_dismiss s m args below meth c H locs (va_Qi (fun r q => K (.inr r, q)) (fun q => kPost D A (wF cy ad hh aa pa q)) A) (vx_X (fun _ : FS => True) (fun E q t => K (.inl E, q) ∧ kPost D A (wF cy ad hh aa pa q) t) A) A 10 ls [] := by
  obtain ⟨hx, hb, hr, hml, hown, hts, hlocks, hK, hA⟩ := id E
  unfold fX9_dismiss_b10 at h1
  exact kx_throw (names := ["java/lang/RuntimeException", "java/lang/Exception"]) (text := "car") (sa := za 4) hx hb hfl hml hown (by decide) (by decide) (hts _ (List.mem_of_getElem? (i := 1) rfl)) (hts _ (List.mem_of_getElem? (i := 2) rfl)) (k_site hZ 4 (by decide)) (vx_hat (fun w h => hts w (xaX9_dismiss_123 w h)) xbRX9_123 (hZ.cast (by decide))) xgRX9_119_123 hZ hK hP hD hS hl.1 dX9_dismiss_10 dX9_dismiss_13 dX9_dismiss_14 dX9_dismiss_16 dX9_dismiss_19 hex hlocks h1 (Nat.le_of_ble_eq_true rfl) (Nat.le_of_ble_eq_true rfl) (Nat.le_of_ble_eq_true rfl) (Nat.le_of_ble_eq_true rfl)
def fX9_dismiss_b0 (x1 : Int32) (u : FS) : Option ((String ⊕ Int32) × FS) :=
  (if x1 < 0 then fX9_dismiss_b10 u else (if x1 < 60 then bnd2 (fX9_doDismiss x1 u) (fun r22 u22 => some (.inr r22, u22)) else fX9_dismiss_b10 u))
set_option maxHeartbeats 4000000 in
set_option maxRecDepth 100000 in
theorem tX9_dismiss_b0 {p : Program} {l : Launch} {e : Env} {s : State} {m : MethodId} {args : Array Value} {below : List Frame} {meth : Method} {c : Code} {D : va_G} {cy : Nat → ClassId} {A : Nat → Prop} {ad : Nat → Nat} {hh : Nat → Nat} {aa : Nat → Nat → Nat} {pa : Nat → Nat} {za zv : Nat → Nat} (K : (String ⊕ Int32) × FS → Prop) (E : mE D cy RX9 cX9_dismiss 2 (some .int) wsX9_dismiss A p s m args meth c) (hfl : l.stackTraces = false) (hex : ∀ x ∈ c.exceptionTable.toList, False) (hZ : mZ za zv A s s.heap)
     (x1 : Int32) (u : FS) (H : Heap) (locs : List Loc) (ls : Array Slot) (hl : lv_has ls 2 [(0, .ref (ad 0)), (1, .int x1)]) (hP : va_P D kCl (wF cy ad hh aa pa u) H) (hD : va_D A (wF cy ad hh aa pa u)) (hS : va_S A s.heap H locs) (h1 : Ok (fX9_dismiss_b0 x1 u) K) :
    kWx p l e rmX9_dismiss s m args below meth c H locs (va_Qi (fun r q => K (.inr r, q)) (fun q => kPost D A (wF cy ad hh aa pa q)) A) (vx_X (fun _ : FS => True) (fun E q t => K (.inl E, q) ∧ kPost D A (wF cy ad hh aa pa q) t) A) A 0 ls [] := by
  obtain ⟨hx, hb, hr, hml, hown, hts, hlocks, hK, hA⟩ := id E
  unfold fX9_dismiss_b0 at h1
  refine lv_iload_n hx hb dX9_dismiss_0 rfl (lv_at hl 1 rfl) ?_
  refine lv_if_lt (tgt := 10) hx hb dX9_dismiss_1 (by decide) (fun c1 => ?_) (fun c1 => ?_)
  · replace h1 := Ok.pos c1 h1
    exact tX9_dismiss_b10 K E hfl hex hZ u H locs ls (lv_sub hl [] rfl) hP hD hS h1
  · replace h1 := Ok.neg c1 h1
    refine lv_iload_n hx hb dX9_dismiss_4 rfl (lv_at hl 1 rfl) ?_
    refine lv_bipush (v := 60) hx hb dX9_dismiss_5 rfl ?_
    refine lv_icmp_lt (tgt := 20) hx hb dX9_dismiss_7 (by decide) (fun c7 => ?_) (fun c7 => ?_)
    · replace h1 := Ok.pos c7 h1
      refine lv_aload_n hx hb dX9_dismiss_20 rfl (lv_at hl 0 rfl) ?_
      refine lv_iload_n hx hb dX9_dismiss_21 rfl (lv_at hl 1 rfl) ?_
      refine kc_iV0 (b := (ad 0)) (As := [.int x1]) (rest := []) h1 ⟨hx, hb, hml, hown, hts⟩ (cX9_doDismissM l D cy ad hh aa pa H.size u x1) (cwV 1 hts gX9_dismiss_X9_doDismiss rfl rfl rfl hdX9_doDismiss ⟨Nat.le_of_ble_eq_true rfl, Nat.le_of_ble_eq_true rfl⟩) hK hP hD hS hA (q0 := 0) rfl rfl rfl hl.1 rfl (Nat.le_of_ble_eq_true rfl) dX9_dismiss_22 ⟨Nat.zero_le _, Nat.zero_le _⟩ (fun r22 u22 H locs h1 hP hD hS => ?_)
      exact kret_x hx hb hr hlocks hP hD hS h1 dX9_dismiss_25
    · replace h1 := Ok.neg c7 h1
      exact tX9_dismiss_b10 K E hfl hex hZ u H locs ls (lv_sub hl [] rfl) hP hD hS h1
def fX9_dismiss (p1 : Int32) (u : FS) : Option ((String ⊕ Int32) × FS) := fX9_dismiss_b0 p1 u
set_option maxHeartbeats 4000000 in
set_option maxRecDepth 100000 in
theorem cX9_dismissM (l : Launch) (hfl : l.stackTraces = false) (D : va_G) (cy : Nat → ClassId) (za zv : Nat → Nat) (ad : Nat → Nat) (hh : Nat → Nat) (aa : Nat → Nat → Nat) (pa : Nat → Nat) (sz : Nat) (u : FS) (p1 : Int32) : ∀ (K : (String ⊕ Int32) × FS → Prop), Ok (fX9_dismiss p1 u) K → vx_Met l yX9_dismiss wsX9_dismiss rmX9_dismiss (va_Pc [.ref (ad 0), .int p1] (kPreZ D cy za zv sz (wF cy ad hh aa pa u))) (va_Qi (fun r q => K (.inr r, q)) (fun q => kPost D (va_A (wF cy ad hh aa pa u) sz) (wF cy ad hh aa pa q)) (va_A (wF cy ad hh aa pa u) sz)) (vx_X (fun _ : FS => True) (fun E q t => K (.inl E, q) ∧ kPost D (va_A (wF cy ad hh aa pa u) sz) (wF cy ad hh aa pa q) t) (va_A (wF cy ad hh aa pa u) sz)) 1 6 (va_A (wF cy ad hh aa pa u) sz) := by
  intro K h1
  refine vx_ofW (cc := cX9_dismiss) (maxL := 2) (ret := (some .int)) (by decide) rfl ?_
  intro p e s m args below meth c s₁ B hml hex hv
  obtain ⟨rfl, ⟨hsz, hP, hK, hD0⟩, hZ⟩ := hv
  subst hsz
  have E : mE D cy RX9 cX9_dismiss 2 (some .int) wsX9_dismiss (va_A (wF cy ad hh aa pa u) s.heap.size) p s m _ meth c := ⟨B.exec, B.bytes, B.returns, hml, findClass_of_methodNamed B.named, atoms_spec (ws := wsX9_dismiss) B.pre, B.notSynchronized, hK, fun q h => Or.inr h⟩
  have hl := lv_entry ([.ref (ad 0), .int p1]) (n := 2) (Nat.le_of_ble_eq_true rfl)
  rw [lg_entry_eq]
  generalize (lg_sl ([.ref (ad 0), .int p1]) ++ List.replicate (2 - (lg_sl ([.ref (ad 0), .int p1])).length) Slot.unset).toArray = ls at hl ⊢
  exact tX9_dismiss_b0 K E hfl hex hZ p1 u _ _ _ hl hP hD0.self va_S.rf h1
-- X9_unload
theorem xaX9_unload_123 : ∀ w ∈ (vx_atS RX9 123 "java/lang/IndexOutOfBoundsException" ["java/lang/RuntimeException", "java/lang/Exception"]).filter goodWord, w ∈ wsX9_unload := fun w h => List.mem_cons_of_mem _ (List.mem_append_right _ h)
theorem hdX9_doUnload : yX9_doUnload.cls = RX9 ∧ yX9_doUnload.cls ≠ "java/lang/invoke/MethodHandle" ∧ yX9_doUnload.cls ≠ "java/lang/invoke/VarHandle" ∧ (parseMethodDescriptor yX9_doUnload.desc).map (fun d => d.parameters.length) = some 1 := by decide +kernel
abbrev rmX9_unload : Room := { frames := 6, cells := 1, slots := 6, locals := 125 }
def fX9_unload_b9 (u : FS) : Option ((String ⊕ Int32) × FS) :=
  some (.inl "java/lang/IndexOutOfBoundsException", u)
set_option maxHeartbeats 4000000 in
set_option maxRecDepth 100000 in
theorem tX9_unload_b9 {p : Program} {l : Launch} {e : Env} {s : State} {m : MethodId} {args : Array Value} {below : List Frame} {meth : Method} {c : Code} {D : va_G} {cy : Nat → ClassId} {A : Nat → Prop} {ad : Nat → Nat} {hh : Nat → Nat} {aa : Nat → Nat → Nat} {pa : Nat → Nat} {za zv : Nat → Nat} (K : (String ⊕ Int32) × FS → Prop) (E : mE D cy RX9 cX9_unload 2 (some .int) wsX9_unload A p s m args meth c) (hfl : l.stackTraces = false) (hex : ∀ x ∈ c.exceptionTable.toList, False) (hZ : mZ za zv A s s.heap)
     (u : FS) (H : Heap) (locs : List Loc) (ls : Array Slot) (hl : lv_has ls 2 []) (hP : va_P D kCl (wF cy ad hh aa pa u) H) (hD : va_D A (wF cy ad hh aa pa u)) (hS : va_S A s.heap H locs) (h1 : Ok (fX9_unload_b9 u) K) :
    kWx p l e rmX9_unload s m args below meth c H locs (va_Qi (fun r q => K (.inr r, q)) (fun q => kPost D A (wF cy ad hh aa pa q)) A) (vx_X (fun _ : FS => True) (fun E q t => K (.inl E, q) ∧ kPost D A (wF cy ad hh aa pa q) t) A) A 9 ls [] := by
  obtain ⟨hx, hb, hr, hml, hown, hts, hlocks, hK, hA⟩ := id E
  unfold fX9_unload_b9 at h1
  exact kx_throw (names := ["java/lang/RuntimeException", "java/lang/Exception"]) (text := "lane") (sa := za 5) hx hb hfl hml hown (by decide) (by decide) (hts _ (List.mem_of_getElem? (i := 1) rfl)) (hts _ (List.mem_of_getElem? (i := 2) rfl)) (k_site hZ 5 (by decide)) (vx_hat (fun w h => hts w (xaX9_unload_123 w h)) xbRX9_123 (hZ.cast (by decide))) xgRX9_119_123 hZ hK hP hD hS hl.1 dX9_unload_9 dX9_unload_12 dX9_unload_13 dX9_unload_15 dX9_unload_18 hex hlocks h1 (Nat.le_of_ble_eq_true rfl) (Nat.le_of_ble_eq_true rfl) (Nat.le_of_ble_eq_true rfl) (Nat.le_of_ble_eq_true rfl)
def fX9_unload_b0 (x1 : Int32) (u : FS) : Option ((String ⊕ Int32) × FS) :=
  (if x1 < 0 then fX9_unload_b9 u else (if x1 < 3 then bnd2 (fX9_doUnload x1 u) (fun r21 u21 => some (.inr r21, u21)) else fX9_unload_b9 u))
set_option maxHeartbeats 4000000 in
set_option maxRecDepth 100000 in
theorem tX9_unload_b0 {p : Program} {l : Launch} {e : Env} {s : State} {m : MethodId} {args : Array Value} {below : List Frame} {meth : Method} {c : Code} {D : va_G} {cy : Nat → ClassId} {A : Nat → Prop} {ad : Nat → Nat} {hh : Nat → Nat} {aa : Nat → Nat → Nat} {pa : Nat → Nat} {za zv : Nat → Nat} (K : (String ⊕ Int32) × FS → Prop) (E : mE D cy RX9 cX9_unload 2 (some .int) wsX9_unload A p s m args meth c) (hfl : l.stackTraces = false) (hex : ∀ x ∈ c.exceptionTable.toList, False) (hZ : mZ za zv A s s.heap)
     (x1 : Int32) (u : FS) (H : Heap) (locs : List Loc) (ls : Array Slot) (hl : lv_has ls 2 [(0, .ref (ad 0)), (1, .int x1)]) (hP : va_P D kCl (wF cy ad hh aa pa u) H) (hD : va_D A (wF cy ad hh aa pa u)) (hS : va_S A s.heap H locs) (h1 : Ok (fX9_unload_b0 x1 u) K) :
    kWx p l e rmX9_unload s m args below meth c H locs (va_Qi (fun r q => K (.inr r, q)) (fun q => kPost D A (wF cy ad hh aa pa q)) A) (vx_X (fun _ : FS => True) (fun E q t => K (.inl E, q) ∧ kPost D A (wF cy ad hh aa pa q) t) A) A 0 ls [] := by
  obtain ⟨hx, hb, hr, hml, hown, hts, hlocks, hK, hA⟩ := id E
  unfold fX9_unload_b0 at h1
  refine lv_iload_n hx hb dX9_unload_0 rfl (lv_at hl 1 rfl) ?_
  refine lv_if_lt (tgt := 9) hx hb dX9_unload_1 (by decide) (fun c1 => ?_) (fun c1 => ?_)
  · replace h1 := Ok.pos c1 h1
    exact tX9_unload_b9 K E hfl hex hZ u H locs ls (lv_sub hl [] rfl) hP hD hS h1
  · replace h1 := Ok.neg c1 h1
    refine lv_iload_n hx hb dX9_unload_4 rfl (lv_at hl 1 rfl) ?_
    refine lv_iconst (v := 3) hx hb dX9_unload_5 rfl ?_
    refine lv_icmp_lt (tgt := 19) hx hb dX9_unload_6 (by decide) (fun c6 => ?_) (fun c6 => ?_)
    · replace h1 := Ok.pos c6 h1
      refine lv_aload_n hx hb dX9_unload_19 rfl (lv_at hl 0 rfl) ?_
      refine lv_iload_n hx hb dX9_unload_20 rfl (lv_at hl 1 rfl) ?_
      refine kc_iV0 (b := (ad 0)) (As := [.int x1]) (rest := []) h1 ⟨hx, hb, hml, hown, hts⟩ (cX9_doUnloadM l D cy ad hh aa pa H.size u x1) (cwV 1 hts gX9_unload_X9_doUnload rfl rfl rfl hdX9_doUnload ⟨Nat.le_of_ble_eq_true rfl, Nat.le_of_ble_eq_true rfl⟩) hK hP hD hS hA (q0 := 0) rfl rfl rfl hl.1 rfl (Nat.le_of_ble_eq_true rfl) dX9_unload_21 ⟨Nat.zero_le _, Nat.zero_le _⟩ (fun r21 u21 H locs h1 hP hD hS => ?_)
      exact kret_x hx hb hr hlocks hP hD hS h1 dX9_unload_24
    · replace h1 := Ok.neg c6 h1
      exact tX9_unload_b9 K E hfl hex hZ u H locs ls (lv_sub hl [] rfl) hP hD hS h1
def fX9_unload (p1 : Int32) (u : FS) : Option ((String ⊕ Int32) × FS) := fX9_unload_b0 p1 u
set_option maxHeartbeats 4000000 in
set_option maxRecDepth 100000 in
theorem cX9_unloadM (l : Launch) (hfl : l.stackTraces = false) (D : va_G) (cy : Nat → ClassId) (za zv : Nat → Nat) (ad : Nat → Nat) (hh : Nat → Nat) (aa : Nat → Nat → Nat) (pa : Nat → Nat) (sz : Nat) (u : FS) (p1 : Int32) : ∀ (K : (String ⊕ Int32) × FS → Prop), Ok (fX9_unload p1 u) K → vx_Met l yX9_unload wsX9_unload rmX9_unload (va_Pc [.ref (ad 0), .int p1] (kPreZ D cy za zv sz (wF cy ad hh aa pa u))) (va_Qi (fun r q => K (.inr r, q)) (fun q => kPost D (va_A (wF cy ad hh aa pa u) sz) (wF cy ad hh aa pa q)) (va_A (wF cy ad hh aa pa u) sz)) (vx_X (fun _ : FS => True) (fun E q t => K (.inl E, q) ∧ kPost D (va_A (wF cy ad hh aa pa u) sz) (wF cy ad hh aa pa q) t) (va_A (wF cy ad hh aa pa u) sz)) 1 6 (va_A (wF cy ad hh aa pa u) sz) := by
  intro K h1
  refine vx_ofW (cc := cX9_unload) (maxL := 2) (ret := (some .int)) (by decide) rfl ?_
  intro p e s m args below meth c s₁ B hml hex hv
  obtain ⟨rfl, ⟨hsz, hP, hK, hD0⟩, hZ⟩ := hv
  subst hsz
  have E : mE D cy RX9 cX9_unload 2 (some .int) wsX9_unload (va_A (wF cy ad hh aa pa u) s.heap.size) p s m _ meth c := ⟨B.exec, B.bytes, B.returns, hml, findClass_of_methodNamed B.named, atoms_spec (ws := wsX9_unload) B.pre, B.notSynchronized, hK, fun q h => Or.inr h⟩
  have hl := lv_entry ([.ref (ad 0), .int p1]) (n := 2) (Nat.le_of_ble_eq_true rfl)
  rw [lg_entry_eq]
  generalize (lg_sl ([.ref (ad 0), .int p1]) ++ List.replicate (2 - (lg_sl ([.ref (ad 0), .int p1])).length) Slot.unset).toArray = ls at hl ⊢
  exact tX9_unload_b0 K E hfl hex hZ p1 u _ _ _ hl hP hD0.self va_S.rf h1
-- X9_crank
theorem xaX9_crank_75 : ∀ w ∈ (vx_atS RX9 75 "java/lang/IllegalArgumentException" ["java/lang/RuntimeException", "java/lang/Exception"]).filter goodWord, w ∈ wsX9_crank := fun w h => List.mem_cons_of_mem _ (List.mem_append_right _ h)
theorem hdX9_doCrank : yX9_doCrank.cls = RX9 ∧ yX9_doCrank.cls ≠ "java/lang/invoke/MethodHandle" ∧ yX9_doCrank.cls ≠ "java/lang/invoke/VarHandle" ∧ (parseMethodDescriptor yX9_doCrank.desc).map (fun d => d.parameters.length) = some 1 := by decide +kernel
abbrev rmX9_crank : Room := { frames := 6, cells := 1, slots := 6, locals := 124 }
def fX9_crank_b12 (u : FS) : Option ((String ⊕ Int32) × FS) :=
  some (.inl "java/lang/IllegalArgumentException", u)
set_option maxHeartbeats 4000000 in
set_option maxRecDepth 100000 in
theorem tX9_crank_b12 {p : Program} {l : Launch} {e : Env} {s : State} {m : MethodId} {args : Array Value} {below : List Frame} {meth : Method} {c : Code} {D : va_G} {cy : Nat → ClassId} {A : Nat → Prop} {ad : Nat → Nat} {hh : Nat → Nat} {aa : Nat → Nat → Nat} {pa : Nat → Nat} {za zv : Nat → Nat} (K : (String ⊕ Int32) × FS → Prop) (E : mE D cy RX9 cX9_crank 2 (some .int) wsX9_crank A p s m args meth c) (hfl : l.stackTraces = false) (hex : ∀ x ∈ c.exceptionTable.toList, False) (hZ : mZ za zv A s s.heap)
     (u : FS) (H : Heap) (locs : List Loc) (ls : Array Slot) (hl : lv_has ls 2 []) (hP : va_P D kCl (wF cy ad hh aa pa u) H) (hD : va_D A (wF cy ad hh aa pa u)) (hS : va_S A s.heap H locs) (h1 : Ok (fX9_crank_b12 u) K) :
    kWx p l e rmX9_crank s m args below meth c H locs (va_Qi (fun r q => K (.inr r, q)) (fun q => kPost D A (wF cy ad hh aa pa q)) A) (vx_X (fun _ : FS => True) (fun E q t => K (.inl E, q) ∧ kPost D A (wF cy ad hh aa pa q) t) A) A 12 ls [] := by
  obtain ⟨hx, hb, hr, hml, hown, hts, hlocks, hK, hA⟩ := id E
  unfold fX9_crank_b12 at h1
  exact kx_throw (names := ["java/lang/RuntimeException", "java/lang/Exception"]) (text := "by") (sa := za 11) hx hb hfl hml hown (by decide) (by decide) (hts _ (List.mem_of_getElem? (i := 1) rfl)) (hts _ (List.mem_of_getElem? (i := 2) rfl)) (k_site hZ 11 (by decide)) (vx_hat (fun w h => hts w (xaX9_crank_75 w h)) xbRX9_75 (hZ.cast (by decide))) xgRX9_72_75 hZ hK hP hD hS hl.1 dX9_crank_12 dX9_crank_15 dX9_crank_16 dX9_crank_18 dX9_crank_21 hex hlocks h1 (Nat.le_of_ble_eq_true rfl) (Nat.le_of_ble_eq_true rfl) (Nat.le_of_ble_eq_true rfl) (Nat.le_of_ble_eq_true rfl)
def fX9_crank_b0 (x1 : Int32) (u : FS) : Option ((String ⊕ Int32) × FS) :=
  (if x1 < (-20) then fX9_crank_b12 u else (if x1 ≤ 20 then bnd2 (fX9_doCrank x1 u) (fun r24 u24 => some (.inr r24, u24)) else fX9_crank_b12 u))
set_option maxHeartbeats 4000000 in
set_option maxRecDepth 100000 in
theorem tX9_crank_b0 {p : Program} {l : Launch} {e : Env} {s : State} {m : MethodId} {args : Array Value} {below : List Frame} {meth : Method} {c : Code} {D : va_G} {cy : Nat → ClassId} {A : Nat → Prop} {ad : Nat → Nat} {hh : Nat → Nat} {aa : Nat → Nat → Nat} {pa : Nat → Nat} {za zv : Nat → Nat} (K : (String ⊕ Int32) × FS → Prop) (E : mE D cy RX9 cX9_crank 2 (some .int) wsX9_crank A p s m args meth c) (hfl : l.stackTraces = false) (hex : ∀ x ∈ c.exceptionTable.toList, False) (hZ : mZ za zv A s s.heap)
     (x1 : Int32) (u : FS) (H : Heap) (locs : List Loc) (ls : Array Slot) (hl : lv_has ls 2 [(0, .ref (ad 0)), (1, .int x1)]) (hP : va_P D kCl (wF cy ad hh aa pa u) H) (hD : va_D A (wF cy ad hh aa pa u)) (hS : va_S A s.heap H locs) (h1 : Ok (fX9_crank_b0 x1 u) K) :
    kWx p l e rmX9_crank s m args below meth c H locs (va_Qi (fun r q => K (.inr r, q)) (fun q => kPost D A (wF cy ad hh aa pa q)) A) (vx_X (fun _ : FS => True) (fun E q t => K (.inl E, q) ∧ kPost D A (wF cy ad hh aa pa q) t) A) A 0 ls [] := by
  obtain ⟨hx, hb, hr, hml, hown, hts, hlocks, hK, hA⟩ := id E
  unfold fX9_crank_b0 at h1
  refine lv_iload_n hx hb dX9_crank_0 rfl (lv_at hl 1 rfl) ?_
  refine lv_bipush (v := (-20)) hx hb dX9_crank_1 rfl ?_
  refine lv_icmp_lt (tgt := 12) hx hb dX9_crank_3 (by decide) (fun c3 => ?_) (fun c3 => ?_)
  · replace h1 := Ok.pos c3 h1
    exact tX9_crank_b12 K E hfl hex hZ u H locs ls (lv_sub hl [] rfl) hP hD hS h1
  · replace h1 := Ok.neg c3 h1
    refine lv_iload_n hx hb dX9_crank_6 rfl (lv_at hl 1 rfl) ?_
    refine lv_bipush (v := 20) hx hb dX9_crank_7 rfl ?_
    refine lv_icmp_le (tgt := 22) hx hb dX9_crank_9 (by decide) (fun c9 => ?_) (fun c9 => ?_)
    · replace h1 := Ok.pos c9 h1
      refine lv_aload_n hx hb dX9_crank_22 rfl (lv_at hl 0 rfl) ?_
      refine lv_iload_n hx hb dX9_crank_23 rfl (lv_at hl 1 rfl) ?_
      refine kc_iV0 (b := (ad 0)) (As := [.int x1]) (rest := []) h1 ⟨hx, hb, hml, hown, hts⟩ (cX9_doCrankM l D cy ad hh aa pa H.size u x1) (cwV 1 hts gX9_crank_X9_doCrank rfl rfl rfl hdX9_doCrank ⟨Nat.le_of_ble_eq_true rfl, Nat.le_of_ble_eq_true rfl⟩) hK hP hD hS hA (q0 := 0) rfl rfl rfl hl.1 rfl (Nat.le_of_ble_eq_true rfl) dX9_crank_24 ⟨Nat.zero_le _, Nat.zero_le _⟩ (fun r24 u24 H locs h1 hP hD hS => ?_)
      exact kret_x hx hb hr hlocks hP hD hS h1 dX9_crank_27
    · replace h1 := Ok.neg c9 h1
      exact tX9_crank_b12 K E hfl hex hZ u H locs ls (lv_sub hl [] rfl) hP hD hS h1
def fX9_crank (p1 : Int32) (u : FS) : Option ((String ⊕ Int32) × FS) := fX9_crank_b0 p1 u
set_option maxHeartbeats 4000000 in
set_option maxRecDepth 100000 in
theorem cX9_crankM (l : Launch) (hfl : l.stackTraces = false) (D : va_G) (cy : Nat → ClassId) (za zv : Nat → Nat) (ad : Nat → Nat) (hh : Nat → Nat) (aa : Nat → Nat → Nat) (pa : Nat → Nat) (sz : Nat) (u : FS) (p1 : Int32) : ∀ (K : (String ⊕ Int32) × FS → Prop), Ok (fX9_crank p1 u) K → vx_Met l yX9_crank wsX9_crank rmX9_crank (va_Pc [.ref (ad 0), .int p1] (kPreZ D cy za zv sz (wF cy ad hh aa pa u))) (va_Qi (fun r q => K (.inr r, q)) (fun q => kPost D (va_A (wF cy ad hh aa pa u) sz) (wF cy ad hh aa pa q)) (va_A (wF cy ad hh aa pa u) sz)) (vx_X (fun _ : FS => True) (fun E q t => K (.inl E, q) ∧ kPost D (va_A (wF cy ad hh aa pa u) sz) (wF cy ad hh aa pa q) t) (va_A (wF cy ad hh aa pa u) sz)) 1 6 (va_A (wF cy ad hh aa pa u) sz) := by
  intro K h1
  refine vx_ofW (cc := cX9_crank) (maxL := 2) (ret := (some .int)) (by decide) rfl ?_
  intro p e s m args below meth c s₁ B hml hex hv
  obtain ⟨rfl, ⟨hsz, hP, hK, hD0⟩, hZ⟩ := hv
  subst hsz
  have E : mE D cy RX9 cX9_crank 2 (some .int) wsX9_crank (va_A (wF cy ad hh aa pa u) s.heap.size) p s m _ meth c := ⟨B.exec, B.bytes, B.returns, hml, findClass_of_methodNamed B.named, atoms_spec (ws := wsX9_crank) B.pre, B.notSynchronized, hK, fun q h => Or.inr h⟩
  have hl := lv_entry ([.ref (ad 0), .int p1]) (n := 2) (Nat.le_of_ble_eq_true rfl)
  rw [lg_entry_eq]
  generalize (lg_sl ([.ref (ad 0), .int p1]) ++ List.replicate (2 - (lg_sl ([.ref (ad 0), .int p1])).length) Slot.unset).toArray = ls at hl ⊢
  exact tX9_crank_b0 K E hfl hex hZ p1 u _ _ _ hl hP hD0.self va_S.rf h1
