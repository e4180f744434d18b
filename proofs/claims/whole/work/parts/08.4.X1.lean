-- X9_setting
theorem xaX9_setting_75 : ∀ w ∈ (vx_atS RX9 75 "java/lang/IllegalArgumentException" ["java/lang/RuntimeException", "java/lang/Exception"]).filter goodWord, w ∈ wsX9_setting := fun w h => List.mem_cons_of_mem _ (List.mem_append_right _ h)
theorem inX9_setting_X9 : ∀ w ∈ u_ws RX9 TX9 9, w ∈ wsX9_setting := k_lays 5 rfl
theorem lkX9_setting_10 : Cond.fieldLink RX9 10 "FerryRamp" "now" "LFerryRamp$State;" ∈ wsX9_setting := List.mem_of_getElem? (i := 3) rfl
theorem inX9_setting_X8 : ∀ w ∈ u_ws RX8 TX8 13, w ∈ wsX9_setting := k_lays 14 rfl
theorem lkX9_setting_116 : Cond.fieldLink RX9 116 "FerryRamp$State" "settings" "[I" ∈ wsX9_setting := List.mem_of_getElem? (i := 4) rfl
abbrev rmX9_setting : Room := { frames := 6, cells := 1, slots := 6, locals := 90 }
def fX9_setting_b10 (u : FS) : Option ((String ⊕ Int32) × FS) :=
  some (.inl "java/lang/IllegalArgumentException", u)
set_option maxHeartbeats 4000000 in
set_option maxRecDepth 100000 in
theorem tX9_setting_b10 {p : Program} {l : Launch} {e : Env} {s : State} {m : MethodId} {args : Array Value} {below : List Frame} {meth : Method} {c : Code} {D : va_G} {cy : Nat → ClassId} {A : Nat → Prop} {ad : Nat → Nat} {hh : Nat → Nat} {aa : Nat → Nat → Nat} {pa : Nat → Nat} {za zv : Nat → Nat} (K : (String ⊕ Int32) × FS → Prop) (E : mE D cy RX9 cX9_setting 2 (some .int) wsX9_setting A p s m args meth c) (hfl : l.stackTraces = false) (hex : ∀ x ∈ c.exceptionTable.toList, False) (hZ : mZ za zv A s s.heap)
     (u : FS) (H : Heap) (locs : List Loc) (ls : Array Slot) (hl : lv_has ls 2 []) (hP : va_P D vwCl (wF cy ad hh aa pa u) H) (hD : va_D A (wF cy ad hh aa pa u)) (hS : va_S A s.heap H locs) (h1 : Ok (fX9_setting_b10 u) K) :
    kWx p l e rmX9_setting s m args below meth c H locs (va_Qi (fun r q => K (.inr r, q)) (fun q => kPost D A (wF cy ad hh aa pa q)) A) (vx_X (fun _ : FS => True) (fun E q t => K (.inl E, q) ∧ kPost D A (wF cy ad hh aa pa q) t) A) A 10 ls [] := by
  obtain ⟨hx, hb, hr, hml, hown, hts, hlocks, hK, hA⟩ := id E
  unfold fX9_setting_b10 at h1
  exact kx_throw (names := ["java/lang/RuntimeException", "java/lang/Exception"]) (text := "what") (sa := za 2) hx hb hfl hml hown (by decide) (by decide) (hts _ (List.mem_of_getElem? (i := 1) rfl)) (hts _ (List.mem_of_getElem? (i := 2) rfl)) (k_site hZ 2 (by decide)) (vx_hat (fun w h => hts w (xaX9_setting_75 w h)) xbRX9_75 (hZ.cast (by decide))) xgRX9_72_75 hZ hK hP hD hS hl.1 dX9_setting_10 dX9_setting_13 dX9_setting_14 dX9_setting_16 dX9_setting_19 hex hlocks h1 (Nat.le_of_ble_eq_true rfl) (Nat.le_of_ble_eq_true rfl) (Nat.le_of_ble_eq_true rfl) (Nat.le_of_ble_eq_true rfl)
def fX9_setting_b0 (x1 : Int32) (u : FS) : Option ((String ⊕ Int32) × FS) :=
  (if x1 < 0 then fX9_setting_b10 u else (if x1 < 14 then grd (inb x1 14) (some (.inr (sT (fN u) (ix x1)), u)) else fX9_setting_b10 u))
set_option maxHeartbeats 4000000 in
set_option maxRecDepth 100000 in
theorem tX9_setting_b0 {p : Program} {l : Launch} {e : Env} {s : State} {m : MethodId} {args : Array Value} {below : List Frame} {meth : Method} {c : Code} {D : va_G} {cy : Nat → ClassId} {A : Nat → Prop} {ad : Nat → Nat} {hh : Nat → Nat} {aa : Nat → Nat → Nat} {pa : Nat → Nat} {za zv : Nat → Nat} (K : (String ⊕ Int32) × FS → Prop) (E : mE D cy RX9 cX9_setting 2 (some .int) wsX9_setting A p s m args meth c) (hfl : l.stackTraces = false) (hex : ∀ x ∈ c.exceptionTable.toList, False) (hZ : mZ za zv A s s.heap)
     (x1 : Int32) (u : FS) (H : Heap) (locs : List Loc) (ls : Array Slot) (hl : lv_has ls 2 [(0, .ref (ad 0)), (1, .int x1)]) (hP : va_P D vwCl (wF cy ad hh aa pa u) H) (hD : va_D A (wF cy ad hh aa pa u)) (hS : va_S A s.heap H locs) (h1 : Ok (fX9_setting_b0 x1 u) K) :
    kWx p l e rmX9_setting s m args below meth c H locs (va_Qi (fun r q => K (.inr r, q)) (fun q => kPost D A (wF cy ad hh aa pa q)) A) (vx_X (fun _ : FS => True) (fun E q t => K (.inl E, q) ∧ kPost D A (wF cy ad hh aa pa q) t) A) A 0 ls [] := by
  obtain ⟨hx, hb, hr, hml, hown, hts, hlocks, hK, hA⟩ := id E
  unfold fX9_setting_b0 at h1
  refine lv_iload_n hx hb dX9_setting_0 rfl (lv_at hl 1 rfl) ?_
  refine lv_if_lt (tgt := 10) hx hb dX9_setting_1 (by decide) (fun c1 => ?_) (fun c1 => ?_)
  · replace h1 := Ok.pos c1 h1
    exact tX9_setting_b10 K E hfl hex hZ u H locs ls (lv_sub hl [] rfl) hP hD hS h1
  · replace h1 := Ok.neg c1 h1
    refine lv_iload_n hx hb dX9_setting_4 rfl (lv_at hl 1 rfl) ?_
    refine lv_bipush (v := 14) hx hb dX9_setting_5 rfl ?_
    refine lv_icmp_lt (tgt := 20) hx hb dX9_setting_7 (by decide) (fun c7 => ?_) (fun c7 => ?_)
    · replace h1 := Ok.pos c7 h1
      refine lv_aload_n hx hb dX9_setting_20 rfl (lv_at hl 0 rfl) ?_
      refine k_get (v := .ref (hh 0)) (C := RX9) (T := TX9) (N := 9) hx hb hts inX9_setting_X9 hown hK hP 0 (wF_c0 _ _ _ _ _ _) rfl 0 (by decide) lkX9_setting_10 (fFs_0 _ _ _ _) dX9_setting_21 ?_
      refine k_get (v := .ref ((aa 0) 1)) (C := RX8) (T := TX8) (N := 13) hx hb hts inX9_setting_X8 hown hK hP 5 (wF_c5 _ _ _ _ _ _) rfl 1 (by decide) lkX9_setting_116 (sFs_1 _ _) dX9_setting_24 ?_
      refine lv_iload_n hx hb dX9_setting_27 rfl (lv_at hl 1 rfl) ?_
      have g28 := h1.grd1
      replace h1 := h1.grd2
      refine k_iald (k := (ix x1)) hx hb hK hP 7 (wF_c7 _ _ _ _ _ _) g28 rfl dX9_setting_28 ?_
      exact kret_x hx hb hr hlocks hP hD hS h1 dX9_setting_29
    · replace h1 := Ok.neg c7 h1
      exact tX9_setting_b10 K E hfl hex hZ u H locs ls (lv_sub hl [] rfl) hP hD hS h1
def fX9_setting (p1 : Int32) (u : FS) : Option ((String ⊕ Int32) × FS) := fX9_setting_b0 p1 u
set_option maxHeartbeats 4000000 in
set_option maxRecDepth 100000 in
theorem cX9_settingM (l : Launch) (hfl : l.stackTraces = false) (D : va_G) (cy : Nat → ClassId) (za zv : Nat → Nat) (ad : Nat → Nat) (hh : Nat → Nat) (aa : Nat → Nat → Nat) (pa : Nat → Nat) (sz : Nat) (u : FS) (p1 : Int32) : ∀ (K : (String ⊕ Int32) × FS → Prop), Ok (fX9_setting p1 u) K → vx_Met l yX9_setting wsX9_setting rmX9_setting (va_Pc [.ref (ad 0), .int p1] (kPreZ D cy za zv sz (wF cy ad hh aa pa u))) (va_Qi (fun r q => K (.inr r, q)) (fun q => kPost D (va_A (wF cy ad hh aa pa u) sz) (wF cy ad hh aa pa q)) (va_A (wF cy ad hh aa pa u) sz)) (vx_X (fun _ : FS => True) (fun E q t => K (.inl E, q) ∧ kPost D (va_A (wF cy ad hh aa pa u) sz) (wF cy ad hh aa pa q) t) (va_A (wF cy ad hh aa pa u) sz)) 1 6 (va_A (wF cy ad hh aa pa u) sz) := by
  intro K h1
  refine vx_ofW (cc := cX9_setting) (maxL := 2) (ret := (some .int)) (by decide) rfl ?_
  intro p e s m args below meth c s₁ B hml hex hv
  obtain ⟨rfl, ⟨hsz, hP, hK, hD0⟩, hZ⟩ := hv
  subst hsz
  have E : mE D cy RX9 cX9_setting 2 (some .int) wsX9_setting (va_A (wF cy ad hh aa pa u) s.heap.size) p s m _ meth c := ⟨B.exec, B.bytes, B.returns, hml, findClass_of_methodNamed B.named, atoms_spec (ws := wsX9_setting) B.pre, B.notSynchronized, hK, fun q h => Or.inr h⟩
  have hl := lv_entry ([.ref (ad 0), .int p1]) (n := 2) (Nat.le_of_ble_eq_true rfl)
  rw [lg_entry_eq]
  generalize (lg_sl ([.ref (ad 0), .int p1]) ++ List.replicate (2 - (lg_sl ([.ref (ad 0), .int p1])).length) Slot.unset).toArray = ls at hl ⊢
  exact tX9_setting_b0 K E hfl hex hZ p1 u _ _ _ hl hP hD0.self va_S.rf h1
-- X9_kind
theorem xaX9_kind_123 : ∀ w ∈ (vx_atS RX9 123 "java/lang/IndexOutOfBoundsException" ["java/lang/RuntimeException", "java/lang/Exception"]).filter goodWord, w ∈ wsX9_kind := fun w h => List.mem_cons_of_mem _ (List.mem_append_left _ (List.mem_append_right _ h))
theorem xbRX9_123 : ∀ w ∈ (vx_atS RX9 123 "java/lang/IndexOutOfBoundsException" ["java/lang/RuntimeException", "java/lang/Exception"]).filter (fun w => !goodWord w), w ∈ xCast "java/lang/IndexOutOfBoundsException" := by decide +kernel
theorem xgRX9_119_123 : ∀ w ∈ Cond.classLink RX9 119 "java/lang/IndexOutOfBoundsException" :: Cond.initialized "java/lang/IndexOutOfBoundsException" :: vx_atS RX9 123 "java/lang/IndexOutOfBoundsException" ["java/lang/RuntimeException", "java/lang/Exception"], vx_ot w = true := by decide +kernel
theorem xaX9_kind_75 : ∀ w ∈ (vx_atS RX9 75 "java/lang/IllegalArgumentException" ["java/lang/RuntimeException", "java/lang/Exception"]).filter goodWord, w ∈ wsX9_kind := fun w h => List.mem_cons_of_mem _ (List.mem_append_right _ h)
theorem inX9_kind_X9 : ∀ w ∈ u_ws RX9 TX9 9, w ∈ wsX9_kind := k_lays 12 rfl
theorem lkX9_kind_10 : Cond.fieldLink RX9 10 "FerryRamp" "now" "LFerryRamp$State;" ∈ wsX9_kind := List.mem_of_getElem? (i := 5) rfl
abbrev rmX9_kind : Room := { frames := 6, cells := 1, slots := 6, locals := 90 }
def fX9_kind_b9 (u : FS) : Option ((String ⊕ Int32) × FS) :=
  some (.inl "java/lang/IndexOutOfBoundsException", u)
set_option maxHeartbeats 4000000 in
set_option maxRecDepth 100000 in
theorem tX9_kind_b9 {p : Program} {l : Launch} {e : Env} {s : State} {m : MethodId} {args : Array Value} {below : List Frame} {meth : Method} {c : Code} {D : va_G} {cy : Nat → ClassId} {A : Nat → Prop} {ad : Nat → Nat} {hh : Nat → Nat} {aa : Nat → Nat → Nat} {pa : Nat → Nat} {za zv : Nat → Nat} (K : (String ⊕ Int32) × FS → Prop) (E : mE D cy RX9 cX9_kind 3 (some .int) wsX9_kind A p s m args meth c) (hfl : l.stackTraces = false) (hex : ∀ x ∈ c.exceptionTable.toList, False) (hZ : mZ za zv A s s.heap)
     (u : FS) (H : Heap) (locs : List Loc) (ls : Array Slot) (hl : lv_has ls 3 []) (hP : va_P D vwCl (wF cy ad hh aa pa u) H) (hD : va_D A (wF cy ad hh aa pa u)) (hS : va_S A s.heap H locs) (h1 : Ok (fX9_kind_b9 u) K) :
    kWx p l e rmX9_kind s m args below meth c H locs (va_Qi (fun r q => K (.inr r, q)) (fun q => kPost D A (wF cy ad hh aa pa q)) A) (vx_X (fun _ : FS => True) (fun E q t => K (.inl E, q) ∧ kPost D A (wF cy ad hh aa pa q) t) A) A 9 ls [] := by
  obtain ⟨hx, hb, hr, hml, hown, hts, hlocks, hK, hA⟩ := id E
  unfold fX9_kind_b9 at h1
  exact kx_throw (names := ["java/lang/RuntimeException", "java/lang/Exception"]) (text := "kind") (sa := za 3) hx hb hfl hml hown (by decide) (by decide) (hts _ (List.mem_of_getElem? (i := 1) rfl)) (hts _ (List.mem_of_getElem? (i := 2) rfl)) (k_site hZ 3 (by decide)) (vx_hat (fun w h => hts w (xaX9_kind_123 w h)) xbRX9_123 (hZ.cast (by decide))) xgRX9_119_123 hZ hK hP hD hS hl.1 dX9_kind_9 dX9_kind_12 dX9_kind_13 dX9_kind_15 dX9_kind_18 hex hlocks h1 (Nat.le_of_ble_eq_true rfl) (Nat.le_of_ble_eq_true rfl) (Nat.le_of_ble_eq_true rfl) (Nat.le_of_ble_eq_true rfl)
def fX9_kind_b28 (u : FS) : Option ((String ⊕ Int32) × FS) :=
  some (.inl "java/lang/IllegalArgumentException", u)
set_option maxHeartbeats 4000000 in
set_option maxRecDepth 100000 in
theorem tX9_kind_b28 {p : Program} {l : Launch} {e : Env} {s : State} {m : MethodId} {args : Array Value} {below : List Frame} {meth : Method} {c : Code} {D : va_G} {cy : Nat → ClassId} {A : Nat → Prop} {ad : Nat → Nat} {hh : Nat → Nat} {aa : Nat → Nat → Nat} {pa : Nat → Nat} {za zv : Nat → Nat} (K : (String ⊕ Int32) × FS → Prop) (E : mE D cy RX9 cX9_kind 3 (some .int) wsX9_kind A p s m args meth c) (hfl : l.stackTraces = false) (hex : ∀ x ∈ c.exceptionTable.toList, False) (hZ : mZ za zv A s s.heap)
     (u : FS) (H : Heap) (locs : List Loc) (ls : Array Slot) (hl : lv_has ls 3 []) (hP : va_P D vwCl (wF cy ad hh aa pa u) H) (hD : va_D A (wF cy ad hh aa pa u)) (hS : va_S A s.heap H locs) (h1 : Ok (fX9_kind_b28 u) K) :
    kWx p l e rmX9_kind s m args below meth c H locs (va_Qi (fun r q => K (.inr r, q)) (fun q => kPost D A (wF cy ad hh aa pa q)) A) (vx_X (fun _ : FS => True) (fun E q t => K (.inl E, q) ∧ kPost D A (wF cy ad hh aa pa q) t) A) A 28 ls [] := by
  obtain ⟨hx, hb, hr, hml, hown, hts, hlocks, hK, hA⟩ := id E
  unfold fX9_kind_b28 at h1
  exact kx_throw (names := ["java/lang/RuntimeException", "java/lang/Exception"]) (text := "what") (sa := za 2) hx hb hfl hml hown (by decide) (by decide) (hts _ (List.mem_of_getElem? (i := 3) rfl)) (hts _ (List.mem_of_getElem? (i := 4) rfl)) (k_site hZ 2 (by decide)) (vx_hat (fun w h => hts w (xaX9_kind_75 w h)) xbRX9_75 (hZ.cast (by decide))) xgRX9_72_75 hZ hK hP hD hS hl.1 dX9_kind_28 dX9_kind_31 dX9_kind_32 dX9_kind_34 dX9_kind_37 hex hlocks h1 (Nat.le_of_ble_eq_true rfl) (Nat.le_of_ble_eq_true rfl) (Nat.le_of_ble_eq_true rfl) (Nat.le_of_ble_eq_true rfl)
def fX9_kind_b0 (x1 : Int32) (x2 : Int32) (u : FS) : Option ((String ⊕ Int32) × FS) :=
  (if x1 < 0 then fX9_kind_b9 u else (if x1 < 4 then (if x2 < 0 then fX9_kind_b28 u else (if x2 < 3 then bnd (fX8_kindFact x1 x2 (fN u)) (fun r44 => some (.inr r44, u)) else fX9_kind_b28 u)) else fX9_kind_b9 u))
set_option maxHeartbeats 4000000 in
set_option maxRecDepth 100000 in
theorem tX9_kind_b0 {p : Program} {l : Launch} {e : Env} {s : State} {m : MethodId} {args : Array Value} {below : List Frame} {meth : Method} {c : Code} {D : va_G} {cy : Nat → ClassId} {A : Nat → Prop} {ad : Nat → Nat} {hh : Nat → Nat} {aa : Nat → Nat → Nat} {pa : Nat → Nat} {za zv : Nat → Nat} (K : (String ⊕ Int32) × FS → Prop) (E : mE D cy RX9 cX9_kind 3 (some .int) wsX9_kind A p s m args meth c) (hfl : l.stackTraces = false) (hex : ∀ x ∈ c.exceptionTable.toList, False) (hZ : mZ za zv A s s.heap)
     (x1 : Int32) (x2 : Int32) (u : FS) (H : Heap) (locs : List Loc) (ls : Array Slot) (hl : lv_has ls 3 [(0, .ref (ad 0)), (1, .int x1), (2, .int x2)]) (hP : va_P D vwCl (wF cy ad hh aa pa u) H) (hD : va_D A (wF cy ad hh aa pa u)) (hS : va_S A s.heap H locs) (h1 : Ok (fX9_kind_b0 x1 x2 u) K) :
    kWx p l e rmX9_kind s m args below meth c H locs (va_Qi (fun r q => K (.inr r, q)) (fun q => kPost D A (wF cy ad hh aa pa q)) A) (vx_X (fun _ : FS => True) (fun E q t => K (.inl E, q) ∧ kPost D A (wF cy ad hh aa pa q) t) A) A 0 ls [] := by
  obtain ⟨hx, hb, hr, hml, hown, hts, hlocks, hK, hA⟩ := id E
  unfold fX9_kind_b0 at h1
  refine lv_iload_n hx hb dX9_kind_0 rfl (lv_at hl 1 rfl) ?_
  refine lv_if_lt (tgt := 9) hx hb dX9_kind_1 (by decide) (fun c1 => ?_) (fun c1 => ?_)
  · replace h1 := Ok.pos c1 h1
    exact tX9_kind_b9 K E hfl hex hZ u H locs ls (lv_sub hl [] rfl) hP hD hS h1
  · replace h1 := Ok.neg c1 h1
    refine lv_iload_n hx hb dX9_kind_4 rfl (lv_at hl 1 rfl) ?_
    refine lv_iconst (v := 4) hx hb dX9_kind_5 rfl ?_
    refine lv_icmp_lt (tgt := 19) hx hb dX9_kind_6 (by decide) (fun c6 => ?_) (fun c6 => ?_)
    · replace h1 := Ok.pos c6 h1
      refine lv_iload_n hx hb dX9_kind_19 rfl (lv_at hl 2 rfl) ?_
      refine lv_if_lt (tgt := 28) hx hb dX9_kind_20 (by decide) (fun c20 => ?_) (fun c20 => ?_)
      · replace h1 := Ok.pos c20 h1
        exact tX9_kind_b28 K E hfl hex hZ u H locs ls (lv_sub hl [] rfl) hP hD hS h1
      · replace h1 := Ok.neg c20 h1
        refine lv_iload_n hx hb dX9_kind_23 rfl (lv_at hl 2 rfl) ?_
        refine lv_iconst (v := 3) hx hb dX9_kind_24 rfl ?_
        refine lv_icmp_lt (tgt := 38) hx hb dX9_kind_25 (by decide) (fun c25 => ?_) (fun c25 => ?_)
        · replace h1 := Ok.pos c25 h1
          refine lv_aload_n hx hb dX9_kind_38 rfl (lv_at hl 0 rfl) ?_
          refine k_get (v := .ref (hh 0)) (C := RX9) (T := TX9) (N := 9) hx hb hts inX9_kind_X9 hown hK hP 0 (wF_c0 _ _ _ _ _ _) rfl 0 (by decide) lkX9_kind_10 (fFs_0 _ _ _ _) dX9_kind_39 ?_
          refine lv_iload_n hx hb dX9_kind_42 rfl (lv_at hl 1 rfl) ?_
          refine lv_iload_n hx hb dX9_kind_43 rfl (lv_at hl 2 rfl) ?_
          refine kc_rV (b := (hh 0)) (As := [.int x1, .int x2]) (rest := []) h1 ⟨hx, hb, hml, hown, hts⟩ (cX8_kindFactM l D cy (hh 0) (aa 0) H.size (fN u) x1 x2) (cwV 2 hts gX9_kind_X8_kindFact rfl rfl rfl hdX8_kindFact ⟨Nat.le_of_ble_eq_true rfl, Nat.le_of_ble_eq_true rfl⟩) hK (wF_sel1 _ _ _ _ _ _) hP hD hS hA (q0 := 0) rfl rfl rfl hl.1 rfl (Nat.le_of_ble_eq_true rfl) dX9_kind_44 ⟨Nat.zero_le _, Nat.zero_le _⟩ (fun r44 H locs h1 hP hS => ?_)
          exact kret_x hx hb hr hlocks hP hD hS h1 dX9_kind_47
        · replace h1 := Ok.neg c25 h1
          exact tX9_kind_b28 K E hfl hex hZ u H locs ls (lv_sub hl [] rfl) hP hD hS h1
    · replace h1 := Ok.neg c6 h1
      exact tX9_kind_b9 K E hfl hex hZ u H locs ls (lv_sub hl [] rfl) hP hD hS h1
def fX9_kind (p1 : Int32) (p2 : Int32) (u : FS) : Option ((String ⊕ Int32) × FS) := fX9_kind_b0 p1 p2 u
set_option maxHeartbeats 4000000 in
set_option maxRecDepth 100000 in
theorem cX9_kindM (l : Launch) (hfl : l.stackTraces = false) (D : va_G) (cy : Nat → ClassId) (za zv : Nat → Nat) (ad : Nat → Nat) (hh : Nat → Nat) (aa : Nat → Nat → Nat) (pa : Nat → Nat) (sz : Nat) (u : FS) (p1 : Int32) (p2 : Int32) : ∀ (K : (String ⊕ Int32) × FS → Prop), Ok (fX9_kind p1 p2 u) K → vx_Met l yX9_kind wsX9_kind rmX9_kind (va_Pc [.ref (ad 0), .int p1, .int p2] (kPreZ D cy za zv sz (wF cy ad hh aa pa u))) (va_Qi (fun r q => K (.inr r, q)) (fun q => kPost D (va_A (wF cy ad hh aa pa u) sz) (wF cy ad hh aa pa q)) (va_A (wF cy ad hh aa pa u) sz)) (vx_X (fun _ : FS => True) (fun E q t => K (.inl E, q) ∧ kPost D (va_A (wF cy ad hh aa pa u) sz) (wF cy ad hh aa pa q) t) (va_A (wF cy ad hh aa pa u) sz)) 1 6 (va_A (wF cy ad hh aa pa u) sz) := by
  intro K h1
  refine vx_ofW (cc := cX9_kind) (maxL := 3) (ret := (some .int)) (by decide) rfl ?_
  intro p e s m args below meth c s₁ B hml hex hv
  obtain ⟨rfl, ⟨hsz, hP, hK, hD0⟩, hZ⟩ := hv
  subst hsz
  have E : mE D cy RX9 cX9_kind 3 (some .int) wsX9_kind (va_A (wF cy ad hh aa pa u) s.heap.size) p s m _ meth c := ⟨B.exec, B.bytes, B.returns, hml, findClass_of_methodNamed B.named, atoms_spec (ws := wsX9_kind) B.pre, B.notSynchronized, hK, fun q h => Or.inr h⟩
  have hl := lv_entry ([.ref (ad 0), .int p1, .int p2]) (n := 3) (Nat.le_of_ble_eq_true rfl)
  rw [lg_entry_eq]
  generalize (lg_sl ([.ref (ad 0), .int p1, .int p2]) ++ List.replicate (3 - (lg_sl ([.ref (ad 0), .int p1, .int p2])).length) Slot.unset).toArray = ls at hl ⊢
  exact tX9_kind_b0 K E hfl hex hZ p1 p2 u _ _ _ hl hP hD0.self va_S.rf h1
-- X9_car
theorem xaX9_car_123 : ∀ w ∈ (vx_atS RX9 123 "java/lang/IndexOutOfBoundsException" ["java/lang/RuntimeException", "java/lang/Exception"]).filter goodWord, w ∈ wsX9_car := fun w h => List.mem_cons_of_mem _ (List.mem_append_left _ (List.mem_append_right _ h))
theorem inX9_car_X9 : ∀ w ∈ u_ws RX9 TX9 9, w ∈ wsX9_car := k_lays 13 rfl
theorem lkX9_car_10 : Cond.fieldLink RX9 10 "FerryRamp" "now" "LFerryRamp$State;" ∈ wsX9_car := List.mem_of_getElem? (i := 5) rfl
theorem inX9_car_X8 : ∀ w ∈ u_ws RX8 TX8 13, w ∈ wsX9_car := k_lays 22 rfl
theorem lkX9_car_87 : Cond.fieldLink RX9 87 "FerryRamp$State" "counts" "[I" ∈ wsX9_car := List.mem_of_getElem? (i := 6) rfl
theorem xaX9_car_75 : ∀ w ∈ (vx_atS RX9 75 "java/lang/IllegalArgumentException" ["java/lang/RuntimeException", "java/lang/Exception"]).filter goodWord, w ∈ wsX9_car := fun w h => List.mem_cons_of_mem _ (List.mem_append_right _ h)
abbrev rmX9_car : Room := { frames := 6, cells := 1, slots := 6, locals := 90 }
def fX9_car_b17 (u : FS) : Option ((String ⊕ Int32) × FS) :=
  some (.inl "java/lang/IndexOutOfBoundsException", u)
set_option maxHeartbeats 4000000 in
set_option maxRecDepth 100000 in
theorem tX9_car_b17 {p : Program} {l : Launch} {e : Env} {s : State} {m : MethodId} {args : Array Value} {below : List Frame} {meth : Method} {c : Code} {D : va_G} {cy : Nat → ClassId} {A : Nat → Prop} {ad : Nat → Nat} {hh : Nat → Nat} {aa : Nat → Nat → Nat} {pa : Nat → Nat} {za zv : Nat → Nat} (K : (String ⊕ Int32) × FS → Prop) (E : mE D cy RX9 cX9_car 3 (some .int) wsX9_car A p s m args meth c) (hfl : l.stackTraces = false) (hex : ∀ x ∈ c.exceptionTable.toList, False) (hZ : mZ za zv A s s.heap)
     (u : FS) (H : Heap) (locs : List Loc) (ls : Array Slot) (hl : lv_has ls 3 []) (hP : va_P D vwCl (wF cy ad hh aa pa u) H) (hD : va_D A (wF cy ad hh aa pa u)) (hS : va_S A s.heap H locs) (h1 : Ok (fX9_car_b17 u) K) :
    kWx p l e rmX9_car s m args below meth c H locs (va_Qi (fun r q => K (.inr r, q)) (fun q => kPost D A (wF cy ad hh aa pa q)) A) (vx_X (fun _ : FS => True) (fun E q t => K (.inl E, q) ∧ kPost D A (wF cy ad hh aa pa q) t) A) A 17 ls [] := by
  obtain ⟨hx, hb, hr, hml, hown, hts, hlocks, hK, hA⟩ := id E
  unfold fX9_car_b17 at h1
  exact kx_throw (names := ["java/lang/RuntimeException", "java/lang/Exception"]) (text := "car") (sa := za 4) hx hb hfl hml hown (by decide) (by decide) (hts _ (List.mem_of_getElem? (i := 1) rfl)) (hts _ (List.mem_of_getElem? (i := 2) rfl)) (k_site hZ 4 (by decide)) (vx_hat (fun w h => hts w (xaX9_car_123 w h)) xbRX9_123 (hZ.cast (by decide))) xgRX9_119_123 hZ hK hP hD hS hl.1 dX9_car_17 dX9_car_20 dX9_car_21 dX9_car_23 dX9_car_26 hex hlocks h1 (Nat.le_of_ble_eq_true rfl) (Nat.le_of_ble_eq_true rfl) (Nat.le_of_ble_eq_true rfl) (Nat.le_of_ble_eq_true rfl)
def fX9_car_b37 (u : FS) : Option ((String ⊕ Int32) × FS) :=
  some (.inl "java/lang/IllegalArgumentException", u)
set_option maxHeartbeats 4000000 in
set_option maxRecDepth 100000 in
theorem tX9_car_b37 {p : Program} {l : Launch} {e : Env} {s : State} {m : MethodId} {args : Array Value} {below : List Frame} {meth : Method} {c : Code} {D : va_G} {cy : Nat → ClassId} {A : Nat → Prop} {ad : Nat → Nat} {hh : Nat → Nat} {aa : Nat → Nat → Nat} {pa : Nat → Nat} {za zv : Nat → Nat} (K : (String ⊕ Int32) × FS → Prop) (E : mE D cy RX9 cX9_car 3 (some .int) wsX9_car A p s m args meth c) (hfl : l.stackTraces = false) (hex : ∀ x ∈ c.exceptionTable.toList, False) (hZ : mZ za zv A s s.heap)
     (u : FS) (H : Heap) (locs : List Loc) (ls : Array Slot) (hl : lv_has ls 3 []) (hP : va_P D vwCl (wF cy ad hh aa pa u) H) (hD : va_D A (wF cy ad hh aa pa u)) (hS : va_S A s.heap H locs) (h1 : Ok (fX9_car_b37 u) K) :
    kWx p l e rmX9_car s m args below meth c H locs (va_Qi (fun r q => K (.inr r, q)) (fun q => kPost D A (wF cy ad hh aa pa q)) A) (vx_X (fun _ : FS => True) (fun E q t => K (.inl E, q) ∧ kPost D A (wF cy ad hh aa pa q) t) A) A 37 ls [] := by
  obtain ⟨hx, hb, hr, hml, hown, hts, hlocks, hK, hA⟩ := id E
  unfold fX9_car_b37 at h1
  exact kx_throw (names := ["java/lang/RuntimeException", "java/lang/Exception"]) (text := "what") (sa := za 2) hx hb hfl hml hown (by decide) (by decide) (hts _ (List.mem_of_getElem? (i := 3) rfl)) (hts _ (List.mem_of_getElem? (i := 4) rfl)) (k_site hZ 2 (by decide)) (vx_hat (fun w h => hts w (xaX9_car_75 w h)) xbRX9_75 (hZ.cast (by decide))) xgRX9_72_75 hZ hK hP hD hS hl.1 dX9_car_37 dX9_car_40 dX9_car_41 dX9_car_43 dX9_car_46 hex hlocks h1 (Nat.le_of_ble_eq_true rfl) (Nat.le_of_ble_eq_true rfl) (Nat.le_of_ble_eq_true rfl) (Nat.le_of_ble_eq_true rfl)
def fX9_car_b0 (x1 : Int32) (x2 : Int32) (u : FS) : Option ((String ⊕ Int32) × FS) :=
  (if x1 < 0 then fX9_car_b17 u else (if x1 < (sC (fN u) 3) then (if x2 < 0 then fX9_car_b37 u else (if x2 < 7 then bnd (fX8_carFact x1 x2 (fN u)) (fun r53 => some (.inr r53, u)) else fX9_car_b37 u)) else fX9_car_b17 u))
set_option maxHeartbeats 4000000 in
set_option maxRecDepth 100000 in
theorem tX9_car_b0 {p : Program} {l : Launch} {e : Env} {s : State} {m : MethodId} {args : Array Value} {below : List Frame} {meth : Method} {c : Code} {D : va_G} {cy : Nat → ClassId} {A : Nat → Prop} {ad : Nat → Nat} {hh : Nat → Nat} {aa : Nat → Nat → Nat} {pa : Nat → Nat} {za zv : Nat → Nat} (K : (String ⊕ Int32) × FS → Prop) (E : mE D cy RX9 cX9_car 3 (some .int) wsX9_car A p s m args meth c) (hfl : l.stackTraces = false) (hex : ∀ x ∈ c.exceptionTable.toList, False) (hZ : mZ za zv A s s.heap)
     (x1 : Int32) (x2 : Int32) (u : FS) (H : Heap) (locs : List Loc) (ls : Array Slot) (hl : lv_has ls 3 [(0, .ref (ad 0)), (1, .int x1), (2, .int x2)]) (hP : va_P D vwCl (wF cy ad hh aa pa u) H) (hD : va_D A (wF cy ad hh aa pa u)) (hS : va_S A s.heap H locs) (h1 : Ok (fX9_car_b0 x1 x2 u) K) :
    kWx p l e rmX9_car s m args below meth c H locs (va_Qi (fun r q => K (.inr r, q)) (fun q => kPost D A (wF cy ad hh aa pa q)) A) (vx_X (fun _ : FS => True) (fun E q t => K (.inl E, q) ∧ kPost D A (wF cy ad hh aa pa q) t) A) A 0 ls [] := by
  obtain ⟨hx, hb, hr, hml, hown, hts, hlocks, hK, hA⟩ := id E
  unfold fX9_car_b0 at h1
  refine lv_iload_n hx hb dX9_car_0 rfl (lv_at hl 1 rfl) ?_
  refine lv_if_lt (tgt := 17) hx hb dX9_car_1 (by decide) (fun c1 => ?_) (fun c1 => ?_)
  · replace h1 := Ok.pos c1 h1
    exact tX9_car_b17 K E hfl hex hZ u H locs ls (lv_sub hl [] rfl) hP hD hS h1
  · replace h1 := Ok.neg c1 h1
    refine lv_iload_n hx hb dX9_car_4 rfl (lv_at hl 1 rfl) ?_
    refine lv_aload_n hx hb dX9_car_5 rfl (lv_at hl 0 rfl) ?_
    refine k_get (v := .ref (hh 0)) (C := RX9) (T := TX9) (N := 9) hx hb hts inX9_car_X9 hown hK hP 0 (wF_c0 _ _ _ _ _ _) rfl 0 (by decide) lkX9_car_10 (fFs_0 _ _ _ _) dX9_car_6 ?_
    refine k_get (v := .ref ((aa 0) 0)) (C := RX8) (T := TX8) (N := 13) hx hb hts inX9_car_X8 hown hK hP 5 (wF_c5 _ _ _ _ _ _) rfl 0 (by decide) lkX9_car_87 (sFs_0 _ _) dX9_car_9 ?_
    refine lv_iconst (v := 3) hx hb dX9_car_12 rfl ?_
    refine k_iald (k := 3) hx hb hK hP 6 (wF_c6 _ _ _ _ _ _) rfl rfl dX9_car_13 ?_
    refine lv_icmp_lt (tgt := 27) hx hb dX9_car_14 (by decide) (fun c14 => ?_) (fun c14 => ?_)
    · replace h1 := Ok.pos c14 h1
      refine lv_iload_n hx hb dX9_car_27 rfl (lv_at hl 2 rfl) ?_
      refine lv_if_lt (tgt := 37) hx hb dX9_car_28 (by decide) (fun c28 => ?_) (fun c28 => ?_)
      · replace h1 := Ok.pos c28 h1
        exact tX9_car_b37 K E hfl hex hZ u H locs ls (lv_sub hl [] rfl) hP hD hS h1
      · replace h1 := Ok.neg c28 h1
        refine lv_iload_n hx hb dX9_car_31 rfl (lv_at hl 2 rfl) ?_
        refine lv_bipush (v := 7) hx hb dX9_car_32 rfl ?_
        refine lv_icmp_lt (tgt := 47) hx hb dX9_car_34 (by decide) (fun c34 => ?_) (fun c34 => ?_)
        · replace h1 := Ok.pos c34 h1
          refine lv_aload_n hx hb dX9_car_47 rfl (lv_at hl 0 rfl) ?_
          refine k_get (v := .ref (hh 0)) (C := RX9) (T := TX9) (N := 9) hx hb hts inX9_car_X9 hown hK hP 0 (wF_c0 _ _ _ _ _ _) rfl 0 (by decide) lkX9_car_10 (fFs_0 _ _ _ _) dX9_car_48 ?_
          refine lv_iload_n hx hb dX9_car_51 rfl (lv_at hl 1 rfl) ?_
          refine lv_iload_n hx hb dX9_car_52 rfl (lv_at hl 2 rfl) ?_
          refine kc_rV (b := (hh 0)) (As := [.int x1, .int x2]) (rest := []) h1 ⟨hx, hb, hml, hown, hts⟩ (cX8_carFactM l D cy (hh 0) (aa 0) H.size (fN u) x1 x2) (cwV 2 hts gX9_car_X8_carFact rfl rfl rfl hdX8_carFact ⟨Nat.le_of_ble_eq_true rfl, Nat.le_of_ble_eq_true rfl⟩) hK (wF_sel1 _ _ _ _ _ _) hP hD hS hA (q0 := 0) rfl rfl rfl hl.1 rfl (Nat.le_of_ble_eq_true rfl) dX9_car_53 ⟨Nat.zero_le _, Nat.zero_le _⟩ (fun r53 H locs h1 hP hS => ?_)
          exact kret_x hx hb hr hlocks hP hD hS h1 dX9_car_56
        · replace h1 := Ok.neg c34 h1
          exact tX9_car_b37 K E hfl hex hZ u H locs ls (lv_sub hl [] rfl) hP hD hS h1
    · replace h1 := Ok.neg c14 h1
      exact tX9_car_b17 K E hfl hex hZ u H locs ls (lv_sub hl [] rfl) hP hD hS h1
def fX9_car (p1 : Int32) (p2 : Int32) (u : FS) : Option ((String ⊕ Int32) × FS) := fX9_car_b0 p1 p2 u
set_option maxHeartbeats 4000000 in
set_option maxRecDepth 100000 in
theorem cX9_carM (l : Launch) (hfl : l.stackTraces = false) (D : va_G) (cy : Nat → ClassId) (za zv : Nat → Nat) (ad : Nat → Nat) (hh : Nat → Nat) (aa : Nat → Nat → Nat) (pa : Nat → Nat) (sz : Nat) (u : FS) (p1 : Int32) (p2 : Int32) : ∀ (K : (String ⊕ Int32) × FS → Prop), Ok (fX9_car p1 p2 u) K → vx_Met l yX9_car wsX9_car rmX9_car (va_Pc [.ref (ad 0), .int p1, .int p2] (kPreZ D cy za zv sz (wF cy ad hh aa pa u))) (va_Qi (fun r q => K (.inr r, q)) (fun q => kPost D (va_A (wF cy ad hh aa pa u) sz) (wF cy ad hh aa pa q)) (va_A (wF cy ad hh aa pa u) sz)) (vx_X (fun _ : FS => True) (fun E q t => K (.inl E, q) ∧ kPost D (va_A (wF cy ad hh aa pa u) sz) (wF cy ad hh aa pa q) t) (va_A (wF cy ad hh aa pa u) sz)) 1 6 (va_A (wF cy ad hh aa pa u) sz) := by
  intro K h1
  refine vx_ofW (cc := cX9_car) (maxL := 3) (ret := (some .int)) (by decide) rfl ?_
  intro p e s m args below meth c s₁ B hml hex hv
  obtain ⟨rfl, ⟨hsz, hP, hK, hD0⟩, hZ⟩ := hv
  subst hsz
  have E : mE D cy RX9 cX9_car 3 (some .int) wsX9_car (va_A (wF cy ad hh aa pa u) s.heap.size) p s m _ meth c := ⟨B.exec, B.bytes, B.returns, hml, findClass_of_methodNamed B.named, atoms_spec (ws := wsX9_car) B.pre, B.notSynchronized, hK, fun q h => Or.inr h⟩
  have hl := lv_entry ([.ref (ad 0), .int p1, .int p2]) (n := 3) (Nat.le_of_ble_eq_true rfl)
  rw [lg_entry_eq]
  generalize (lg_sl ([.ref (ad 0), .int p1, .int p2]) ++ List.replicate (3 - (lg_sl ([.ref (ad 0), .int p1, .int p2])).length) Slot.unset).toArray = ls at hl ⊢
  exact tX9_car_b0 K E hfl hex hZ p1 p2 u _ _ _ hl hP hD0.self va_S.rf h1
-- X9_standing
theorem xaX9_standing_123 : ∀ w ∈ (vx_atS RX9 123 "java/lang/IndexOutOfBoundsException" ["java/lang/RuntimeException", "java/lang/Exception"]).filter goodWord, w ∈ wsX9_standing := fun w h => List.mem_cons_of_mem _ (List.mem_append_right _ h)
theorem inX9_standing_X9 : ∀ w ∈ u_ws RX9 TX9 9, w ∈ wsX9_standing := k_lays 14 rfl
theorem lkX9_standing_10 : Cond.fieldLink RX9 10 "FerryRamp" "now" "LFerryRamp$State;" ∈ wsX9_standing := List.mem_of_getElem? (i := 3) rfl
abbrev rmX9_standing : Room := { frames := 6, cells := 1, slots := 6, locals := 90 }
def fX9_standing_b9 (u : FS) : Option ((String ⊕ Int32) × FS) :=
  some (.inl "java/lang/IndexOutOfBoundsException", u)
set_option maxHeartbeats 4000000 in
set_option maxRecDepth 100000 in
theorem tX9_standing_b9 {p : Program} {l : Launch} {e : Env} {s : State} {m : MethodId} {args : Array Value} {below : List Frame} {meth : Method} {c : Code} {D : va_G} {cy : Nat → ClassId} {A : Nat → Prop} {ad : Nat → Nat} {hh : Nat → Nat} {aa : Nat → Nat → Nat} {pa : Nat → Nat} {za zv : Nat → Nat} (K : (String ⊕ Int32) × FS → Prop) (E : mE D cy RX9 cX9_standing 3 (some .int) wsX9_standing A p s m args meth c) (hfl : l.stackTraces = false) (hex : ∀ x ∈ c.exceptionTable.toList, False) (hZ : mZ za zv A s s.heap)
     (u : FS) (H : Heap) (locs : List Loc) (ls : Array Slot) (hl : lv_has ls 3 []) (hP : va_P D vwCl (wF cy ad hh aa pa u) H) (hD : va_D A (wF cy ad hh aa pa u)) (hS : va_S A s.heap H locs) (h1 : Ok (fX9_standing_b9 u) K) :
    kWx p l e rmX9_standing s m args below meth c H locs (va_Qi (fun r q => K (.inr r, q)) (fun q => kPost D A (wF cy ad hh aa pa q)) A) (vx_X (fun _ : FS => True) (fun E q t => K (.inl E, q) ∧ kPost D A (wF cy ad hh aa pa q) t) A) A 9 ls [] := by
  obtain ⟨hx, hb, hr, hml, hown, hts, hlocks, hK, hA⟩ := id E
  unfold fX9_standing_b9 at h1
  exact kx_throw (names := ["java/lang/RuntimeException", "java/lang/Exception"]) (text := "lane") (sa := za 5) hx hb hfl hml hown (by decide) (by decide) (hts _ (List.mem_of_getElem? (i := 1) rfl)) (hts _ (List.mem_of_getElem? (i := 2) rfl)) (k_site hZ 5 (by decide)) (vx_hat (fun w h => hts w (xaX9_standing_123 w h)) xbRX9_123 (hZ.cast (by decide))) xgRX9_119_123 hZ hK hP hD hS hl.1 dX9_standing_9 dX9_standing_12 dX9_standing_13 dX9_standing_15 dX9_standing_18 hex hlocks h1 (Nat.le_of_ble_eq_true rfl) (Nat.le_of_ble_eq_true rfl) (Nat.le_of_ble_eq_true rfl) (Nat.le_of_ble_eq_true rfl)
def fX9_standing_b0 (x1 : Int32) (x2 : Int32) (u : FS) : Option ((String ⊕ Int32) × FS) :=
  (if x1 < 0 then fX9_standing_b9 u else (if x1 < 3 then bnd (fX8_carOnDeck x1 x2 (fN u)) (fun r25 => some (.inr r25, u)) else fX9_standing_b9 u))
set_option maxHeartbeats 4000000 in
set_option maxRecDepth 100000 in
theorem tX9_standing_b0 {p : Program} {l : Launch} {e : Env} {s : State} {m : MethodId} {args : Array Value} {below : List Frame} {meth : Method} {c : Code} {D : va_G} {cy : Nat → ClassId} {A : Nat → Prop} {ad : Nat → Nat} {hh : Nat → Nat} {aa : Nat → Nat → Nat} {pa : Nat → Nat} {za zv : Nat → Nat} (K : (String ⊕ Int32) × FS → Prop) (E : mE D cy RX9 cX9_standing 3 (some .int) wsX9_standing A p s m args meth c) (hfl : l.stackTraces = false) (hex : ∀ x ∈ c.exceptionTable.toList, False) (hZ : mZ za zv A s s.heap)
     (x1 : Int32) (x2 : Int32) (u : FS) (H : Heap) (locs : List Loc) (ls : Array Slot) (hl : lv_has ls 3 [(0, .ref (ad 0)), (1, .int x1), (2, .int x2)]) (hP : va_P D vwCl (wF cy ad hh aa pa u) H) (hD : va_D A (wF cy ad hh aa pa u)) (hS : va_S A s.heap H locs) (h1 : Ok (fX9_standing_b0 x1 x2 u) K) :
    kWx p l e rmX9_standing s m args below meth c H locs (va_Qi (fun r q => K (.inr r, q)) (fun q => kPost D A (wF cy ad hh aa pa q)) A) (vx_X (fun _ : FS => True) (fun E q t => K (.inl E, q) ∧ kPost D A (wF cy ad hh aa pa q) t) A) A 0 ls [] := by
  obtain ⟨hx, hb, hr, hml, hown, hts, hlocks, hK, hA⟩ := id E
  unfold fX9_standing_b0 at h1
  refine lv_iload_n hx hb dX9_standing_0 rfl (lv_at hl 1 rfl) ?_
  refine lv_if_lt (tgt := 9) hx hb dX9_standing_1 (by decide) (fun c1 => ?_) (fun c1 => ?_)
  · replace h1 := Ok.pos c1 h1
    exact tX9_standing_b9 K E hfl hex hZ u H locs ls (lv_sub hl [] rfl) hP hD hS h1
  · replace h1 := Ok.neg c1 h1
    refine lv_iload_n hx hb dX9_standing_4 rfl (lv_at hl 1 rfl) ?_
    refine lv_iconst (v := 3) hx hb dX9_standing_5 rfl ?_
    refine lv_icmp_lt (tgt := 19) hx hb dX9_standing_6 (by decide) (fun c6 => ?_) (fun c6 => ?_)
    · replace h1 := Ok.pos c6 h1
      refine lv_aload_n hx hb dX9_standing_19 rfl (lv_at hl 0 rfl) ?_
      refine k_get (v := .ref (hh 0)) (C := RX9) (T := TX9) (N := 9) hx hb hts inX9_standing_X9 hown hK hP 0 (wF_c0 _ _ _ _ _ _) rfl 0 (by decide) lkX9_standing_10 (fFs_0 _ _ _ _) dX9_standing_20 ?_
      refine lv_iload_n hx hb dX9_standing_23 rfl (lv_at hl 1 rfl) ?_
      refine lv_iload_n hx hb dX9_standing_24 rfl (lv_at hl 2 rfl) ?_
      refine kc_rV (b := (hh 0)) (As := [.int x1, .int x2]) (rest := []) h1 ⟨hx, hb, hml, hown, hts⟩ (cX8_carOnDeckM l D cy (hh 0) (aa 0) H.size (fN u) x1 x2) (cwV 2 hts gX9_standing_X8_carOnDeck rfl rfl rfl hdX8_carOnDeck ⟨Nat.le_of_ble_eq_true rfl, Nat.le_of_ble_eq_true rfl⟩) hK (wF_sel1 _ _ _ _ _ _) hP hD hS hA (q0 := 0) rfl rfl rfl hl.1 rfl (Nat.le_of_ble_eq_true rfl) dX9_standing_25 ⟨Nat.zero_le _, Nat.zero_le _⟩ (fun r25 H locs h1 hP hS => ?_)
      exact kret_x hx hb hr hlocks hP hD hS h1 dX9_standing_28
    · replace h1 := Ok.neg c6 h1
      exact tX9_standing_b9 K E hfl hex hZ u H locs ls (lv_sub hl [] rfl) hP hD hS h1
def fX9_standing (p1 : Int32) (p2 : Int32) (u : FS) : Option ((String ⊕ Int32) × FS) := fX9_standing_b0 p1 p2 u
set_option maxHeartbeats 4000000 in
set_option maxRecDepth 100000 in
theorem cX9_standingM (l : Launch) (hfl : l.stackTraces = false) (D : va_G) (cy : Nat → ClassId) (za zv : Nat → Nat) (ad : Nat → Nat) (hh : Nat → Nat) (aa : Nat → Nat → Nat) (pa : Nat → Nat) (sz : Nat) (u : FS) (p1 : Int32) (p2 : Int32) : ∀ (K : (String ⊕ Int32) × FS → Prop), Ok (fX9_standing p1 p2 u) K → vx_Met l yX9_standing wsX9_standing rmX9_standing (va_Pc [.ref (ad 0), .int p1, .int p2] (kPreZ D cy za zv sz (wF cy ad hh aa pa u))) (va_Qi (fun r q => K (.inr r, q)) (fun q => kPost D (va_A (wF cy ad hh aa pa u) sz) (wF cy ad hh aa pa q)) (va_A (wF cy ad hh aa pa u) sz)) (vx_X (fun _ : FS => True) (fun E q t => K (.inl E, q) ∧ kPost D (va_A (wF cy ad hh aa pa u) sz) (wF cy ad hh aa pa q) t) (va_A (wF cy ad hh aa pa u) sz)) 1 6 (va_A (wF cy ad hh aa pa u) sz) := by
  intro K h1
  refine vx_ofW (cc := cX9_standing) (maxL := 3) (ret := (some .int)) (by decide) rfl ?_
  intro p e s m args below meth c s₁ B hml hex hv
  obtain ⟨rfl, ⟨hsz, hP, hK, hD0⟩, hZ⟩ := hv
  subst hsz
  have E : mE D cy RX9 cX9_standing 3 (some .int) wsX9_standing (va_A (wF cy ad hh aa pa u) s.heap.size) p s m _ meth c := ⟨B.exec, B.bytes, B.returns, hml, findClass_of_methodNamed B.named, atoms_spec (ws := wsX9_standing) B.pre, B.notSynchronized, hK, fun q h => Or.inr h⟩
  have hl := lv_entry ([.ref (ad 0), .int p1, .int p2]) (n := 3) (Nat.le_of_ble_eq_true rfl)
  rw [lg_entry_eq]
  generalize (lg_sl ([.ref (ad 0), .int p1, .int p2]) ++ List.replicate (3 - (lg_sl ([.ref (ad 0), .int p1, .int p2])).length) Slot.unset).toArray = ls at hl ⊢
  exact tX9_standing_b0 K E hfl hex hZ p1 p2 u _ _ _ hl hP hD0.self va_S.rf h1
-- X9_lane
theorem xaX9_lane_123 : ∀ w ∈ (vx_atS RX9 123 "java/lang/IndexOutOfBoundsException" ["java/lang/RuntimeException", "java/lang/Exception"]).filter goodWord, w ∈ wsX9_lane := fun w h => List.mem_cons_of_mem _ (List.mem_append_right _ h)
theorem inX9_lane_X9 : ∀ w ∈ u_ws RX9 TX9 9, w ∈ wsX9_lane := k_lays 7 rfl
theorem lkX9_lane_10 : Cond.fieldLink RX9 10 "FerryRamp" "now" "LFerryRamp$State;" ∈ wsX9_lane := List.mem_of_getElem? (i := 3) rfl
theorem inX9_lane_X8 : ∀ w ∈ u_ws RX8 TX8 13, w ∈ wsX9_lane := k_lays 16 rfl
theorem lkX9_lane_152 : Cond.fieldLink RX9 152 "FerryRamp$State" "weights" "[I" ∈ wsX9_lane := List.mem_of_getElem? (i := 6) rfl
theorem lkX9_lane_116 : Cond.fieldLink RX9 116 "FerryRamp$State" "settings" "[I" ∈ wsX9_lane := List.mem_of_getElem? (i := 4) rfl
theorem lkX9_lane_149 : Cond.fieldLink RX9 149 "FerryRamp$State" "taken" "[I" ∈ wsX9_lane := List.mem_of_getElem? (i := 5) rfl
abbrev rmX9_lane : Room := { frames := 6, cells := 1, slots := 6, locals := 90 }
def fX9_lane_b9 (u : FS) : Option ((String ⊕ Int32) × FS) :=
  some (.inl "java/lang/IndexOutOfBoundsException", u)
set_option maxHeartbeats 4000000 in
set_option maxRecDepth 100000 in
theorem tX9_lane_b9 {p : Program} {l : Launch} {e : Env} {s : State} {m : MethodId} {args : Array Value} {below : List Frame} {meth : Method} {c : Code} {D : va_G} {cy : Nat → ClassId} {A : Nat → Prop} {ad : Nat → Nat} {hh : Nat → Nat} {aa : Nat → Nat → Nat} {pa : Nat → Nat} {za zv : Nat → Nat} (K : (String ⊕ Int32) × FS → Prop) (E : mE D cy RX9 cX9_lane 3 (some .int) wsX9_lane A p s m args meth c) (hfl : l.stackTraces = false) (hex : ∀ x ∈ c.exceptionTable.toList, False) (hZ : mZ za zv A s s.heap)
     (u : FS) (H : Heap) (locs : List Loc) (ls : Array Slot) (hl : lv_has ls 3 []) (hP : va_P D vwCl (wF cy ad hh aa pa u) H) (hD : va_D A (wF cy ad hh aa pa u)) (hS : va_S A s.heap H locs) (h1 : Ok (fX9_lane_b9 u) K) :
    kWx p l e rmX9_lane s m args below meth c H locs (va_Qi (fun r q => K (.inr r, q)) (fun q => kPost D A (wF cy ad hh aa pa q)) A) (vx_X (fun _ : FS => True) (fun E q t => K (.inl E, q) ∧ kPost D A (wF cy ad hh aa pa q) t) A) A 9 ls [] := by
  obtain ⟨hx, hb, hr, hml, hown, hts, hlocks, hK, hA⟩ := id E
  unfold fX9_lane_b9 at h1
  exact kx_throw (names := ["java/lang/RuntimeException", "java/lang/Exception"]) (text := "lane") (sa := za 5) hx hb hfl hml hown (by decide) (by decide) (hts _ (List.mem_of_getElem? (i := 1) rfl)) (hts _ (List.mem_of_getElem? (i := 2) rfl)) (k_site hZ 5 (by decide)) (vx_hat (fun w h => hts w (xaX9_lane_123 w h)) xbRX9_123 (hZ.cast (by decide))) xgRX9_119_123 hZ hK hP hD hS hl.1 dX9_lane_9 dX9_lane_12 dX9_lane_13 dX9_lane_15 dX9_lane_18 hex hlocks h1 (Nat.le_of_ble_eq_true rfl) (Nat.le_of_ble_eq_true rfl) (Nat.le_of_ble_eq_true rfl) (Nat.le_of_ble_eq_true rfl)
def fX9_lane_b0 (x1 : Int32) (x2 : Int32) (u : FS) : Option ((String ⊕ Int32) × FS) :=
  (if x1 < 0 then fX9_lane_b9 u else (if x1 < 3 then (if x2 = 0 then grd (inb x1 3) (some (.inr (sW (fN u) (ix x1)), u)) else grd (inb x1 3) (some (.inr ((sT (fN u) 6) - (sN (fN u) (ix x1))), u))) else fX9_lane_b9 u))
set_option maxHeartbeats 4000000 in
set_option maxRecDepth 100000 in
theorem tX9_lane_b0 {p : Program} {l : Launch} {e : Env} {s : State} {m : MethodId} {args : Array Value} {below : List Frame} {meth : Method} {c : Code} {D : va_G} {cy : Nat → ClassId} {A : Nat → Prop} {ad : Nat → Nat} {hh : Nat → Nat} {aa : Nat → Nat → Nat} {pa : Nat → Nat} {za zv : Nat → Nat} (K : (String ⊕ Int32) × FS → Prop) (E : mE D cy RX9 cX9_lane 3 (some .int) wsX9_lane A p s m args meth c) (hfl : l.stackTraces = false) (hex : ∀ x ∈ c.exceptionTable.toList, False) (hZ : mZ za zv A s s.heap)
     (x1 : Int32) (x2 : Int32) (u : FS) (H : Heap) (locs : List Loc) (ls : Array Slot) (hl : lv_has ls 3 [(0, .ref (ad 0)), (1, .int x1), (2, .int x2)]) (hP : va_P D vwCl (wF cy ad hh aa pa u) H) (hD : va_D A (wF cy ad hh aa pa u)) (hS : va_S A s.heap H locs) (h1 : Ok (fX9_lane_b0 x1 x2 u) K) :
    kWx p l e rmX9_lane s m args below meth c H locs (va_Qi (fun r q => K (.inr r, q)) (fun q => kPost D A (wF cy ad hh aa pa q)) A) (vx_X (fun _ : FS => True) (fun E q t => K (.inl E, q) ∧ kPost D A (wF cy ad hh aa pa q) t) A) A 0 ls [] := by
  obtain ⟨hx, hb, hr, hml, hown, hts, hlocks, hK, hA⟩ := id E
  unfold fX9_lane_b0 at h1
  refine lv_iload_n hx hb dX9_lane_0 rfl (lv_at hl 1 rfl) ?_
  refine lv_if_lt (tgt := 9) hx hb dX9_lane_1 (by decide) (fun c1 => ?_) (fun c1 => ?_)
  · replace h1 := Ok.pos c1 h1
    exact tX9_lane_b9 K E hfl hex hZ u H locs ls (lv_sub hl [] rfl) hP hD hS h1
  · replace h1 := Ok.neg c1 h1
    refine lv_iload_n hx hb dX9_lane_4 rfl (lv_at hl 1 rfl) ?_
    refine lv_iconst (v := 3) hx hb dX9_lane_5 rfl ?_
    refine lv_icmp_lt (tgt := 19) hx hb dX9_lane_6 (by decide) (fun c6 => ?_) (fun c6 => ?_)
    · replace h1 := Ok.pos c6 h1
      refine lv_iload_n hx hb dX9_lane_19 rfl (lv_at hl 2 rfl) ?_
      refine lv_if_eq (tgt := 46) hx hb dX9_lane_20 (by decide) (fun c20 => ?_) (fun c20 => ?_)
      · replace h1 := Ok.pos c20 h1
        refine lv_aload_n hx hb dX9_lane_46 rfl (lv_at hl 0 rfl) ?_
        refine k_get (v := .ref (hh 0)) (C := RX9) (T := TX9) (N := 9) hx hb hts inX9_lane_X9 hown hK hP 0 (wF_c0 _ _ _ _ _ _) rfl 0 (by decide) lkX9_lane_10 (fFs_0 _ _ _ _) dX9_lane_47 ?_
        refine k_get (v := .ref ((aa 0) 7)) (C := RX8) (T := TX8) (N := 13) hx hb hts inX9_lane_X8 hown hK hP 5 (wF_c5 _ _ _ _ _ _) rfl 7 (by decide) lkX9_lane_152 (sFs_7 _ _) dX9_lane_50 ?_
        refine lv_iload_n hx hb dX9_lane_53 rfl (lv_at hl 1 rfl) ?_
        have g54 := h1.grd1
        replace h1 := h1.grd2
        refine k_iald (k := (ix x1)) hx hb hK hP 13 (wF_c13 _ _ _ _ _ _) g54 rfl dX9_lane_54 ?_
        exact kret_x hx hb hr hlocks hP hD hS h1 dX9_lane_55
      · replace h1 := Ok.neg c20 h1
        refine lv_aload_n hx hb dX9_lane_23 rfl (lv_at hl 0 rfl) ?_
        refine k_get (v := .ref (hh 0)) (C := RX9) (T := TX9) (N := 9) hx hb hts inX9_lane_X9 hown hK hP 0 (wF_c0 _ _ _ _ _ _) rfl 0 (by decide) lkX9_lane_10 (fFs_0 _ _ _ _) dX9_lane_24 ?_
        refine k_get (v := .ref ((aa 0) 1)) (C := RX8) (T := TX8) (N := 13) hx hb hts inX9_lane_X8 hown hK hP 5 (wF_c5 _ _ _ _ _ _) rfl 1 (by decide) lkX9_lane_116 (sFs_1 _ _) dX9_lane_27 ?_
        refine lv_bipush (v := 6) hx hb dX9_lane_30 rfl ?_
        refine k_iald (k := 6) hx hb hK hP 7 (wF_c7 _ _ _ _ _ _) rfl rfl dX9_lane_32 ?_
        refine lv_aload_n hx hb dX9_lane_33 rfl (lv_at hl 0 rfl) ?_
        refine k_get (v := .ref (hh 0)) (C := RX9) (T := TX9) (N := 9) hx hb hts inX9_lane_X9 hown hK hP 0 (wF_c0 _ _ _ _ _ _) rfl 0 (by decide) lkX9_lane_10 (fFs_0 _ _ _ _) dX9_lane_34 ?_
        refine k_get (v := .ref ((aa 0) 8)) (C := RX8) (T := TX8) (N := 13) hx hb hts inX9_lane_X8 hown hK hP 5 (wF_c5 _ _ _ _ _ _) rfl 8 (by decide) lkX9_lane_149 (sFs_8 _ _) dX9_lane_37 ?_
        refine lv_iload_n hx hb dX9_lane_40 rfl (lv_at hl 1 rfl) ?_
        have g41 := h1.grd1
        replace h1 := h1.grd2
        refine k_iald (k := (ix x1)) hx hb hK hP 14 (wF_c14 _ _ _ _ _ _) g41 rfl dX9_lane_41 ?_
        refine lv_isub hx hb dX9_lane_42 ?_
        refine lv_goto (tgt := 55) hx hb dX9_lane_43 (by decide) ?_
        exact kret_x hx hb hr hlocks hP hD hS h1 dX9_lane_55
    · replace h1 := Ok.neg c6 h1
      exact tX9_lane_b9 K E hfl hex hZ u H locs ls (lv_sub hl [] rfl) hP hD hS h1
def fX9_lane (p1 : Int32) (p2 : Int32) (u : FS) : Option ((String ⊕ Int32) × FS) := fX9_lane_b0 p1 p2 u
set_option maxHeartbeats 4000000 in
set_option maxRecDepth 100000 in
theorem cX9_laneM (l : Launch) (hfl : l.stackTraces = false) (D : va_G) (cy : Nat → ClassId) (za zv : Nat → Nat) (ad : Nat → Nat) (hh : Nat → Nat) (aa : Nat → Nat → Nat) (pa : Nat → Nat) (sz : Nat) (u : FS) (p1 : Int32) (p2 : Int32) : ∀ (K : (String ⊕ Int32) × FS → Prop), Ok (fX9_lane p1 p2 u) K → vx_Met l yX9_lane wsX9_lane rmX9_lane (va_Pc [.ref (ad 0), .int p1, .int p2] (kPreZ D cy za zv sz (wF cy ad hh aa pa u))) (va_Qi (fun r q => K (.inr r, q)) (fun q => kPost D (va_A (wF cy ad hh aa pa u) sz) (wF cy ad hh aa pa q)) (va_A (wF cy ad hh aa pa u) sz)) (vx_X (fun _ : FS => True) (fun E q t => K (.inl E, q) ∧ kPost D (va_A (wF cy ad hh aa pa u) sz) (wF cy ad hh aa pa q) t) (va_A (wF cy ad hh aa pa u) sz)) 1 6 (va_A (wF cy ad hh aa pa u) sz) := by
  intro K h1
  refine vx_ofW (cc := cX9_lane) (maxL := 3) (ret := (some .int)) (by decide) rfl ?_
  intro p e s m args below meth c s₁ B hml hex hv
  obtain ⟨rfl, ⟨hsz, hP, hK, hD0⟩, hZ⟩ := hv
  subst hsz
  have E : mE D cy RX9 cX9_lane 3 (some .int) wsX9_lane (va_A (wF cy ad hh aa pa u) s.heap.size) p s m _ meth c := ⟨B.exec, B.bytes, B.returns, hml, findClass_of_methodNamed B.named, atoms_spec (ws := wsX9_lane) B.pre, B.notSynchronized, hK, fun q h => Or.inr h⟩
  have hl := lv_entry ([.ref (ad 0), .int p1, .int p2]) (n := 3) (Nat.le_of_ble_eq_true rfl)
  rw [lg_entry_eq]
  generalize (lg_sl ([.ref (ad 0), .int p1, .int p2]) ++ List.replicate (3 - (lg_sl ([.ref (ad 0), .int p1, .int p2])).length) Slot.unset).toArray = ls at hl ⊢
  exact tX9_lane_b0 K E hfl hex hZ p1 p2 u _ _ _ hl hP hD0.self va_S.rf h1
-- X9_call
theorem inX9_call_X9 : ∀ w ∈ u_ws RX9 TX9 9, w ∈ wsX9_call := k_lays 12 rfl
theorem lkX9_call_10 : Cond.fieldLink RX9 10 "FerryRamp" "now" "LFerryRamp$State;" ∈ wsX9_call := List.mem_of_getElem? (i := 5) rfl
theorem inX9_call_X8 : ∀ w ∈ u_ws RX8 TX8 13, w ∈ wsX9_call := k_lays 21 rfl
theorem lkX9_call_87 : Cond.fieldLink RX9 87 "FerryRamp$State" "counts" "[I" ∈ wsX9_call := List.mem_of_getElem? (i := 6) rfl
theorem xaX9_call_123 : ∀ w ∈ (vx_atS RX9 123 "java/lang/IndexOutOfBoundsException" ["java/lang/RuntimeException", "java/lang/Exception"]).filter goodWord, w ∈ wsX9_call := fun w h => List.mem_cons_of_mem _ (List.mem_append_left _ (List.mem_append_right _ h))
theorem xaX9_call_75 : ∀ w ∈ (vx_atS RX9 75 "java/lang/IllegalArgumentException" ["java/lang/RuntimeException", "java/lang/Exception"]).filter goodWord, w ∈ wsX9_call := fun w h => List.mem_cons_of_mem _ (List.mem_append_right _ h)
theorem lkX9_call_159 : Cond.fieldLink RX9 159 "FerryRamp$State" "calls" "[I" ∈ wsX9_call := List.mem_of_getElem? (i := 7) rfl
theorem wF_c15 (cy : Nat → ClassId) (ad : Nat → Nat) (hh : Nat → Nat) (aa : Nat → Nat → Nat) (pa : Nat → Nat) (u : FS) : (wF cy ad hh aa pa u)[15]? = some (((aa 0) 9), .inl (cy 0, 80, .inl (sL (fN u)))) := fl_atj (l := wFl cy ad hh aa pa u) (j := 1) (q := 10) rfl rfl rfl
abbrev rmX9_call : Room := { frames := 6, cells := 1, slots := 6, locals := 90 }
def fX9_call_b26 (u : FS) : Option ((String ⊕ Int32) × FS) :=
  some (.inl "java/lang/IndexOutOfBoundsException", u)
set_option maxHeartbeats 4000000 in
set_option maxRecDepth 100000 in
theorem tX9_call_b26 {p : Program} {l : Launch} {e : Env} {s : State} {m : MethodId} {args : Array Value} {below : List Frame} {meth : Method} {c : Code} {D : va_G} {cy : Nat → ClassId} {A : Nat → Prop} {ad : Nat → Nat} {hh : Nat → Nat} {aa : Nat → Nat → Nat} {pa : Nat → Nat} {za zv : Nat → Nat} (K : (String ⊕ Int32) × FS → Prop) (E : mE D cy RX9 cX9_call 4 (some .int) wsX9_call A p s m args meth c) (hfl : l.stackTraces = false) (hex : ∀ x ∈ c.exceptionTable.toList, False) (hZ : mZ za zv A s s.heap)
     (u : FS) (H : Heap) (locs : List Loc) (ls : Array Slot) (hl : lv_has ls 4 []) (hP : va_P D vwCl (wF cy ad hh aa pa u) H) (hD : va_D A (wF cy ad hh aa pa u)) (hS : va_S A s.heap H locs) (h1 : Ok (fX9_call_b26 u) K) :
    kWx p l e rmX9_call s m args below meth c H locs (va_Qi (fun r q => K (.inr r, q)) (fun q => kPost D A (wF cy ad hh aa pa q)) A) (vx_X (fun _ : FS => True) (fun E q t => K (.inl E, q) ∧ kPost D A (wF cy ad hh aa pa q) t) A) A 26 ls [] := by
  obtain ⟨hx, hb, hr, hml, hown, hts, hlocks, hK, hA⟩ := id E
  unfold fX9_call_b26 at h1
  exact kx_throw (names := ["java/lang/RuntimeException", "java/lang/Exception"]) (text := "call") (sa := za 6) hx hb hfl hml hown (by decide) (by decide) (hts _ (List.mem_of_getElem? (i := 1) rfl)) (hts _ (List.mem_of_getElem? (i := 2) rfl)) (k_site hZ 6 (by decide)) (vx_hat (fun w h => hts w (xaX9_call_123 w h)) xbRX9_123 (hZ.cast (by decide))) xgRX9_119_123 hZ hK hP hD hS hl.1 dX9_call_26 dX9_call_29 dX9_call_30 dX9_call_32 dX9_call_35 hex hlocks h1 (Nat.le_of_ble_eq_true rfl) (Nat.le_of_ble_eq_true rfl) (Nat.le_of_ble_eq_true rfl) (Nat.le_of_ble_eq_true rfl)
def fX9_call_b45 (u : FS) : Option ((String ⊕ Int32) × FS) :=
  some (.inl "java/lang/IllegalArgumentException", u)
set_option maxHeartbeats 4000000 in
set_option maxRecDepth 100000 in
theorem tX9_call_b45 {p : Program} {l : Launch} {e : Env} {s : State} {m : MethodId} {args : Array Value} {below : List Frame} {meth : Method} {c : Code} {D : va_G} {cy : Nat → ClassId} {A : Nat → Prop} {ad : Nat → Nat} {hh : Nat → Nat} {aa : Nat → Nat → Nat} {pa : Nat → Nat} {za zv : Nat → Nat} (K : (String ⊕ Int32) × FS → Prop) (E : mE D cy RX9 cX9_call 4 (some .int) wsX9_call A p s m args meth c) (hfl : l.stackTraces = false) (hex : ∀ x ∈ c.exceptionTable.toList, False) (hZ : mZ za zv A s s.heap)
     (u : FS) (H : Heap) (locs : List Loc) (ls : Array Slot) (hl : lv_has ls 4 []) (hP : va_P D vwCl (wF cy ad hh aa pa u) H) (hD : va_D A (wF cy ad hh aa pa u)) (hS : va_S A s.heap H locs) (h1 : Ok (fX9_call_b45 u) K) :
    kWx p l e rmX9_call s m args below meth c H locs (va_Qi (fun r q => K (.inr r, q)) (fun q => kPost D A (wF cy ad hh aa pa q)) A) (vx_X (fun _ : FS => True) (fun E q t => K (.inl E, q) ∧ kPost D A (wF cy ad hh aa pa q) t) A) A 45 ls [] := by
  obtain ⟨hx, hb, hr, hml, hown, hts, hlocks, hK, hA⟩ := id E
  unfold fX9_call_b45 at h1
  exact kx_throw (names := ["java/lang/RuntimeException", "java/lang/Exception"]) (text := "what") (sa := za 2) hx hb hfl hml hown (by decide) (by decide) (hts _ (List.mem_of_getElem? (i := 3) rfl)) (hts _ (List.mem_of_getElem? (i := 4) rfl)) (k_site hZ 2 (by decide)) (vx_hat (fun w h => hts w (xaX9_call_75 w h)) xbRX9_75 (hZ.cast (by decide))) xgRX9_72_75 hZ hK hP hD hS hl.1 dX9_call_45 dX9_call_48 dX9_call_49 dX9_call_51 dX9_call_54 hex hlocks h1 (Nat.le_of_ble_eq_true rfl) (Nat.le_of_ble_eq_true rfl) (Nat.le_of_ble_eq_true rfl) (Nat.le_of_ble_eq_true rfl)
def fX9_call_b0 (x1 : Int32) (x2 : Int32) (u : FS) : Option ((String ⊕ Int32) × FS) :=
  (if x1 < 0 then fX9_call_b26 u else (if (sC (fN u) 12) ≤ x1 then fX9_call_b26 u else (if x1 < 20 then (if x2 < 0 then fX9_call_b45 u else (if x2 < 4 then bnd (fX9_at ((((((sC (fN u) 12) - 1) - x1) - (((sC (fN u) 12) - 1) - x1) / 20 * 20) * 4) + x2) 80 (sL (fN u))) (fun r74 => some (.inr r74, u)) else fX9_call_b45 u)) else fX9_call_b26 u)))
set_option maxHeartbeats 4000000 in
set_option maxRecDepth 100000 in
theorem tX9_call_b0 {p : Program} {l : Launch} {e : Env} {s : State} {m : MethodId} {args : Array Value} {below : List Frame} {meth : Method} {c : Code} {D : va_G} {cy : Nat → ClassId} {A : Nat → Prop} {ad : Nat → Nat} {hh : Nat → Nat} {aa : Nat → Nat → Nat} {pa : Nat → Nat} {za zv : Nat → Nat} (K : (String ⊕ Int32) × FS → Prop) (E : mE D cy RX9 cX9_call 4 (some .int) wsX9_call A p s m args meth c) (hfl : l.stackTraces = false) (hex : ∀ x ∈ c.exceptionTable.toList, False) (hZ : mZ za zv A s s.heap)
     (x1 : Int32) (x2 : Int32) (u : FS) (H : Heap) (locs : List Loc) (ls : Array Slot) (hl : lv_has ls 4 [(0, .ref (ad 0)), (1, .int x1), (2, .int x2)]) (hP : va_P D vwCl (wF cy ad hh aa pa u) H) (hD : va_D A (wF cy ad hh aa pa u)) (hS : va_S A s.heap H locs) (h1 : Ok (fX9_call_b0 x1 x2 u) K) :
    kWx p l e rmX9_call s m args below meth c H locs (va_Qi (fun r q => K (.inr r, q)) (fun q => kPost D A (wF cy ad hh aa pa q)) A) (vx_X (fun _ : FS => True) (fun E q t => K (.inl E, q) ∧ kPost D A (wF cy ad hh aa pa q) t) A) A 0 ls [] := by
  obtain ⟨hx, hb, hr, hml, hown, hts, hlocks, hK, hA⟩ := id E
  unfold fX9_call_b0 at h1
  refine lv_aload_n hx hb dX9_call_0 rfl (lv_at hl 0 rfl) ?_
  refine k_get (v := .ref (hh 0)) (C := RX9) (T := TX9) (N := 9) hx hb hts inX9_call_X9 hown hK hP 0 (wF_c0 _ _ _ _ _ _) rfl 0 (by decide) lkX9_call_10 (fFs_0 _ _ _ _) dX9_call_1 ?_
  refine k_get (v := .ref ((aa 0) 0)) (C := RX8) (T := TX8) (N := 13) hx hb hts inX9_call_X8 hown hK hP 5 (wF_c5 _ _ _ _ _ _) rfl 0 (by decide) lkX9_call_87 (sFs_0 _ _) dX9_call_4 ?_
  refine lv_bipush (v := 12) hx hb dX9_call_7 rfl ?_
  refine k_iald (k := 12) hx hb hK hP 6 (wF_c6 _ _ _ _ _ _) rfl rfl dX9_call_9 ?_
  refine lv_istore_n (lv' := [(3, .int (sC (fN u) 12)), (0, .ref (ad 0)), (1, .int x1), (2, .int x2)]) hx hb dX9_call_10 rfl hl (by decide) rfl (fun ls hl => ?_)
  refine lv_iload_n hx hb dX9_call_11 rfl (lv_at hl 2 rfl) ?_
  refine lv_if_lt (tgt := 26) hx hb dX9_call_12 (by decide) (fun c12 => ?_) (fun c12 => ?_)
  · replace h1 := Ok.pos c12 h1
    exact tX9_call_b26 K E hfl hex hZ u H locs ls (lv_sub hl [] rfl) hP hD hS h1
  · replace h1 := Ok.neg c12 h1
    refine lv_iload_n hx hb dX9_call_15 rfl (lv_at hl 2 rfl) ?_
    refine lv_iload_n hx hb dX9_call_16 rfl (lv_at hl 0 rfl) ?_
    refine lv_icmp_ge (tgt := 26) hx hb dX9_call_17 (by decide) (fun c17 => ?_) (fun c17 => ?_)
    · replace h1 := Ok.pos c17 h1
      exact tX9_call_b26 K E hfl hex hZ u H locs ls (lv_sub hl [] rfl) hP hD hS h1
    · replace h1 := Ok.neg c17 h1
      refine lv_iload_n hx hb dX9_call_20 rfl (lv_at hl 2 rfl) ?_
      refine lv_bipush (v := 20) hx hb dX9_call_21 rfl ?_
      refine lv_icmp_lt (tgt := 36) hx hb dX9_call_23 (by decide) (fun c23 => ?_) (fun c23 => ?_)
      · replace h1 := Ok.pos c23 h1
        refine lv_iload_n hx hb dX9_call_36 rfl (lv_at hl 3 rfl) ?_
        refine lv_if_lt (tgt := 45) hx hb dX9_call_37 (by decide) (fun c37 => ?_) (fun c37 => ?_)
        · replace h1 := Ok.pos c37 h1
          exact tX9_call_b45 K E hfl hex hZ u H locs ls (lv_sub hl [] rfl) hP hD hS h1
        · replace h1 := Ok.neg c37 h1
          refine lv_iload_n hx hb dX9_call_40 rfl (lv_at hl 3 rfl) ?_
          refine lv_iconst (v := 4) hx hb dX9_call_41 rfl ?_
          refine lv_icmp_lt (tgt := 55) hx hb dX9_call_42 (by decide) (fun c42 => ?_) (fun c42 => ?_)
          · replace h1 := Ok.pos c42 h1
            refine lv_aload_n hx hb dX9_call_55 rfl (lv_at hl 1 rfl) ?_
            refine k_get (v := .ref (hh 0)) (C := RX9) (T := TX9) (N := 9) hx hb hts inX9_call_X9 hown hK hP 0 (wF_c0 _ _ _ _ _ _) rfl 0 (by decide) lkX9_call_10 (fFs_0 _ _ _ _) dX9_call_56 ?_
            refine k_get (v := .ref ((aa 0) 9)) (C := RX8) (T := TX8) (N := 13) hx hb hts inX9_call_X8 hown hK hP 5 (wF_c5 _ _ _ _ _ _) rfl 9 (by decide) lkX9_call_159 (sFs_9 _ _) dX9_call_59 ?_
            refine lv_iload_n hx hb dX9_call_62 rfl (lv_at hl 0 rfl) ?_
            refine lv_iconst (v := 1) hx hb dX9_call_63 rfl ?_
            refine lv_isub hx hb dX9_call_64 ?_
            refine lv_iload_n hx hb dX9_call_65 rfl (lv_at hl 2 rfl) ?_
            refine lv_isub hx hb dX9_call_66 ?_
            refine lv_bipush (v := 20) hx hb dX9_call_67 rfl ?_
            refine lv_irem hx hb dX9_call_69 (by decide) ?_
            refine lv_iconst (v := 4) hx hb dX9_call_70 rfl ?_
            refine lv_imul hx hb dX9_call_71 ?_
            refine lv_iload_n hx hb dX9_call_72 rfl (lv_at hl 3 rfl) ?_
            refine lv_iadd hx hb dX9_call_73 ?_
            refine kc_rS (As := [.ref ((aa 0) 9), .int ((((((sC (fN u) 12) - 1) - x1) - (((sC (fN u) 12) - 1) - x1) / 20 * 20) * 4) + x2)]) (rest := []) h1 ⟨hx, hb, hml, hown, hts⟩ (cX9_atM l D cy ((aa 0) 9) H.size 80 (sL (fN u)) ((((((sC (fN u) 12) - 1) - x1) - (((sC (fN u) 12) - 1) - x1) / 20 * 20) * 4) + x2)) (va_cwS 2 hts gX9_call_X9_at rfl rfl rfl heX9_at ⟨Nat.le_of_ble_eq_true rfl, Nat.le_of_ble_eq_true rfl⟩) hK (k_pick (k := 15) (wF_c15 _ _ _ _ _ _)) hP hD hS hA rfl hl.1 rfl (Nat.le_of_ble_eq_true rfl) dX9_call_74 ⟨Nat.zero_le _, Nat.zero_le _⟩ (fun r74 H locs h1 hP hS => ?_)
            exact kret_x hx hb hr hlocks hP hD hS h1 dX9_call_77
          · replace h1 := Ok.neg c42 h1
            exact tX9_call_b45 K E hfl hex hZ u H locs ls (lv_sub hl [] rfl) hP hD hS h1
      · replace h1 := Ok.neg c23 h1
        exact tX9_call_b26 K E hfl hex hZ u H locs ls (lv_sub hl [] rfl) hP hD hS h1
def fX9_call (p1 : Int32) (p2 : Int32) (u : FS) : Option ((String ⊕ Int32) × FS) := fX9_call_b0 p1 p2 u
set_option maxHeartbeats 4000000 in
set_option maxRecDepth 100000 in
theorem cX9_callM (l : Launch) (hfl : l.stackTraces = false) (D : va_G) (cy : Nat → ClassId) (za zv : Nat → Nat) (ad : Nat → Nat) (hh : Nat → Nat) (aa : Nat → Nat → Nat) (pa : Nat → Nat) (sz : Nat) (u : FS) (p1 : Int32) (p2 : Int32) : ∀ (K : (String ⊕ Int32) × FS → Prop), Ok (fX9_call p1 p2 u) K → vx_Met l yX9_call wsX9_call rmX9_call (va_Pc [.ref (ad 0), .int p1, .int p2] (kPreZ D cy za zv sz (wF cy ad hh aa pa u))) (va_Qi (fun r q => K (.inr r, q)) (fun q => kPost D (va_A (wF cy ad hh aa pa u) sz) (wF cy ad hh aa pa q)) (va_A (wF cy ad hh aa pa u) sz)) (vx_X (fun _ : FS => True) (fun E q t => K (.inl E, q) ∧ kPost D (va_A (wF cy ad hh aa pa u) sz) (wF cy ad hh aa pa q) t) (va_A (wF cy ad hh aa pa u) sz)) 1 6 (va_A (wF cy ad hh aa pa u) sz) := by
  intro K h1
  refine vx_ofW (cc := cX9_call) (maxL := 4) (ret := (some .int)) (by decide) rfl ?_
  intro p e s m args below meth c s₁ B hml hex hv
  obtain ⟨rfl, ⟨hsz, hP, hK, hD0⟩, hZ⟩ := hv
  subst hsz
  have E : mE D cy RX9 cX9_call 4 (some .int) wsX9_call (va_A (wF cy ad hh aa pa u) s.heap.size) p s m _ meth c := ⟨B.exec, B.bytes, B.returns, hml, findClass_of_methodNamed B.named, atoms_spec (ws := wsX9_call) B.pre, B.notSynchronized, hK, fun q h => Or.inr h⟩
  have hl := lv_entry ([.ref (ad 0), .int p1, .int p2]) (n := 4) (Nat.le_of_ble_eq_true rfl)
  rw [lg_entry_eq]
  generalize (lg_sl ([.ref (ad 0), .int p1, .int p2]) ++ List.replicate (4 - (lg_sl ([.ref (ad 0), .int p1, .int p2])).length) Slot.unset).toArray = ls at hl ⊢
  exact tX9_call_b0 K E hfl hex hZ p1 p2 u _ _ _ hl hP hD0.self va_S.rf h1
-- X9_account
theorem xaX9_account_75 : ∀ w ∈ (vx_atS RX9 75 "java/lang/IllegalArgumentException" ["java/lang/RuntimeException", "java/lang/Exception"]).filter goodWord, w ∈ wsX9_account := fun w h => List.mem_cons_of_mem _ (List.mem_append_right _ h)
theorem inX9_account_X9 : ∀ w ∈ u_ws RX9 TX9 9, w ∈ wsX9_account := k_lays 4 rfl
theorem lkX9_account_41 : Cond.fieldLink RX9 41 "FerryRamp" "accounts" "[I" ∈ wsX9_account := List.mem_of_getElem? (i := 3) rfl
abbrev rmX9_account : Room := { frames := 6, cells := 1, slots := 6, locals := 90 }
def fX9_account_b13 (u : FS) : Option ((String ⊕ Int32) × FS) :=
  some (.inl "java/lang/IllegalArgumentException", u)
set_option maxHeartbeats 4000000 in
set_option maxRecDepth 100000 in
theorem tX9_account_b13 {p : Program} {l : Launch} {e : Env} {s : State} {m : MethodId} {args : Array Value} {below : List Frame} {meth : Method} {c : Code} {D : va_G} {cy : Nat → ClassId} {A : Nat → Prop} {ad : Nat → Nat} {hh : Nat → Nat} {aa : Nat → Nat → Nat} {pa : Nat → Nat} {za zv : Nat → Nat} (K : (String ⊕ Int32) × FS → Prop) (E : mE D cy RX9 cX9_account 2 (some .int) wsX9_account A p s m args meth c) (hfl : l.stackTraces = false) (hex : ∀ x ∈ c.exceptionTable.toList, False) (hZ : mZ za zv A s s.heap)
     (u : FS) (H : Heap) (locs : List Loc) (ls : Array Slot) (hl : lv_has ls 2 []) (hP : va_P D vwCl (wF cy ad hh aa pa u) H) (hD : va_D A (wF cy ad hh aa pa u)) (hS : va_S A s.heap H locs) (h1 : Ok (fX9_account_b13 u) K) :
    kWx p l e rmX9_account s m args below meth c H locs (va_Qi (fun r q => K (.inr r, q)) (fun q => kPost D A (wF cy ad hh aa pa q)) A) (vx_X (fun _ : FS => True) (fun E q t => K (.inl E, q) ∧ kPost D A (wF cy ad hh aa pa q) t) A) A 13 ls [] := by
  obtain ⟨hx, hb, hr, hml, hown, hts, hlocks, hK, hA⟩ := id E
  unfold fX9_account_b13 at h1
  exact kx_throw (names := ["java/lang/RuntimeException", "java/lang/Exception"]) (text := "what") (sa := za 2) hx hb hfl hml hown (by decide) (by decide) (hts _ (List.mem_of_getElem? (i := 1) rfl)) (hts _ (List.mem_of_getElem? (i := 2) rfl)) (k_site hZ 2 (by decide)) (vx_hat (fun w h => hts w (xaX9_account_75 w h)) xbRX9_75 (hZ.cast (by decide))) xgRX9_72_75 hZ hK hP hD hS hl.1 dX9_account_13 dX9_account_16 dX9_account_17 dX9_account_19 dX9_account_22 hex hlocks h1 (Nat.le_of_ble_eq_true rfl) (Nat.le_of_ble_eq_true rfl) (Nat.le_of_ble_eq_true rfl) (Nat.le_of_ble_eq_true rfl)
def fX9_account_b0 (x1 : Int32) (u : FS) : Option ((String ⊕ Int32) × FS) :=
  (if x1 < 0 then fX9_account_b13 u else (if x1 < 5 then grd (inb x1 5) (some (.inr (fO u (ix x1)), u)) else fX9_account_b13 u))
set_option maxHeartbeats 4000000 in
set_option maxRecDepth 100000 in
theorem tX9_account_b0 {p : Program} {l : Launch} {e : Env} {s : State} {m : MethodId} {args : Array Value} {below : List Frame} {meth : Method} {c : Code} {D : va_G} {cy : Nat → ClassId} {A : Nat → Prop} {ad : Nat → Nat} {hh : Nat → Nat} {aa : Nat → Nat → Nat} {pa : Nat → Nat} {za zv : Nat → Nat} (K : (String ⊕ Int32) × FS → Prop) (E : mE D cy RX9 cX9_account 2 (some .int) wsX9_account A p s m args meth c) (hfl : l.stackTraces = false) (hex : ∀ x ∈ c.exceptionTable.toList, False) (hZ : mZ za zv A s s.heap)
     (x1 : Int32) (u : FS) (H : Heap) (locs : List Loc) (ls : Array Slot) (hl : lv_has ls 2 [(0, .ref (ad 0)), (1, .int x1)]) (hP : va_P D vwCl (wF cy ad hh aa pa u) H) (hD : va_D A (wF cy ad hh aa pa u)) (hS : va_S A s.heap H locs) (h1 : Ok (fX9_account_b0 x1 u) K) :
    kWx p l e rmX9_account s m args below meth c H locs (va_Qi (fun r q => K (.inr r, q)) (fun q => kPost D A (wF cy ad hh aa pa q)) A) (vx_X (fun _ : FS => True) (fun E q t => K (.inl E, q) ∧ kPost D A (wF cy ad hh aa pa q) t) A) A 0 ls [] := by
  obtain ⟨hx, hb, hr, hml, hown, hts, hlocks, hK, hA⟩ := id E
  unfold fX9_account_b0 at h1
  refine lv_iload_n hx hb dX9_account_0 rfl (lv_at hl 1 rfl) ?_
  refine lv_if_lt (tgt := 13) hx hb dX9_account_1 (by decide) (fun c1 => ?_) (fun c1 => ?_)
  · replace h1 := Ok.pos c1 h1
    exact tX9_account_b13 K E hfl hex hZ u H locs ls (lv_sub hl [] rfl) hP hD hS h1
  · replace h1 := Ok.neg c1 h1
    refine lv_iload_n hx hb dX9_account_4 rfl (lv_at hl 1 rfl) ?_
    refine lv_aload_n hx hb dX9_account_5 rfl (lv_at hl 0 rfl) ?_
    refine k_get (v := .ref (ad 3)) (C := RX9) (T := TX9) (N := 9) hx hb hts inX9_account_X9 hown hK hP 0 (wF_c0 _ _ _ _ _ _) rfl 6 (by decide) lkX9_account_41 (fFs_6 _ _ _ _) dX9_account_6 ?_
    refine va_alen (v := 5) hx hb hK.1 hP 3 0 (wF_c3 _ _ _ _ _ _) rfl rfl dX9_account_9 ?_
    refine lv_icmp_lt (tgt := 23) hx hb dX9_account_10 (by decide) (fun c10 => ?_) (fun c10 => ?_)
    · replace h1 := Ok.pos c10 h1
      refine lv_aload_n hx hb dX9_account_23 rfl (lv_at hl 0 rfl) ?_
      refine k_get (v := .ref (ad 3)) (C := RX9) (T := TX9) (N := 9) hx hb hts inX9_account_X9 hown hK hP 0 (wF_c0 _ _ _ _ _ _) rfl 6 (by decide) lkX9_account_41 (fFs_6 _ _ _ _) dX9_account_24 ?_
      refine lv_iload_n hx hb dX9_account_27 rfl (lv_at hl 1 rfl) ?_
      have g28 := h1.grd1
      replace h1 := h1.grd2
      refine k_iald (k := (ix x1)) hx hb hK hP 3 (wF_c3 _ _ _ _ _ _) g28 rfl dX9_account_28 ?_
      exact kret_x hx hb hr hlocks hP hD hS h1 dX9_account_29
    · replace h1 := Ok.neg c10 h1
      exact tX9_account_b13 K E hfl hex hZ u H locs ls (lv_sub hl [] rfl) hP hD hS h1
def fX9_account (p1 : Int32) (u : FS) : Option ((String ⊕ Int32) × FS) := fX9_account_b0 p1 u
set_option maxHeartbeats 4000000 in
set_option maxRecDepth 100000 in
theorem cX9_accountM (l : Launch) (hfl : l.stackTraces = false) (D : va_G) (cy : Nat → ClassId) (za zv : Nat → Nat) (ad : Nat → Nat) (hh : Nat → Nat) (aa : Nat → Nat → Nat) (pa : Nat → Nat) (sz : Nat) (u : FS) (p1 : Int32) : ∀ (K : (String ⊕ Int32) × FS → Prop), Ok (fX9_account p1 u) K → vx_Met l yX9_account wsX9_account rmX9_account (va_Pc [.ref (ad 0), .int p1] (kPreZ D cy za zv sz (wF cy ad hh aa pa u))) (va_Qi (fun r q => K (.inr r, q)) (fun q => kPost D (va_A (wF cy ad hh aa pa u) sz) (wF cy ad hh aa pa q)) (va_A (wF cy ad hh aa pa u) sz)) (vx_X (fun _ : FS => True) (fun E q t => K (.inl E, q) ∧ kPost D (va_A (wF cy ad hh aa pa u) sz) (wF cy ad hh aa pa q) t) (va_A (wF cy ad hh aa pa u) sz)) 1 6 (va_A (wF cy ad hh aa pa u) sz) := by
  intro K h1
  refine vx_ofW (cc := cX9_account) (maxL := 2) (ret := (some .int)) (by decide) rfl ?_
  intro p e s m args below meth c s₁ B hml hex hv
  obtain ⟨rfl, ⟨hsz, hP, hK, hD0⟩, hZ⟩ := hv
  subst hsz
  have E : mE D cy RX9 cX9_account 2 (some .int) wsX9_account (va_A (wF cy ad hh aa pa u) s.heap.size) p s m _ meth c := ⟨B.exec, B.bytes, B.returns, hml, findClass_of_methodNamed B.named, atoms_spec (ws := wsX9_account) B.pre, B.notSynchronized, hK, fun q h => Or.inr h⟩
  have hl := lv_entry ([.ref (ad 0), .int p1]) (n := 2) (Nat.le_of_ble_eq_true rfl)
  rw [lg_entry_eq]
  generalize (lg_sl ([.ref (ad 0), .int p1]) ++ List.replicate (2 - (lg_sl ([.ref (ad 0), .int p1])).length) Slot.unset).toArray = ls at hl ⊢
  exact tX9_account_b0 K E hfl hex hZ p1 u _ _ _ hl hP hD0.self va_S.rf h1
