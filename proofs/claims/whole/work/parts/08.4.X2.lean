-- X9_tide
theorem inX9_tide_X9 : ∀ w ∈ u_ws RX9 TX9 9, w ∈ wsX9_tide := k_lays 10 rfl
theorem lkX9_tide_10 : Cond.fieldLink RX9 10 "FerryRamp" "now" "LFerryRamp$State;" ∈ wsX9_tide := List.mem_of_getElem? (i := 3) rfl
theorem xaX9_tide_75 : ∀ w ∈ (vx_atS RX9 75 "java/lang/IllegalArgumentException" ["java/lang/RuntimeException", "java/lang/Exception"]).filter goodWord, w ∈ wsX9_tide := fun w h => List.mem_cons_of_mem _ (List.mem_append_right _ h)
abbrev rmX9_tide : Room := { frames := 6, cells := 1, slots := 6, locals := 90 }
def fX9_tide_b0 (x1 : Int32) (u : FS) : Option ((String ⊕ Int32) × FS) :=
  (if 0 ≤ x1 then bnd (fX8_tideAt x1 (fN u)) (fun r19 => some (.inr r19, u)) else some (.inl "java/lang/IllegalArgumentException", u))
set_option maxHeartbeats 4000000 in
set_option maxRecDepth 100000 in
theorem tX9_tide_b0 {p : Program} {l : Launch} {e : Env} {s : State} {m : MethodId} {args : Array Value} {below : List Frame} {meth : Method} {c : Code} {D : va_G} {cy : Nat → ClassId} {A : Nat → Prop} {ad : Nat → Nat} {hh : Nat → Nat} {aa : Nat → Nat → Nat} {pa : Nat → Nat} {za zv : Nat → Nat} (K : (String ⊕ Int32) × FS → Prop) (E : mE D cy RX9 cX9_tide 2 (some .int) wsX9_tide A p s m args meth c) (hfl : l.stackTraces = false) (hex : ∀ x ∈ c.exceptionTable.toList, False) (hZ : mZ za zv A s s.heap)
     (x1 : Int32) (u : FS) (H : Heap) (locs : List Loc) (ls : Array Slot) (hl : lv_has ls 2 [(0, .ref (ad 0)), (1, .int x1)]) (hP : va_P D vwCl (wF cy ad hh aa pa u) H) (hD : va_D A (wF cy ad hh aa pa u)) (hS : va_S A s.heap H locs) (h1 : Ok (fX9_tide_b0 x1 u) K) :
    kWx p l e rmX9_tide s m args below meth c H locs (va_Qi (fun r q => K (.inr r, q)) (fun q => kPost D A (wF cy ad hh aa pa q)) A) (vx_X (fun _ : FS => True) (fun E q t => K (.inl E, q) ∧ kPost D A (wF cy ad hh aa pa q) t) A) A 0 ls [] := by
  obtain ⟨hx, hb, hr, hml, hown, hts, hlocks, hK, hA⟩ := id E
  unfold fX9_tide_b0 at h1
  refine lv_iload_n hx hb dX9_tide_0 rfl (lv_at hl 1 rfl) ?_
  refine lv_if_ge (tgt := 14) hx hb dX9_tide_1 (by decide) (fun c1 => ?_) (fun c1 => ?_)
  · replace h1 := Ok.pos c1 h1
    refine lv_aload_n hx hb dX9_tide_14 rfl (lv_at hl 0 rfl) ?_
    refine k_get (v := .ref (hh 0)) (C := RX9) (T := TX9) (N := 9) hx hb hts inX9_tide_X9 hown hK hP 0 (wF_c0 _ _ _ _ _ _) rfl 0 (by decide) lkX9_tide_10 (fFs_0 _ _ _ _) dX9_tide_15 ?_
    refine lv_iload_n hx hb dX9_tide_18 rfl (lv_at hl 1 rfl) ?_
    refine kc_rV (b := (hh 0)) (As := [.int x1]) (rest := []) h1 ⟨hx, hb, hml, hown, hts⟩ (cX8_tideAtM l D cy (hh 0) (aa 0) H.size (fN u) x1) (cwV 1 hts gX9_tide_X8_tideAt rfl rfl rfl hdX8_tideAt ⟨Nat.le_of_ble_eq_true rfl, Nat.le_of_ble_eq_true rfl⟩) hK (wF_sel1 _ _ _ _ _ _) hP hD hS hA (q0 := 0) rfl rfl rfl hl.1 rfl (Nat.le_of_ble_eq_true rfl) dX9_tide_19 ⟨Nat.zero_le _, Nat.zero_le _⟩ (fun r19 H locs h1 hP hS => ?_)
    exact kret_x hx hb hr hlocks hP hD hS h1 dX9_tide_22
  · replace h1 := Ok.neg c1 h1
    exact kx_throw (names := ["java/lang/RuntimeException", "java/lang/Exception"]) (text := "time") (sa := za 7) hx hb hfl hml hown (by decide) (by decide) (hts _ (List.mem_of_getElem? (i := 1) rfl)) (hts _ (List.mem_of_getElem? (i := 2) rfl)) (k_site hZ 7 (by decide)) (vx_hat (fun w h => hts w (xaX9_tide_75 w h)) xbRX9_75 (hZ.cast (by decide))) xgRX9_72_75 hZ hK hP hD hS hl.1 dX9_tide_4 dX9_tide_7 dX9_tide_8 dX9_tide_10 dX9_tide_13 hex hlocks h1 (Nat.le_of_ble_eq_true rfl) (Nat.le_of_ble_eq_true rfl) (Nat.le_of_ble_eq_true rfl) (Nat.le_of_ble_eq_true rfl)
def fX9_tide (p1 : Int32) (u : FS) : Option ((String ⊕ Int32) × FS) := fX9_tide_b0 p1 u
set_option maxHeartbeats 4000000 in
set_option maxRecDepth 100000 in
theorem cX9_tideM (l : Launch) (hfl : l.stackTraces = false) (D : va_G) (cy : Nat → ClassId) (za zv : Nat → Nat) (ad : Nat → Nat) (hh : Nat → Nat) (aa : Nat → Nat → Nat) (pa : Nat → Nat) (sz : Nat) (u : FS) (p1 : Int32) : ∀ (K : (String ⊕ Int32) × FS → Prop), Ok (fX9_tide p1 u) K → vx_Met l yX9_tide wsX9_tide rmX9_tide (va_Pc [.ref (ad 0), .int p1] (kPreZ D cy za zv sz (wF cy ad hh aa pa u))) (va_Qi (fun r q => K (.inr r, q)) (fun q => kPost D (va_A (wF cy ad hh aa pa u) sz) (wF cy ad hh aa pa q)) (va_A (wF cy ad hh aa pa u) sz)) (vx_X (fun _ : FS => True) (fun E q t => K (.inl E, q) ∧ kPost D (va_A (wF cy ad hh aa pa u) sz) (wF cy ad hh aa pa q) t) (va_A (wF cy ad hh aa pa u) sz)) 1 6 (va_A (wF cy ad hh aa pa u) sz) := by
  intro K h1
  refine vx_ofW (cc := cX9_tide) (maxL := 2) (ret := (some .int)) (by decide) rfl ?_
  intro p e s m args below meth c s₁ B hml hex hv
  obtain ⟨rfl, ⟨hsz, hP, hK, hD0⟩, hZ⟩ := hv
  subst hsz
  have E : mE D cy RX9 cX9_tide 2 (some .int) wsX9_tide (va_A (wF cy ad hh aa pa u) s.heap.size) p s m _ meth c := ⟨B.exec, B.bytes, B.returns, hml, findClass_of_methodNamed B.named, atoms_spec (ws := wsX9_tide) B.pre, B.notSynchronized, hK, fun q h => Or.inr h⟩
  have hl := lv_entry ([.ref (ad 0), .int p1]) (n := 2) (Nat.le_of_ble_eq_true rfl)
  rw [lg_entry_eq]
  generalize (lg_sl ([.ref (ad 0), .int p1]) ++ List.replicate (2 - (lg_sl ([.ref (ad 0), .int p1])).length) Slot.unset).toArray = ls at hl ⊢
  exact tX9_tide_b0 K E hfl hex hZ p1 u _ _ _ hl hP hD0.self va_S.rf h1
-- X9_deck
theorem inX9_deck_X9 : ∀ w ∈ u_ws RX9 TX9 9, w ∈ wsX9_deck := k_lays 15 rfl
theorem lkX9_deck_10 : Cond.fieldLink RX9 10 "FerryRamp" "now" "LFerryRamp$State;" ∈ wsX9_deck := List.mem_of_getElem? (i := 3) rfl
theorem xaX9_deck_75 : ∀ w ∈ (vx_atS RX9 75 "java/lang/IllegalArgumentException" ["java/lang/RuntimeException", "java/lang/Exception"]).filter goodWord, w ∈ wsX9_deck := fun w h => List.mem_cons_of_mem _ (List.mem_append_right _ h)
abbrev rmX9_deck : Room := { frames := 6, cells := 1, slots := 6, locals := 90 }
def fX9_deck_b0 (x1 : Int32) (u : FS) : Option ((String ⊕ Int32) × FS) :=
  (if 0 ≤ x1 then bnd (fX8_deckAt x1 (fN u)) (fun r19 => some (.inr r19, u)) else some (.inl "java/lang/IllegalArgumentException", u))
set_option maxHeartbeats 4000000 in
set_option maxRecDepth 100000 in
theorem tX9_deck_b0 {p : Program} {l : Launch} {e : Env} {s : State} {m : MethodId} {args : Array Value} {below : List Frame} {meth : Method} {c : Code} {D : va_G} {cy : Nat → ClassId} {A : Nat → Prop} {ad : Nat → Nat} {hh : Nat → Nat} {aa : Nat → Nat → Nat} {pa : Nat → Nat} {za zv : Nat → Nat} (K : (String ⊕ Int32) × FS → Prop) (E : mE D cy RX9 cX9_deck 2 (some .int) wsX9_deck A p s m args meth c) (hfl : l.stackTraces = false) (hex : ∀ x ∈ c.exceptionTable.toList, False) (hZ : mZ za zv A s s.heap)
     (x1 : Int32) (u : FS) (H : Heap) (locs : List Loc) (ls : Array Slot) (hl : lv_has ls 2 [(0, .ref (ad 0)), (1, .int x1)]) (hP : va_P D vwCl (wF cy ad hh aa pa u) H) (hD : va_D A (wF cy ad hh aa pa u)) (hS : va_S A s.heap H locs) (h1 : Ok (fX9_deck_b0 x1 u) K) :
    kWx p l e rmX9_deck s m args below meth c H locs (va_Qi (fun r q => K (.inr r, q)) (fun q => kPost D A (wF cy ad hh aa pa q)) A) (vx_X (fun _ : FS => True) (fun E q t => K (.inl E, q) ∧ kPost D A (wF cy ad hh aa pa q) t) A) A 0 ls [] := by
  obtain ⟨hx, hb, hr, hml, hown, hts, hlocks, hK, hA⟩ := id E
  unfold fX9_deck_b0 at h1
  refine lv_iload_n hx hb dX9_deck_0 rfl (lv_at hl 1 rfl) ?_
  refine lv_if_ge (tgt := 14) hx hb dX9_deck_1 (by decide) (fun c1 => ?_) (fun c1 => ?_)
  · replace h1 := Ok.pos c1 h1
    refine lv_aload_n hx hb dX9_deck_14 rfl (lv_at hl 0 rfl) ?_
    refine k_get (v := .ref (hh 0)) (C := RX9) (T := TX9) (N := 9) hx hb hts inX9_deck_X9 hown hK hP 0 (wF_c0 _ _ _ _ _ _) rfl 0 (by decide) lkX9_deck_10 (fFs_0 _ _ _ _) dX9_deck_15 ?_
    refine lv_iload_n hx hb dX9_deck_18 rfl (lv_at hl 1 rfl) ?_
    refine kc_rV (b := (hh 0)) (As := [.int x1]) (rest := []) h1 ⟨hx, hb, hml, hown, hts⟩ (cX8_deckAtM l D cy (hh 0) (aa 0) H.size (fN u) x1) (cwV 1 hts gX9_deck_X8_deckAt rfl rfl rfl hdX8_deckAt ⟨Nat.le_of_ble_eq_true rfl, Nat.le_of_ble_eq_true rfl⟩) hK (wF_sel1 _ _ _ _ _ _) hP hD hS hA (q0 := 0) rfl rfl rfl hl.1 rfl (Nat.le_of_ble_eq_true rfl) dX9_deck_19 ⟨Nat.zero_le _, Nat.zero_le _⟩ (fun r19 H locs h1 hP hS => ?_)
    exact kret_x hx hb hr hlocks hP hD hS h1 dX9_deck_22
  · replace h1 := Ok.neg c1 h1
    exact kx_throw (names := ["java/lang/RuntimeException", "java/lang/Exception"]) (text := "time") (sa := za 7) hx hb hfl hml hown (by decide) (by decide) (hts _ (List.mem_of_getElem? (i := 1) rfl)) (hts _ (List.mem_of_getElem? (i := 2) rfl)) (k_site hZ 7 (by decide)) (vx_hat (fun w h => hts w (xaX9_deck_75 w h)) xbRX9_75 (hZ.cast (by decide))) xgRX9_72_75 hZ hK hP hD hS hl.1 dX9_deck_4 dX9_deck_7 dX9_deck_8 dX9_deck_10 dX9_deck_13 hex hlocks h1 (Nat.le_of_ble_eq_true rfl) (Nat.le_of_ble_eq_true rfl) (Nat.le_of_ble_eq_true rfl) (Nat.le_of_ble_eq_true rfl)
def fX9_deck (p1 : Int32) (u : FS) : Option ((String ⊕ Int32) × FS) := fX9_deck_b0 p1 u
set_option maxHeartbeats 4000000 in
set_option maxRecDepth 100000 in
theorem cX9_deckM (l : Launch) (hfl : l.stackTraces = false) (D : va_G) (cy : Nat → ClassId) (za zv : Nat → Nat) (ad : Nat → Nat) (hh : Nat → Nat) (aa : Nat → Nat → Nat) (pa : Nat → Nat) (sz : Nat) (u : FS) (p1 : Int32) : ∀ (K : (String ⊕ Int32) × FS → Prop), Ok (fX9_deck p1 u) K → vx_Met l yX9_deck wsX9_deck rmX9_deck (va_Pc [.ref (ad 0), .int p1] (kPreZ D cy za zv sz (wF cy ad hh aa pa u))) (va_Qi (fun r q => K (.inr r, q)) (fun q => kPost D (va_A (wF cy ad hh aa pa u) sz) (wF cy ad hh aa pa q)) (va_A (wF cy ad hh aa pa u) sz)) (vx_X (fun _ : FS => True) (fun E q t => K (.inl E, q) ∧ kPost D (va_A (wF cy ad hh aa pa u) sz) (wF cy ad hh aa pa q) t) (va_A (wF cy ad hh aa pa u) sz)) 1 6 (va_A (wF cy ad hh aa pa u) sz) := by
  intro K h1
  refine vx_ofW (cc := cX9_deck) (maxL := 2) (ret := (some .int)) (by decide) rfl ?_
  intro p e s m args below meth c s₁ B hml hex hv
  obtain ⟨rfl, ⟨hsz, hP, hK, hD0⟩, hZ⟩ := hv
  subst hsz
  have E : mE D cy RX9 cX9_deck 2 (some .int) wsX9_deck (va_A (wF cy ad hh aa pa u) s.heap.size) p s m _ meth c := ⟨B.exec, B.bytes, B.returns, hml, findClass_of_methodNamed B.named, atoms_spec (ws := wsX9_deck) B.pre, B.notSynchronized, hK, fun q h => Or.inr h⟩
  have hl := lv_entry ([.ref (ad 0), .int p1]) (n := 2) (Nat.le_of_ble_eq_true rfl)
  rw [lg_entry_eq]
  generalize (lg_sl ([.ref (ad 0), .int p1]) ++ List.replicate (2 - (lg_sl ([.ref (ad 0), .int p1])).length) Slot.unset).toArray = ls at hl ⊢
  exact tX9_deck_b0 K E hfl hex hZ p1 u _ _ _ hl hP hD0.self va_S.rf h1
-- X9_whyNot
theorem inX9_whyNot_X9 : ∀ w ∈ u_ws RX9 TX9 9, w ∈ wsX9_whyNot := k_lays 38 rfl
theorem lkX9_whyNot_10 : Cond.fieldLink RX9 10 "FerryRamp" "now" "LFerryRamp$State;" ∈ wsX9_whyNot := List.mem_of_getElem? (i := 3) rfl
theorem xaX9_whyNot_123 : ∀ w ∈ (vx_atS RX9 123 "java/lang/IndexOutOfBoundsException" ["java/lang/RuntimeException", "java/lang/Exception"]).filter goodWord, w ∈ wsX9_whyNot := fun w h => List.mem_cons_of_mem _ (List.mem_append_right _ h)
abbrev rmX9_whyNot : Room := { frames := 6, cells := 1, slots := 6, locals := 90 }
def fX9_whyNot_b0 (x1 : Int32) (u : FS) : Option ((String ⊕ Int32) × FS) :=
  bnd (fX8_placeOf x1 (fN u)) (fun r5 => (if r5 = (-1) then some (.inl "java/lang/IndexOutOfBoundsException", u) else bnd (fX8_reasonFor x1 (fN u)) (fun r27 => some (.inr r27, u))))
set_option maxHeartbeats 4000000 in
set_option maxRecDepth 100000 in
theorem tX9_whyNot_b0 {p : Program} {l : Launch} {e : Env} {s : State} {m : MethodId} {args : Array Value} {below : List Frame} {meth : Method} {c : Code} {D : va_G} {cy : Nat → ClassId} {A : Nat → Prop} {ad : Nat → Nat} {hh : Nat → Nat} {aa : Nat → Nat → Nat} {pa : Nat → Nat} {za zv : Nat → Nat} (K : (String ⊕ Int32) × FS → Prop) (E : mE D cy RX9 cX9_whyNot 2 (some .int) wsX9_whyNot A p s m args meth c) (hfl : l.stackTraces = false) (hex : ∀ x ∈ c.exceptionTable.toList, False) (hZ : mZ za zv A s s.heap)
     (x1 : Int32) (u : FS) (H : Heap) (locs : List Loc) (ls : Array Slot) (hl : lv_has ls 2 [(0, .ref (ad 0)), (1, .int x1)]) (hP : va_P D vwCl (wF cy ad hh aa pa u) H) (hD : va_D A (wF cy ad hh aa pa u)) (hS : va_S A s.heap H locs) (h1 : Ok (fX9_whyNot_b0 x1 u) K) :
    kWx p l e rmX9_whyNot s m args below meth c H locs (va_Qi (fun r q => K (.inr r, q)) (fun q => kPost D A (wF cy ad hh aa pa q)) A) (vx_X (fun _ : FS => True) (fun E q t => K (.inl E, q) ∧ kPost D A (wF cy ad hh aa pa q) t) A) A 0 ls [] := by
  obtain ⟨hx, hb, hr, hml, hown, hts, hlocks, hK, hA⟩ := id E
  unfold fX9_whyNot_b0 at h1
  refine lv_aload_n hx hb dX9_whyNot_0 rfl (lv_at hl 0 rfl) ?_
  refine k_get (v := .ref (hh 0)) (C := RX9) (T := TX9) (N := 9) hx hb hts inX9_whyNot_X9 hown hK hP 0 (wF_c0 _ _ _ _ _ _) rfl 0 (by decide) lkX9_whyNot_10 (fFs_0 _ _ _ _) dX9_whyNot_1 ?_
  refine lv_iload_n hx hb dX9_whyNot_4 rfl (lv_at hl 1 rfl) ?_
  refine kc_rV (b := (hh 0)) (As := [.int x1]) (rest := []) h1 ⟨hx, hb, hml, hown, hts⟩ (cX8_placeOfM l D cy (hh 0) (aa 0) H.size (fN u) x1) (cwV 1 hts gX9_whyNot_X8_placeOf rfl rfl rfl hdX8_placeOf ⟨Nat.le_of_ble_eq_true rfl, Nat.le_of_ble_eq_true rfl⟩) hK (wF_sel1 _ _ _ _ _ _) hP hD hS hA (q0 := 0) rfl rfl rfl hl.1 rfl (Nat.le_of_ble_eq_true rfl) dX9_whyNot_5 ⟨Nat.zero_le _, Nat.zero_le _⟩ (fun r5 H locs h1 hP hS => ?_)
  refine lv_iconst (v := (-1)) hx hb dX9_whyNot_8 rfl ?_
  refine lv_icmp_ne (tgt := 22) hx hb dX9_whyNot_9 (by decide) (fun c9 => ?_) (fun c9 => ?_)
  · replace h1 := Ok.neg c9 h1
    refine lv_aload_n hx hb dX9_whyNot_22 rfl (lv_at hl 0 rfl) ?_
    refine k_get (v := .ref (hh 0)) (C := RX9) (T := TX9) (N := 9) hx hb hts inX9_whyNot_X9 hown hK hP 0 (wF_c0 _ _ _ _ _ _) rfl 0 (by decide) lkX9_whyNot_10 (fFs_0 _ _ _ _) dX9_whyNot_23 ?_
    refine lv_iload_n hx hb dX9_whyNot_26 rfl (lv_at hl 1 rfl) ?_
    refine kc_rV (b := (hh 0)) (As := [.int x1]) (rest := []) h1 ⟨hx, hb, hml, hown, hts⟩ (cX8_reasonForM l D cy (hh 0) (aa 0) H.size (fN u) x1) (cwV 1 hts gX9_whyNot_X8_reasonFor rfl rfl rfl hdX8_reasonFor ⟨Nat.le_of_ble_eq_true rfl, Nat.le_of_ble_eq_true rfl⟩) hK (wF_sel1 _ _ _ _ _ _) hP hD hS hA (q0 := 0) rfl rfl rfl hl.1 rfl (Nat.le_of_ble_eq_true rfl) dX9_whyNot_27 ⟨Nat.zero_le _, Nat.zero_le _⟩ (fun r27 H locs h1 hP hS => ?_)
    exact kret_x hx hb hr hlocks hP hD hS h1 dX9_whyNot_30
  · replace h1 := Ok.pos c9 h1
    exact kx_throw (names := ["java/lang/RuntimeException", "java/lang/Exception"]) (text := "car") (sa := za 4) hx hb hfl hml hown (by decide) (by decide) (hts _ (List.mem_of_getElem? (i := 1) rfl)) (hts _ (List.mem_of_getElem? (i := 2) rfl)) (k_site hZ 4 (by decide)) (vx_hat (fun w h => hts w (xaX9_whyNot_123 w h)) xbRX9_123 (hZ.cast (by decide))) xgRX9_119_123 hZ hK hP hD hS hl.1 dX9_whyNot_12 dX9_whyNot_15 dX9_whyNot_16 dX9_whyNot_18 dX9_whyNot_21 hex hlocks h1 (Nat.le_of_ble_eq_true rfl) (Nat.le_of_ble_eq_true rfl) (Nat.le_of_ble_eq_true rfl) (Nat.le_of_ble_eq_true rfl)
def fX9_whyNot (p1 : Int32) (u : FS) : Option ((String ⊕ Int32) × FS) := fX9_whyNot_b0 p1 u
set_option maxHeartbeats 4000000 in
set_option maxRecDepth 100000 in
theorem cX9_whyNotM (l : Launch) (hfl : l.stackTraces = false) (D : va_G) (cy : Nat → ClassId) (za zv : Nat → Nat) (ad : Nat → Nat) (hh : Nat → Nat) (aa : Nat → Nat → Nat) (pa : Nat → Nat) (sz : Nat) (u : FS) (p1 : Int32) : ∀ (K : (String ⊕ Int32) × FS → Prop), Ok (fX9_whyNot p1 u) K → vx_Met l yX9_whyNot wsX9_whyNot rmX9_whyNot (va_Pc [.ref (ad 0), .int p1] (kPreZ D cy za zv sz (wF cy ad hh aa pa u))) (va_Qi (fun r q => K (.inr r, q)) (fun q => kPost D (va_A (wF cy ad hh aa pa u) sz) (wF cy ad hh aa pa q)) (va_A (wF cy ad hh aa pa u) sz)) (vx_X (fun _ : FS => True) (fun E q t => K (.inl E, q) ∧ kPost D (va_A (wF cy ad hh aa pa u) sz) (wF cy ad hh aa pa q) t) (va_A (wF cy ad hh aa pa u) sz)) 1 6 (va_A (wF cy ad hh aa pa u) sz) := by
  intro K h1
  refine vx_ofW (cc := cX9_whyNot) (maxL := 2) (ret := (some .int)) (by decide) rfl ?_
  intro p e s m args below meth c s₁ B hml hex hv
  obtain ⟨rfl, ⟨hsz, hP, hK, hD0⟩, hZ⟩ := hv
  subst hsz
  have E : mE D cy RX9 cX9_whyNot 2 (some .int) wsX9_whyNot (va_A (wF cy ad hh aa pa u) s.heap.size) p s m _ meth c := ⟨B.exec, B.bytes, B.returns, hml, findClass_of_methodNamed B.named, atoms_spec (ws := wsX9_whyNot) B.pre, B.notSynchronized, hK, fun q h => Or.inr h⟩
  have hl := lv_entry ([.ref (ad 0), .int p1]) (n := 2) (Nat.le_of_ble_eq_true rfl)
  rw [lg_entry_eq]
  generalize (lg_sl ([.ref (ad 0), .int p1]) ++ List.replicate (2 - (lg_sl ([.ref (ad 0), .int p1])).length) Slot.unset).toArray = ls at hl ⊢
  exact tX9_whyNot_b0 K E hfl hex hZ p1 u _ _ _ hl hP hD0.self va_S.rf h1
-- X9_laneFor
theorem inX9_laneFor_X9 : ∀ w ∈ u_ws RX9 TX9 9, w ∈ wsX9_laneFor := k_lays 33 rfl
theorem lkX9_laneFor_10 : Cond.fieldLink RX9 10 "FerryRamp" "now" "LFerryRamp$State;" ∈ wsX9_laneFor := List.mem_of_getElem? (i := 3) rfl
theorem xaX9_laneFor_123 : ∀ w ∈ (vx_atS RX9 123 "java/lang/IndexOutOfBoundsException" ["java/lang/RuntimeException", "java/lang/Exception"]).filter goodWord, w ∈ wsX9_laneFor := fun w h => List.mem_cons_of_mem _ (List.mem_append_right _ h)
abbrev rmX9_laneFor : Room := { frames := 6, cells := 1, slots := 6, locals := 90 }
def fX9_laneFor_b0 (x1 : Int32) (u : FS) : Option ((String ⊕ Int32) × FS) :=
  bnd (fX8_placeOf x1 (fN u)) (fun r5 => (if r5 = (-1) then some (.inl "java/lang/IndexOutOfBoundsException", u) else bnd (fX8_carKindFact x1 2 (fN u)) (fun r32 => bnd (fX8_carFact x1 1 (fN u)) (fun r41 => bnd (fX8_suitingLane r32 r41 (fN u)) (fun r44 => some (.inr r44, u))))))
set_option maxHeartbeats 4000000 in
set_option maxRecDepth 100000 in
theorem tX9_laneFor_b0 {p : Program} {l : Launch} {e : Env} {s : State} {m : MethodId} {args : Array Value} {below : List Frame} {meth : Method} {c : Code} {D : va_G} {cy : Nat → ClassId} {A : Nat → Prop} {ad : Nat → Nat} {hh : Nat → Nat} {aa : Nat → Nat → Nat} {pa : Nat → Nat} {za zv : Nat → Nat} (K : (String ⊕ Int32) × FS → Prop) (E : mE D cy RX9 cX9_laneFor 2 (some .int) wsX9_laneFor A p s m args meth c) (hfl : l.stackTraces = false) (hex : ∀ x ∈ c.exceptionTable.toList, False) (hZ : mZ za zv A s s.heap)
     (x1 : Int32) (u : FS) (H : Heap) (locs : List Loc) (ls : Array Slot) (hl : lv_has ls 2 [(0, .ref (ad 0)), (1, .int x1)]) (hP : va_P D vwCl (wF cy ad hh aa pa u) H) (hD : va_D A (wF cy ad hh aa pa u)) (hS : va_S A s.heap H locs) (h1 : Ok (fX9_laneFor_b0 x1 u) K) :
    kWx p l e rmX9_laneFor s m args below meth c H locs (va_Qi (fun r q => K (.inr r, q)) (fun q => kPost D A (wF cy ad hh aa pa q)) A) (vx_X (fun _ : FS => True) (fun E q t => K (.inl E, q) ∧ kPost D A (wF cy ad hh aa pa q) t) A) A 0 ls [] := by
  obtain ⟨hx, hb, hr, hml, hown, hts, hlocks, hK, hA⟩ := id E
  unfold fX9_laneFor_b0 at h1
  refine lv_aload_n hx hb dX9_laneFor_0 rfl (lv_at hl 0 rfl) ?_
  refine k_get (v := .ref (hh 0)) (C := RX9) (T := TX9) (N := 9) hx hb hts inX9_laneFor_X9 hown hK hP 0 (wF_c0 _ _ _ _ _ _) rfl 0 (by decide) lkX9_laneFor_10 (fFs_0 _ _ _ _) dX9_laneFor_1 ?_
  refine lv_iload_n hx hb dX9_laneFor_4 rfl (lv_at hl 1 rfl) ?_
  refine kc_rV (b := (hh 0)) (As := [.int x1]) (rest := []) h1 ⟨hx, hb, hml, hown, hts⟩ (cX8_placeOfM l D cy (hh 0) (aa 0) H.size (fN u) x1) (cwV 1 hts gX9_laneFor_X8_placeOf rfl rfl rfl hdX8_placeOf ⟨Nat.le_of_ble_eq_true rfl, Nat.le_of_ble_eq_true rfl⟩) hK (wF_sel1 _ _ _ _ _ _) hP hD hS hA (q0 := 0) rfl rfl rfl hl.1 rfl (Nat.le_of_ble_eq_true rfl) dX9_laneFor_5 ⟨Nat.zero_le _, Nat.zero_le _⟩ (fun r5 H locs h1 hP hS => ?_)
  refine lv_iconst (v := (-1)) hx hb dX9_laneFor_8 rfl ?_
  refine lv_icmp_ne (tgt := 22) hx hb dX9_laneFor_9 (by decide) (fun c9 => ?_) (fun c9 => ?_)
  · replace h1 := Ok.neg c9 h1
    refine lv_aload_n hx hb dX9_laneFor_22 rfl (lv_at hl 0 rfl) ?_
    refine k_get (v := .ref (hh 0)) (C := RX9) (T := TX9) (N := 9) hx hb hts inX9_laneFor_X9 hown hK hP 0 (wF_c0 _ _ _ _ _ _) rfl 0 (by decide) lkX9_laneFor_10 (fFs_0 _ _ _ _) dX9_laneFor_23 ?_
    refine lv_aload_n hx hb dX9_laneFor_26 rfl (lv_at hl 0 rfl) ?_
    refine k_get (v := .ref (hh 0)) (C := RX9) (T := TX9) (N := 9) hx hb hts inX9_laneFor_X9 hown hK hP 0 (wF_c0 _ _ _ _ _ _) rfl 0 (by decide) lkX9_laneFor_10 (fFs_0 _ _ _ _) dX9_laneFor_27 ?_
    refine lv_iload_n hx hb dX9_laneFor_30 rfl (lv_at hl 1 rfl) ?_
    refine lv_iconst (v := 2) hx hb dX9_laneFor_31 rfl ?_
    refine kc_rV (b := (hh 0)) (As := [.int x1, .int 2]) (rest := [.ref (hh 0)]) h1 ⟨hx, hb, hml, hown, hts⟩ (cX8_carKindFactM l D cy (hh 0) (aa 0) H.size (fN u) x1 2) (cwV 2 hts gX9_laneFor_X8_carKindFact rfl rfl rfl hdX8_carKindFact ⟨Nat.le_of_ble_eq_true rfl, Nat.le_of_ble_eq_true rfl⟩) hK (wF_sel1 _ _ _ _ _ _) hP hD hS hA (q0 := 0) rfl rfl rfl hl.1 rfl (Nat.le_of_ble_eq_true rfl) dX9_laneFor_32 ⟨Nat.zero_le _, Nat.zero_le _⟩ (fun r32 H locs h1 hP hS => ?_)
    refine lv_aload_n hx hb dX9_laneFor_35 rfl (lv_at hl 0 rfl) ?_
    refine k_get (v := .ref (hh 0)) (C := RX9) (T := TX9) (N := 9) hx hb hts inX9_laneFor_X9 hown hK hP 0 (wF_c0 _ _ _ _ _ _) rfl 0 (by decide) lkX9_laneFor_10 (fFs_0 _ _ _ _) dX9_laneFor_36 ?_
    refine lv_iload_n hx hb dX9_laneFor_39 rfl (lv_at hl 1 rfl) ?_
    refine lv_iconst (v := 1) hx hb dX9_laneFor_40 rfl ?_
    refine kc_rV (b := (hh 0)) (As := [.int x1, .int 1]) (rest := [.int r32, .ref (hh 0)]) h1 ⟨hx, hb, hml, hown, hts⟩ (cX8_carFactM l D cy (hh 0) (aa 0) H.size (fN u) x1 1) (cwV 2 hts gX9_laneFor_X8_carFact rfl rfl rfl hdX8_carFact ⟨Nat.le_of_ble_eq_true rfl, Nat.le_of_ble_eq_true rfl⟩) hK (wF_sel1 _ _ _ _ _ _) hP hD hS hA (q0 := 0) rfl rfl rfl hl.1 rfl (Nat.le_of_ble_eq_true rfl) dX9_laneFor_41 ⟨Nat.zero_le _, Nat.zero_le _⟩ (fun r41 H locs h1 hP hS => ?_)
    refine kc_rV (b := (hh 0)) (As := [.int r32, .int r41]) (rest := []) h1 ⟨hx, hb, hml, hown, hts⟩ (cX8_suitingLaneM l D cy (hh 0) (aa 0) H.size (fN u) r32 r41) (cwV 2 hts gX9_laneFor_X8_suitingLane rfl rfl rfl hdX8_suitingLane ⟨Nat.le_of_ble_eq_true rfl, Nat.le_of_ble_eq_true rfl⟩) hK (wF_sel1 _ _ _ _ _ _) hP hD hS hA (q0 := 0) rfl rfl rfl hl.1 rfl (Nat.le_of_ble_eq_true rfl) dX9_laneFor_44 ⟨Nat.zero_le _, Nat.zero_le _⟩ (fun r44 H locs h1 hP hS => ?_)
    exact kret_x hx hb hr hlocks hP hD hS h1 dX9_laneFor_47
  · replace h1 := Ok.pos c9 h1
    exact kx_throw (names := ["java/lang/RuntimeException", "java/lang/Exception"]) (text := "car") (sa := za 4) hx hb hfl hml hown (by decide) (by decide) (hts _ (List.mem_of_getElem? (i := 1) rfl)) (hts _ (List.mem_of_getElem? (i := 2) rfl)) (k_site hZ 4 (by decide)) (vx_hat (fun w h => hts w (xaX9_laneFor_123 w h)) xbRX9_123 (hZ.cast (by decide))) xgRX9_119_123 hZ hK hP hD hS hl.1 dX9_laneFor_12 dX9_laneFor_15 dX9_laneFor_16 dX9_laneFor_18 dX9_laneFor_21 hex hlocks h1 (Nat.le_of_ble_eq_true rfl) (Nat.le_of_ble_eq_true rfl) (Nat.le_of_ble_eq_true rfl) (Nat.le_of_ble_eq_true rfl)
def fX9_laneFor (p1 : Int32) (u : FS) : Option ((String ⊕ Int32) × FS) := fX9_laneFor_b0 p1 u
set_option maxHeartbeats 4000000 in
set_option maxRecDepth 100000 in
theorem cX9_laneForM (l : Launch) (hfl : l.stackTraces = false) (D : va_G) (cy : Nat → ClassId) (za zv : Nat → Nat) (ad : Nat → Nat) (hh : Nat → Nat) (aa : Nat → Nat → Nat) (pa : Nat → Nat) (sz : Nat) (u : FS) (p1 : Int32) : ∀ (K : (String ⊕ Int32) × FS → Prop), Ok (fX9_laneFor p1 u) K → vx_Met l yX9_laneFor wsX9_laneFor rmX9_laneFor (va_Pc [.ref (ad 0), .int p1] (kPreZ D cy za zv sz (wF cy ad hh aa pa u))) (va_Qi (fun r q => K (.inr r, q)) (fun q => kPost D (va_A (wF cy ad hh aa pa u) sz) (wF cy ad hh aa pa q)) (va_A (wF cy ad hh aa pa u) sz)) (vx_X (fun _ : FS => True) (fun E q t => K (.inl E, q) ∧ kPost D (va_A (wF cy ad hh aa pa u) sz) (wF cy ad hh aa pa q) t) (va_A (wF cy ad hh aa pa u) sz)) 1 6 (va_A (wF cy ad hh aa pa u) sz) := by
  intro K h1
  refine vx_ofW (cc := cX9_laneFor) (maxL := 2) (ret := (some .int)) (by decide) rfl ?_
  intro p e s m args below meth c s₁ B hml hex hv
  obtain ⟨rfl, ⟨hsz, hP, hK, hD0⟩, hZ⟩ := hv
  subst hsz
  have E : mE D cy RX9 cX9_laneFor 2 (some .int) wsX9_laneFor (va_A (wF cy ad hh aa pa u) s.heap.size) p s m _ meth c := ⟨B.exec, B.bytes, B.returns, hml, findClass_of_methodNamed B.named, atoms_spec (ws := wsX9_laneFor) B.pre, B.notSynchronized, hK, fun q h => Or.inr h⟩
  have hl := lv_entry ([.ref (ad 0), .int p1]) (n := 2) (Nat.le_of_ble_eq_true rfl)
  rw [lg_entry_eq]
  generalize (lg_sl ([.ref (ad 0), .int p1]) ++ List.replicate (2 - (lg_sl ([.ref (ad 0), .int p1])).length) Slot.unset).toArray = ls at hl ⊢
  exact tX9_laneFor_b0 K E hfl hex hZ p1 u _ _ _ hl hP hD0.self va_S.rf h1
-- X9_boardIn
theorem xaX9_boardIn_75 : ∀ w ∈ (vx_atS RX9 75 "java/lang/IllegalArgumentException" ["java/lang/RuntimeException", "java/lang/Exception"]).filter goodWord, w ∈ wsX9_boardIn := fun w h => List.mem_cons_of_mem _ (List.mem_append_right _ h)
theorem inX9_boardIn_X9 : ∀ w ∈ u_ws RX9 TX9 9, w ∈ wsX9_boardIn := k_lays 116 rfl
theorem lkX9_boardIn_16 : Cond.fieldLink RX9 16 "FerryRamp" "trial" "LFerryRamp$State;" ∈ wsX9_boardIn := List.mem_of_getElem? (i := 3) rfl
theorem lkX9_boardIn_10 : Cond.fieldLink RX9 10 "FerryRamp" "now" "LFerryRamp$State;" ∈ wsX9_boardIn := List.mem_of_getElem? (i := 4) rfl
abbrev rmX9_boardIn : Room := { frames := 6, cells := 1, slots := 6, locals := 121 }
def fX9_boardIn_b12 (u : FS) : Option ((String ⊕ Int32) × FS) :=
  some (.inl "java/lang/IllegalArgumentException", u)
set_option maxHeartbeats 4000000 in
set_option maxRecDepth 100000 in
theorem tX9_boardIn_b12 {p : Program} {l : Launch} {e : Env} {s : State} {m : MethodId} {args : Array Value} {below : List Frame} {meth : Method} {c : Code} {D : va_G} {cy : Nat → ClassId} {A : Nat → Prop} {ad : Nat → Nat} {hh : Nat → Nat} {aa : Nat → Nat → Nat} {pa : Nat → Nat} {za zv : Nat → Nat} (K : (String ⊕ Int32) × FS → Prop) (E : mE D cy RX9 cX9_boardIn 2 (some .int) wsX9_boardIn A p s m args meth c) (hfl : l.stackTraces = false) (hex : ∀ x ∈ c.exceptionTable.toList, False) (hZ : mZ za zv A s s.heap)
     (u : FS) (H : Heap) (locs : List Loc) (ls : Array Slot) (hl : lv_has ls 2 []) (hP : va_P D vwCl (wF cy ad hh aa pa u) H) (hD : va_D A (wF cy ad hh aa pa u)) (hS : va_S A s.heap H locs) (h1 : Ok (fX9_boardIn_b12 u) K) :
    kWx p l e rmX9_boardIn s m args below meth c H locs (va_Qi (fun r q => K (.inr r, q)) (fun q => kPost D A (wF cy ad hh aa pa q)) A) (vx_X (fun _ : FS => True) (fun E q t => K (.inl E, q) ∧ kPost D A (wF cy ad hh aa pa q) t) A) A 12 ls [] := by
  obtain ⟨hx, hb, hr, hml, hown, hts, hlocks, hK, hA⟩ := id E
  unfold fX9_boardIn_b12 at h1
  exact kx_throw (names := ["java/lang/RuntimeException", "java/lang/Exception"]) (text := "ticks") (sa := za 8) hx hb hfl hml hown (by decide) (by decide) (hts _ (List.mem_of_getElem? (i := 1) rfl)) (hts _ (List.mem_of_getElem? (i := 2) rfl)) (k_site hZ 8 (by decide)) (vx_hat (fun w h => hts w (xaX9_boardIn_75 w h)) xbRX9_75 (hZ.cast (by decide))) xgRX9_72_75 hZ hK hP hD hS hl.1 dX9_boardIn_12 dX9_boardIn_15 dX9_boardIn_16 dX9_boardIn_18 dX9_boardIn_21 hex hlocks h1 (Nat.le_of_ble_eq_true rfl) (Nat.le_of_ble_eq_true rfl) (Nat.le_of_ble_eq_true rfl) (Nat.le_of_ble_eq_true rfl)
def fX9_boardIn_b0 (x1 : Int32) (u : FS) : Option ((String ⊕ Int32) × FS) :=
  (if x1 < 1 then fX9_boardIn_b12 u else (if x1 ≤ 200 then bnd (fX8_copyFrom (fT u) (fN u)) (fun u30 => bnd2 (fX8_passTicks x1 (fT (gT u u30))) (fun r38 u38 => some (.inr r38, gT (gT u u30) u38))) else fX9_boardIn_b12 u))
set_option maxHeartbeats 4000000 in
set_option maxRecDepth 100000 in
theorem tX9_boardIn_b0 {p : Program} {l : Launch} {e : Env} {s : State} {m : MethodId} {args : Array Value} {below : List Frame} {meth : Method} {c : Code} {D : va_G} {cy : Nat → ClassId} {A : Nat → Prop} {ad : Nat → Nat} {hh : Nat → Nat} {aa : Nat → Nat → Nat} {pa : Nat → Nat} {za zv : Nat → Nat} (K : (String ⊕ Int32) × FS → Prop) (E : mE D cy RX9 cX9_boardIn 2 (some .int) wsX9_boardIn A p s m args meth c) (hfl : l.stackTraces = false) (hex : ∀ x ∈ c.exceptionTable.toList, False) (hZ : mZ za zv A s s.heap)
     (x1 : Int32) (u : FS) (H : Heap) (locs : List Loc) (ls : Array Slot) (hl : lv_has ls 2 [(0, .ref (ad 0)), (1, .int x1)]) (hP : va_P D vwCl (wF cy ad hh aa pa u) H) (hD : va_D A (wF cy ad hh aa pa u)) (hS : va_S A s.heap H locs) (h1 : Ok (fX9_boardIn_b0 x1 u) K) :
    kWx p l e rmX9_boardIn s m args below meth c H locs (va_Qi (fun r q => K (.inr r, q)) (fun q => kPost D A (wF cy ad hh aa pa q)) A) (vx_X (fun _ : FS => True) (fun E q t => K (.inl E, q) ∧ kPost D A (wF cy ad hh aa pa q) t) A) A 0 ls [] := by
  obtain ⟨hx, hb, hr, hml, hown, hts, hlocks, hK, hA⟩ := id E
  unfold fX9_boardIn_b0 at h1
  refine lv_iload_n hx hb dX9_boardIn_0 rfl (lv_at hl 1 rfl) ?_
  refine lv_iconst (v := 1) hx hb dX9_boardIn_1 rfl ?_
  refine lv_icmp_lt (tgt := 12) hx hb dX9_boardIn_2 (by decide) (fun c2 => ?_) (fun c2 => ?_)
  · replace h1 := Ok.pos c2 h1
    exact tX9_boardIn_b12 K E hfl hex hZ u H locs ls (lv_sub hl [] rfl) hP hD hS h1
  · replace h1 := Ok.neg c2 h1
    refine lv_iload_n hx hb dX9_boardIn_5 rfl (lv_at hl 1 rfl) ?_
    refine lv_sipush (v := 200) hx hb dX9_boardIn_6 rfl ?_
    refine lv_icmp_le (tgt := 22) hx hb dX9_boardIn_9 (by decide) (fun c9 => ?_) (fun c9 => ?_)
    · replace h1 := Ok.pos c9 h1
      refine lv_aload_n hx hb dX9_boardIn_22 rfl (lv_at hl 0 rfl) ?_
      refine k_get (v := .ref (hh 1)) (C := RX9) (T := TX9) (N := 9) hx hb hts inX9_boardIn_X9 hown hK hP 0 (wF_c0 _ _ _ _ _ _) rfl 1 (by decide) lkX9_boardIn_16 (fFs_1 _ _ _ _) dX9_boardIn_23 ?_
      refine lv_aload_n hx hb dX9_boardIn_26 rfl (lv_at hl 0 rfl) ?_
      refine k_get (v := .ref (hh 0)) (C := RX9) (T := TX9) (N := 9) hx hb hts inX9_boardIn_X9 hown hK hP 0 (wF_c0 _ _ _ _ _ _) rfl 0 (by decide) lkX9_boardIn_10 (fFs_0 _ _ _ _) dX9_boardIn_27 ?_
      refine kc_vV (b := (hh 1)) (As := [.ref (hh 0)]) (rest := []) h1 ⟨hx, hb, hml, hown, hts⟩ (cX8_copyFromM l D cy (hh 1) (aa 1) (hh 0) (aa 0) H.size (fT u) (fN u)) (cwV 1 hts gX9_boardIn_X8_copyFrom rfl rfl rfl hdX8_copyFrom ⟨Nat.le_of_ble_eq_true rfl, Nat.le_of_ble_eq_true rfl⟩) hK (wF_sel2_1 _ _ _ _ _ _) hP hD hS hA (q0 := 0) rfl rfl rfl hl.1 rfl (Nat.le_of_ble_eq_true rfl) dX9_boardIn_30 ⟨Nat.zero_le _, Nat.zero_le _⟩ (fun u30 H locs h1 hP hD hS => ?_)
      replace hP := kP_perm (wF_uns2_1_0 cy ad hh aa pa u u30).symm hP
      replace hD := kD_perm (wF_uns2_1_0 cy ad hh aa pa u u30).symm hD
      refine lv_aload_n hx hb dX9_boardIn_33 rfl (lv_at hl 0 rfl) ?_
      refine k_get (v := .ref (hh 1)) (C := RX9) (T := TX9) (N := 9) hx hb hts inX9_boardIn_X9 hown hK hP 0 (wF_c0 _ _ _ _ _ _) rfl 1 (by decide) lkX9_boardIn_16 (fFs_1 _ _ _ _) dX9_boardIn_34 ?_
      refine lv_iload_n hx hb dX9_boardIn_37 rfl (lv_at hl 1 rfl) ?_
      refine kc_iV (b := (hh 1)) (As := [.int x1]) (rest := []) h1 ⟨hx, hb, hml, hown, hts⟩ (cX8_passTicksM l D cy (hh 1) (aa 1) H.size (fT (gT u u30)) x1) (cwV 1 hts gX9_boardIn_X8_passTicks rfl rfl rfl hdX8_passTicks ⟨Nat.le_of_ble_eq_true rfl, Nat.le_of_ble_eq_true rfl⟩) hK (wF_sel2 _ _ _ _ _ _) hP hD hS hA (q0 := 0) rfl rfl rfl hl.1 rfl (Nat.le_of_ble_eq_true rfl) dX9_boardIn_38 ⟨Nat.zero_le _, Nat.zero_le _⟩ (fun r38 u38 H locs h1 hP hD hS => ?_)
      replace hP := kP_perm (wF_uns2_0 cy ad hh aa pa (gT u u30) u38).symm hP
      replace hD := kD_perm (wF_uns2_0 cy ad hh aa pa (gT u u30) u38).symm hD
      exact kret_x hx hb hr hlocks hP hD hS h1 dX9_boardIn_41
    · replace h1 := Ok.neg c9 h1
      exact tX9_boardIn_b12 K E hfl hex hZ u H locs ls (lv_sub hl [] rfl) hP hD hS h1
def fX9_boardIn (p1 : Int32) (u : FS) : Option ((String ⊕ Int32) × FS) := fX9_boardIn_b0 p1 u
set_option maxHeartbeats 4000000 in
set_option maxRecDepth 100000 in
theorem cX9_boardInM (l : Launch) (hfl : l.stackTraces = false) (D : va_G) (cy : Nat → ClassId) (za zv : Nat → Nat) (ad : Nat → Nat) (hh : Nat → Nat) (aa : Nat → Nat → Nat) (pa : Nat → Nat) (sz : Nat) (u : FS) (p1 : Int32) : ∀ (K : (String ⊕ Int32) × FS → Prop), Ok (fX9_boardIn p1 u) K → vx_Met l yX9_boardIn wsX9_boardIn rmX9_boardIn (va_Pc [.ref (ad 0), .int p1] (kPreZ D cy za zv sz (wF cy ad hh aa pa u))) (va_Qi (fun r q => K (.inr r, q)) (fun q => kPost D (va_A (wF cy ad hh aa pa u) sz) (wF cy ad hh aa pa q)) (va_A (wF cy ad hh aa pa u) sz)) (vx_X (fun _ : FS => True) (fun E q t => K (.inl E, q) ∧ kPost D (va_A (wF cy ad hh aa pa u) sz) (wF cy ad hh aa pa q) t) (va_A (wF cy ad hh aa pa u) sz)) 1 6 (va_A (wF cy ad hh aa pa u) sz) := by
  intro K h1
  refine vx_ofW (cc := cX9_boardIn) (maxL := 2) (ret := (some .int)) (by decide) rfl ?_
  intro p e s m args below meth c s₁ B hml hex hv
  obtain ⟨rfl, ⟨hsz, hP, hK, hD0⟩, hZ⟩ := hv
  subst hsz
  have E : mE D cy RX9 cX9_boardIn 2 (some .int) wsX9_boardIn (va_A (wF cy ad hh aa pa u) s.heap.size) p s m _ meth c := ⟨B.exec, B.bytes, B.returns, hml, findClass_of_methodNamed B.named, atoms_spec (ws := wsX9_boardIn) B.pre, B.notSynchronized, hK, fun q h => Or.inr h⟩
  have hl := lv_entry ([.ref (ad 0), .int p1]) (n := 2) (Nat.le_of_ble_eq_true rfl)
  rw [lg_entry_eq]
  generalize (lg_sl ([.ref (ad 0), .int p1]) ++ List.replicate (2 - (lg_sl ([.ref (ad 0), .int p1])).length) Slot.unset).toArray = ls at hl ⊢
  exact tX9_boardIn_b0 K E hfl hex hZ p1 u _ _ _ hl hP hD0.self va_S.rf h1
-- X9_easyIn
theorem xaX9_easyIn_123 : ∀ w ∈ (vx_atS RX9 123 "java/lang/IndexOutOfBoundsException" ["java/lang/RuntimeException", "java/lang/Exception"]).filter goodWord, w ∈ wsX9_easyIn := fun w h => List.mem_cons_of_mem _ (List.mem_append_right _ h)
theorem inX9_easyIn_X9 : ∀ w ∈ u_ws RX9 TX9 9, w ∈ wsX9_easyIn := k_lays 119 rfl
theorem lkX9_easyIn_16 : Cond.fieldLink RX9 16 "FerryRamp" "trial" "LFerryRamp$State;" ∈ wsX9_easyIn := List.mem_of_getElem? (i := 3) rfl
theorem lkX9_easyIn_10 : Cond.fieldLink RX9 10 "FerryRamp" "now" "LFerryRamp$State;" ∈ wsX9_easyIn := List.mem_of_getElem? (i := 4) rfl
theorem inX9_easyIn_X8 : ∀ w ∈ u_ws RX8 TX8 13, w ∈ wsX9_easyIn := k_lays 128 rfl
theorem lkX9_easyIn_170 : Cond.fieldLink RX9 170 "FerryRamp$State" "slope" "I" ∈ wsX9_easyIn := List.mem_of_getElem? (i := 5) rfl
theorem lkX9_easyIn_173 : Cond.fieldLink RX9 173 "FerryRamp$State" "lip" "I" ∈ wsX9_easyIn := List.mem_of_getElem? (i := 6) rfl
abbrev rmX9_easyIn : Room := { frames := 6, cells := 1, slots := 6, locals := 121 }
def fX9_easyIn_b9 (u : FS) : Option ((String ⊕ Int32) × FS) :=
  some (.inl "java/lang/IndexOutOfBoundsException", u)
set_option maxHeartbeats 4000000 in
set_option maxRecDepth 100000 in
theorem tX9_easyIn_b9 {p : Program} {l : Launch} {e : Env} {s : State} {m : MethodId} {args : Array Value} {below : List Frame} {meth : Method} {c : Code} {D : va_G} {cy : Nat → ClassId} {A : Nat → Prop} {ad : Nat → Nat} {hh : Nat → Nat} {aa : Nat → Nat → Nat} {pa : Nat → Nat} {za zv : Nat → Nat} (K : (String ⊕ Int32) × FS → Prop) (E : mE D cy RX9 cX9_easyIn 3 (some .int) wsX9_easyIn A p s m args meth c) (hfl : l.stackTraces = false) (hex : ∀ x ∈ c.exceptionTable.toList, False) (hZ : mZ za zv A s s.heap)
     (u : FS) (H : Heap) (locs : List Loc) (ls : Array Slot) (hl : lv_has ls 3 []) (hP : va_P D vwCl (wF cy ad hh aa pa u) H) (hD : va_D A (wF cy ad hh aa pa u)) (hS : va_S A s.heap H locs) (h1 : Ok (fX9_easyIn_b9 u) K) :
    kWx p l e rmX9_easyIn s m args below meth c H locs (va_Qi (fun r q => K (.inr r, q)) (fun q => kPost D A (wF cy ad hh aa pa q)) A) (vx_X (fun _ : FS => True) (fun E q t => K (.inl E, q) ∧ kPost D A (wF cy ad hh aa pa q) t) A) A 9 ls [] := by
  obtain ⟨hx, hb, hr, hml, hown, hts, hlocks, hK, hA⟩ := id E
  unfold fX9_easyIn_b9 at h1
  exact kx_throw (names := ["java/lang/RuntimeException", "java/lang/Exception"]) (text := "kind") (sa := za 3) hx hb hfl hml hown (by decide) (by decide) (hts _ (List.mem_of_getElem? (i := 1) rfl)) (hts _ (List.mem_of_getElem? (i := 2) rfl)) (k_site hZ 3 (by decide)) (vx_hat (fun w h => hts w (xaX9_easyIn_123 w h)) xbRX9_123 (hZ.cast (by decide))) xgRX9_119_123 hZ hK hP hD hS hl.1 dX9_easyIn_9 dX9_easyIn_12 dX9_easyIn_13 dX9_easyIn_15 dX9_easyIn_18 hex hlocks h1 (Nat.le_of_ble_eq_true rfl) (Nat.le_of_ble_eq_true rfl) (Nat.le_of_ble_eq_true rfl) (Nat.le_of_ble_eq_true rfl)
def fX9_easyIn_b79 (k32 : Int32 × Int32 × FS → Option ((String ⊕ Int32) × FS)) (x1 : Int32) (x2 : Int32) (u : FS) : Option ((String ⊕ Int32) × FS) :=
  bnd2 (fX8_passTicks 1 (fT u)) (fun r84 u84 => k32 (x1, x2 + 1, gT u u84))
set_option maxHeartbeats 4000000 in
set_option maxRecDepth 100000 in
theorem tX9_easyIn_b79 {p : Program} {l : Launch} {e : Env} {s : State} {m : MethodId} {args : Array Value} {below : List Frame} {meth : Method} {c : Code} {D : va_G} {cy : Nat → ClassId} {A : Nat → Prop} {ad : Nat → Nat} {hh : Nat → Nat} {aa : Nat → Nat → Nat} {pa : Nat → Nat} {za zv : Nat → Nat} (K : (String ⊕ Int32) × FS → Prop) (E : mE D cy RX9 cX9_easyIn 3 (some .int) wsX9_easyIn A p s m args meth c) (hfl : l.stackTraces = false) (hex : ∀ x ∈ c.exceptionTable.toList, False) (hZ : mZ za zv A s s.heap)
    (k32 : Int32 × Int32 × FS → Option ((String ⊕ Int32) × FS)) (hk32 : ∀ (x1 : Int32) (x2 : Int32) (u : FS) (H : Heap) (locs : List Loc) (ls : Array Slot), lv_has ls 3 [(0, .ref (ad 0)), (1, .int x1), (2, .int x2)] → va_P D vwCl (wF cy ad hh aa pa u) H → va_D A (wF cy ad hh aa pa u) → va_S A s.heap H locs → Ok (k32 (x1, x2, u)) K → kWx p l e rmX9_easyIn s m args below meth c H locs (va_Qi (fun r q => K (.inr r, q)) (fun q => kPost D A (wF cy ad hh aa pa q)) A) (vx_X (fun _ : FS => True) (fun E q t => K (.inl E, q) ∧ kPost D A (wF cy ad hh aa pa q) t) A) A 32 ls [])
     (x1 : Int32) (x2 : Int32) (u : FS) (H : Heap) (locs : List Loc) (ls : Array Slot) (hl : lv_has ls 3 [(0, .ref (ad 0)), (1, .int x1), (2, .int x2)]) (hP : va_P D vwCl (wF cy ad hh aa pa u) H) (hD : va_D A (wF cy ad hh aa pa u)) (hS : va_S A s.heap H locs) (h1 : Ok (fX9_easyIn_b79 k32 x1 x2 u) K) :
    kWx p l e rmX9_easyIn s m args below meth c H locs (va_Qi (fun r q => K (.inr r, q)) (fun q => kPost D A (wF cy ad hh aa pa q)) A) (vx_X (fun _ : FS => True) (fun E q t => K (.inl E, q) ∧ kPost D A (wF cy ad hh aa pa q) t) A) A 79 ls [] := by
  obtain ⟨hx, hb, hr, hml, hown, hts, hlocks, hK, hA⟩ := id E
  unfold fX9_easyIn_b79 at h1
  refine lv_aload_n hx hb dX9_easyIn_79 rfl (lv_at hl 0 rfl) ?_
  refine k_get (v := .ref (hh 1)) (C := RX9) (T := TX9) (N := 9) hx hb hts inX9_easyIn_X9 hown hK hP 0 (wF_c0 _ _ _ _ _ _) rfl 1 (by decide) lkX9_easyIn_16 (fFs_1 _ _ _ _) dX9_easyIn_80 ?_
  refine lv_iconst (v := 1) hx hb dX9_easyIn_83 rfl ?_
  refine kc_iV (b := (hh 1)) (As := [.int 1]) (rest := []) h1 ⟨hx, hb, hml, hown, hts⟩ (cX8_passTicksM l D cy (hh 1) (aa 1) H.size (fT u) 1) (cwV 1 hts gX9_easyIn_X8_passTicks rfl rfl rfl hdX8_passTicks ⟨Nat.le_of_ble_eq_true rfl, Nat.le_of_ble_eq_true rfl⟩) hK (wF_sel2 _ _ _ _ _ _) hP hD hS hA (q0 := 0) rfl rfl rfl hl.1 rfl (Nat.le_of_ble_eq_true rfl) dX9_easyIn_84 ⟨Nat.zero_le _, Nat.zero_le _⟩ (fun r84 u84 H locs h1 hP hD hS => ?_)
  replace hP := kP_perm (wF_uns2_0 cy ad hh aa pa u u84).symm hP
  replace hD := kD_perm (wF_uns2_0 cy ad hh aa pa u u84).symm hD
  refine lv_pop hx hb dX9_easyIn_87 rfl ?_
  refine lv_iinc (v := x2 + 1) (lv' := [(2, .int (x2 + 1)), (0, .ref (ad 0)), (1, .int x1)]) hx hb dX9_easyIn_88 hl (k := 2) rfl rfl (by decide) rfl (fun ls hl => ?_)
  refine lv_goto (tgt := 32) hx hb dX9_easyIn_91 (by decide) ?_
  exact hk32 x1 (x2 + 1) (gT u u84) H locs ls (lv_sub hl [1, 2, 0] rfl) hP hD hS h1
def fX9_easyIn_b32 (k32 : Int32 × Int32 × FS → Option ((String ⊕ Int32) × FS)) (x1 : Int32) (x2 : Int32) (u : FS) : Option ((String ⊕ Int32) × FS) :=
  (if 200 < x2 then some (.inr (-1), u) else bnd (fX8_kindFact x1 0 (fT u)) (fun r52 => (if r52 < (sp (fT u)) then fX9_easyIn_b79 k32 x1 x2 u else bnd (fX8_kindFact x1 1 (fT u)) (fun r71 => (if r71 < (si (fT u)) then fX9_easyIn_b79 k32 x1 x2 u else some (.inr x2, u))))))
set_option maxHeartbeats 4000000 in
set_option maxRecDepth 100000 in
theorem tX9_easyIn_b32 {p : Program} {l : Launch} {e : Env} {s : State} {m : MethodId} {args : Array Value} {below : List Frame} {meth : Method} {c : Code} {D : va_G} {cy : Nat → ClassId} {A : Nat → Prop} {ad : Nat → Nat} {hh : Nat → Nat} {aa : Nat → Nat → Nat} {pa : Nat → Nat} {za zv : Nat → Nat} (K : (String ⊕ Int32) × FS → Prop) (E : mE D cy RX9 cX9_easyIn 3 (some .int) wsX9_easyIn A p s m args meth c) (hfl : l.stackTraces = false) (hex : ∀ x ∈ c.exceptionTable.toList, False) (hZ : mZ za zv A s s.heap)
    (k32 : Int32 × Int32 × FS → Option ((String ⊕ Int32) × FS)) (hk32 : ∀ (x1 : Int32) (x2 : Int32) (u : FS) (H : Heap) (locs : List Loc) (ls : Array Slot), lv_has ls 3 [(0, .ref (ad 0)), (1, .int x1), (2, .int x2)] → va_P D vwCl (wF cy ad hh aa pa u) H → va_D A (wF cy ad hh aa pa u) → va_S A s.heap H locs → Ok (k32 (x1, x2, u)) K → kWx p l e rmX9_easyIn s m args below meth c H locs (va_Qi (fun r q => K (.inr r, q)) (fun q => kPost D A (wF cy ad hh aa pa q)) A) (vx_X (fun _ : FS => True) (fun E q t => K (.inl E, q) ∧ kPost D A (wF cy ad hh aa pa q) t) A) A 32 ls [])
     (x1 : Int32) (x2 : Int32) (u : FS) (H : Heap) (locs : List Loc) (ls : Array Slot) (hl : lv_has ls 3 [(0, .ref (ad 0)), (1, .int x1), (2, .int x2)]) (hP : va_P D vwCl (wF cy ad hh aa pa u) H) (hD : va_D A (wF cy ad hh aa pa u)) (hS : va_S A s.heap H locs) (h1 : Ok (fX9_easyIn_b32 k32 x1 x2 u) K) :
    kWx p l e rmX9_easyIn s m args below meth c H locs (va_Qi (fun r q => K (.inr r, q)) (fun q => kPost D A (wF cy ad hh aa pa q)) A) (vx_X (fun _ : FS => True) (fun E q t => K (.inl E, q) ∧ kPost D A (wF cy ad hh aa pa q) t) A) A 32 ls [] := by
  obtain ⟨hx, hb, hr, hml, hown, hts, hlocks, hK, hA⟩ := id E
  unfold fX9_easyIn_b32 at h1
  refine lv_iload_n hx hb dX9_easyIn_32 rfl (lv_at hl 2 rfl) ?_
  refine lv_sipush (v := 200) hx hb dX9_easyIn_33 rfl ?_
  refine lv_icmp_gt (tgt := 94) hx hb dX9_easyIn_36 (by decide) (fun c36 => ?_) (fun c36 => ?_)
  · replace h1 := Ok.pos c36 h1
    refine lv_iconst (v := (-1)) hx hb dX9_easyIn_94 rfl ?_
    exact kret_x hx hb hr hlocks hP hD hS h1 dX9_easyIn_95
  · replace h1 := Ok.neg c36 h1
    refine lv_aload_n hx hb dX9_easyIn_39 rfl (lv_at hl 0 rfl) ?_
    refine k_get (v := .ref (hh 1)) (C := RX9) (T := TX9) (N := 9) hx hb hts inX9_easyIn_X9 hown hK hP 0 (wF_c0 _ _ _ _ _ _) rfl 1 (by decide) lkX9_easyIn_16 (fFs_1 _ _ _ _) dX9_easyIn_40 ?_
    refine k_get (v := .int (sp (fT u))) (C := RX8) (T := TX8) (N := 13) hx hb hts inX9_easyIn_X8 hown hK hP 16 (wF_c16 _ _ _ _ _ _) rfl 11 (by decide) lkX9_easyIn_170 (sFs_11 _ _) dX9_easyIn_43 ?_
    refine lv_aload_n hx hb dX9_easyIn_46 rfl (lv_at hl 0 rfl) ?_
    refine k_get (v := .ref (hh 1)) (C := RX9) (T := TX9) (N := 9) hx hb hts inX9_easyIn_X9 hown hK hP 0 (wF_c0 _ _ _ _ _ _) rfl 1 (by decide) lkX9_easyIn_16 (fFs_1 _ _ _ _) dX9_easyIn_47 ?_
    refine lv_iload_n hx hb dX9_easyIn_50 rfl (lv_at hl 1 rfl) ?_
    refine lv_iconst (v := 0) hx hb dX9_easyIn_51 rfl ?_
    refine kc_rV (b := (hh 1)) (As := [.int x1, .int 0]) (rest := [.int (sp (fT u))]) h1 ⟨hx, hb, hml, hown, hts⟩ (cX8_kindFactM l D cy (hh 1) (aa 1) H.size (fT u) x1 0) (cwV 2 hts gX9_easyIn_X8_kindFact rfl rfl rfl hdX8_kindFact ⟨Nat.le_of_ble_eq_true rfl, Nat.le_of_ble_eq_true rfl⟩) hK (wF_sel2 _ _ _ _ _ _) hP hD hS hA (q0 := 0) rfl rfl rfl hl.1 rfl (Nat.le_of_ble_eq_true rfl) dX9_easyIn_52 ⟨Nat.zero_le _, Nat.zero_le _⟩ (fun r52 H locs h1 hP hS => ?_)
    refine lv_icmp_gt (tgt := 79) hx hb dX9_easyIn_55 (by decide) (fun c55 => ?_) (fun c55 => ?_)
    · replace h1 := Ok.pos c55 h1
      exact tX9_easyIn_b79 K E hfl hex hZ k32 hk32 x1 x2 u H locs ls (lv_sub hl [0, 1, 2] rfl) hP hD hS h1
    · replace h1 := Ok.neg c55 h1
      refine lv_aload_n hx hb dX9_easyIn_58 rfl (lv_at hl 0 rfl) ?_
      refine k_get (v := .ref (hh 1)) (C := RX9) (T := TX9) (N := 9) hx hb hts inX9_easyIn_X9 hown hK hP 0 (wF_c0 _ _ _ _ _ _) rfl 1 (by decide) lkX9_easyIn_16 (fFs_1 _ _ _ _) dX9_easyIn_59 ?_
      refine k_get (v := .int (si (fT u))) (C := RX8) (T := TX8) (N := 13) hx hb hts inX9_easyIn_X8 hown hK hP 16 (wF_c16 _ _ _ _ _ _) rfl 12 (by decide) lkX9_easyIn_173 (sFs_12 _ _) dX9_easyIn_62 ?_
      refine lv_aload_n hx hb dX9_easyIn_65 rfl (lv_at hl 0 rfl) ?_
      refine k_get (v := .ref (hh 1)) (C := RX9) (T := TX9) (N := 9) hx hb hts inX9_easyIn_X9 hown hK hP 0 (wF_c0 _ _ _ _ _ _) rfl 1 (by decide) lkX9_easyIn_16 (fFs_1 _ _ _ _) dX9_easyIn_66 ?_
      refine lv_iload_n hx hb dX9_easyIn_69 rfl (lv_at hl 1 rfl) ?_
      refine lv_iconst (v := 1) hx hb dX9_easyIn_70 rfl ?_
      refine kc_rV (b := (hh 1)) (As := [.int x1, .int 1]) (rest := [.int (si (fT u))]) h1 ⟨hx, hb, hml, hown, hts⟩ (cX8_kindFactM l D cy (hh 1) (aa 1) H.size (fT u) x1 1) (cwV 2 hts gX9_easyIn_X8_kindFact rfl rfl rfl hdX8_kindFact ⟨Nat.le_of_ble_eq_true rfl, Nat.le_of_ble_eq_true rfl⟩) hK (wF_sel2 _ _ _ _ _ _) hP hD hS hA (q0 := 0) rfl rfl rfl hl.1 rfl (Nat.le_of_ble_eq_true rfl) dX9_easyIn_71 ⟨Nat.zero_le _, Nat.zero_le _⟩ (fun r71 H locs h1 hP hS => ?_)
      refine lv_icmp_gt (tgt := 79) hx hb dX9_easyIn_74 (by decide) (fun c74 => ?_) (fun c74 => ?_)
      · replace h1 := Ok.pos c74 h1
        exact tX9_easyIn_b79 K E hfl hex hZ k32 hk32 x1 x2 u H locs ls (lv_sub hl [0, 1, 2] rfl) hP hD hS h1
      · replace h1 := Ok.neg c74 h1
        refine lv_iload_n hx hb dX9_easyIn_77 rfl (lv_at hl 2 rfl) ?_
        exact kret_x hx hb hr hlocks hP hD hS h1 dX9_easyIn_78
theorem tX9_easyIn_l32 {p : Program} {l : Launch} {e : Env} {s : State} {m : MethodId} {args : Array Value} {below : List Frame} {meth : Method} {c : Code} {D : va_G} {cy : Nat → ClassId} {A : Nat → Prop} {ad : Nat → Nat} {hh : Nat → Nat} {aa : Nat → Nat → Nat} {pa : Nat → Nat} {za zv : Nat → Nat} (K : (String ⊕ Int32) × FS → Prop) (E : mE D cy RX9 cX9_easyIn 3 (some .int) wsX9_easyIn A p s m args meth c) (hfl : l.stackTraces = false) (hex : ∀ x ∈ c.exceptionTable.toList, False) (hZ : mZ za zv A s s.heap) : ∀ (n9 : Nat) (x1 : Int32) (x2 : Int32) (u : FS) (H : Heap) (locs : List Loc) (ls : Array Slot), lv_has ls 3 [(0, .ref (ad 0)), (1, .int x1), (2, .int x2)] → va_P D vwCl (wF cy ad hh aa pa u) H → va_D A (wF cy ad hh aa pa u) → va_S A s.heap H locs → Ok (lop (fun y z => fX9_easyIn_b32 y z.1 z.2.1 z.2.2) n9 (x1, x2, u)) K → kWx p l e rmX9_easyIn s m args below meth c H locs (va_Qi (fun r q => K (.inr r, q)) (fun q => kPost D A (wF cy ad hh aa pa q)) A) (vx_X (fun _ : FS => True) (fun E q t => K (.inl E, q) ∧ kPost D A (wF cy ad hh aa pa q) t) A) A 32 ls [] := by
  intro n9
  induction n9 with
  | zero =>
    intro x1 x2 u H locs ls hl hP hD hS h1
    exact h1.no
  | succ n9 ih =>
    intro x1 x2 u H locs ls hl hP hD hS h1
    exact tX9_easyIn_b32 K E hfl hex hZ (lop (fun y z => fX9_easyIn_b32 y z.1 z.2.1 z.2.2) n9) (fun x1 x2 u H locs ls hl hP hD hS h1 => ih x1 x2 u H locs ls hl hP hD hS h1) x1 x2 u H locs ls hl hP hD hS h1
def fX9_easyIn_b0 (x1 : Int32) (u : FS) : Option ((String ⊕ Int32) × FS) :=
  (if x1 < 0 then fX9_easyIn_b9 u else (if x1 < 4 then bnd (fX8_copyFrom (fT u) (fN u)) (fun u27 => lop (fun y z => fX9_easyIn_b32 y z.1 z.2.1 z.2.2) LF (x1, 0, gT u u27)) else fX9_easyIn_b9 u))
set_option maxHeartbeats 4000000 in
set_option maxRecDepth 100000 in
theorem tX9_easyIn_b0 {p : Program} {l : Launch} {e : Env} {s : State} {m : MethodId} {args : Array Value} {below : List Frame} {meth : Method} {c : Code} {D : va_G} {cy : Nat → ClassId} {A : Nat → Prop} {ad : Nat → Nat} {hh : Nat → Nat} {aa : Nat → Nat → Nat} {pa : Nat → Nat} {za zv : Nat → Nat} (K : (String ⊕ Int32) × FS → Prop) (E : mE D cy RX9 cX9_easyIn 3 (some .int) wsX9_easyIn A p s m args meth c) (hfl : l.stackTraces = false) (hex : ∀ x ∈ c.exceptionTable.toList, False) (hZ : mZ za zv A s s.heap)
     (x1 : Int32) (u : FS) (H : Heap) (locs : List Loc) (ls : Array Slot) (hl : lv_has ls 3 [(0, .ref (ad 0)), (1, .int x1)]) (hP : va_P D vwCl (wF cy ad hh aa pa u) H) (hD : va_D A (wF cy ad hh aa pa u)) (hS : va_S A s.heap H locs) (h1 : Ok (fX9_easyIn_b0 x1 u) K) :
    kWx p l e rmX9_easyIn s m args below meth c H locs (va_Qi (fun r q => K (.inr r, q)) (fun q => kPost D A (wF cy ad hh aa pa q)) A) (vx_X (fun _ : FS => True) (fun E q t => K (.inl E, q) ∧ kPost D A (wF cy ad hh aa pa q) t) A) A 0 ls [] := by
  obtain ⟨hx, hb, hr, hml, hown, hts, hlocks, hK, hA⟩ := id E
  unfold fX9_easyIn_b0 at h1
  refine lv_iload_n hx hb dX9_easyIn_0 rfl (lv_at hl 1 rfl) ?_
  refine lv_if_lt (tgt := 9) hx hb dX9_easyIn_1 (by decide) (fun c1 => ?_) (fun c1 => ?_)
  · replace h1 := Ok.pos c1 h1
    exact tX9_easyIn_b9 K E hfl hex hZ u H locs ls (lv_sub hl [] rfl) hP hD hS h1
  · replace h1 := Ok.neg c1 h1
    refine lv_iload_n hx hb dX9_easyIn_4 rfl (lv_at hl 1 rfl) ?_
    refine lv_iconst (v := 4) hx hb dX9_easyIn_5 rfl ?_
    refine lv_icmp_lt (tgt := 19) hx hb dX9_easyIn_6 (by decide) (fun c6 => ?_) (fun c6 => ?_)
    · replace h1 := Ok.pos c6 h1
      refine lv_aload_n hx hb dX9_easyIn_19 rfl (lv_at hl 0 rfl) ?_
      refine k_get (v := .ref (hh 1)) (C := RX9) (T := TX9) (N := 9) hx hb hts inX9_easyIn_X9 hown hK hP 0 (wF_c0 _ _ _ _ _ _) rfl 1 (by decide) lkX9_easyIn_16 (fFs_1 _ _ _ _) dX9_easyIn_20 ?_
      refine lv_aload_n hx hb dX9_easyIn_23 rfl (lv_at hl 0 rfl) ?_
      refine k_get (v := .ref (hh 0)) (C := RX9) (T := TX9) (N := 9) hx hb hts inX9_easyIn_X9 hown hK hP 0 (wF_c0 _ _ _ _ _ _) rfl 0 (by decide) lkX9_easyIn_10 (fFs_0 _ _ _ _) dX9_easyIn_24 ?_
      refine kc_vV (b := (hh 1)) (As := [.ref (hh 0)]) (rest := []) h1 ⟨hx, hb, hml, hown, hts⟩ (cX8_copyFromM l D cy (hh 1) (aa 1) (hh 0) (aa 0) H.size (fT u) (fN u)) (cwV 1 hts gX9_easyIn_X8_copyFrom rfl rfl rfl hdX8_copyFrom ⟨Nat.le_of_ble_eq_true rfl, Nat.le_of_ble_eq_true rfl⟩) hK (wF_sel2_1 _ _ _ _ _ _) hP hD hS hA (q0 := 0) rfl rfl rfl hl.1 rfl (Nat.le_of_ble_eq_true rfl) dX9_easyIn_27 ⟨Nat.zero_le _, Nat.zero_le _⟩ (fun u27 H locs h1 hP hD hS => ?_)
      replace hP := kP_perm (wF_uns2_1_0 cy ad hh aa pa u u27).symm hP
      replace hD := kD_perm (wF_uns2_1_0 cy ad hh aa pa u u27).symm hD
      refine lv_iconst (v := 0) hx hb dX9_easyIn_30 rfl ?_
      refine lv_istore_n (lv' := [(2, .int 0), (0, .ref (ad 0)), (1, .int x1)]) hx hb dX9_easyIn_31 rfl hl (by decide) rfl (fun ls hl => ?_)
      exact tX9_easyIn_l32 K E hfl hex hZ LF x1 0 (gT u u27) H locs ls (lv_sub hl [1, 2, 0] rfl) hP hD hS h1
    · replace h1 := Ok.neg c6 h1
      exact tX9_easyIn_b9 K E hfl hex hZ u H locs ls (lv_sub hl [] rfl) hP hD hS h1
def fX9_easyIn (p1 : Int32) (u : FS) : Option ((String ⊕ Int32) × FS) := fX9_easyIn_b0 p1 u
set_option maxHeartbeats 4000000 in
set_option maxRecDepth 100000 in
theorem cX9_easyInM (l : Launch) (hfl : l.stackTraces = false) (D : va_G) (cy : Nat → ClassId) (za zv : Nat → Nat) (ad : Nat → Nat) (hh : Nat → Nat) (aa : Nat → Nat → Nat) (pa : Nat → Nat) (sz : Nat) (u : FS) (p1 : Int32) : ∀ (K : (String ⊕ Int32) × FS → Prop), Ok (fX9_easyIn p1 u) K → vx_Met l yX9_easyIn wsX9_easyIn rmX9_easyIn (va_Pc [.ref (ad 0), .int p1] (kPreZ D cy za zv sz (wF cy ad hh aa pa u))) (va_Qi (fun r q => K (.inr r, q)) (fun q => kPost D (va_A (wF cy ad hh aa pa u) sz) (wF cy ad hh aa pa q)) (va_A (wF cy ad hh aa pa u) sz)) (vx_X (fun _ : FS => True) (fun E q t => K (.inl E, q) ∧ kPost D (va_A (wF cy ad hh aa pa u) sz) (wF cy ad hh aa pa q) t) (va_A (wF cy ad hh aa pa u) sz)) 1 6 (va_A (wF cy ad hh aa pa u) sz) := by
  intro K h1
  refine vx_ofW (cc := cX9_easyIn) (maxL := 3) (ret := (some .int)) (by decide) rfl ?_
  intro p e s m args below meth c s₁ B hml hex hv
  obtain ⟨rfl, ⟨hsz, hP, hK, hD0⟩, hZ⟩ := hv
  subst hsz
  have E : mE D cy RX9 cX9_easyIn 3 (some .int) wsX9_easyIn (va_A (wF cy ad hh aa pa u) s.heap.size) p s m _ meth c := ⟨B.exec, B.bytes, B.returns, hml, findClass_of_methodNamed B.named, atoms_spec (ws := wsX9_easyIn) B.pre, B.notSynchronized, hK, fun q h => Or.inr h⟩
  have hl := lv_entry ([.ref (ad 0), .int p1]) (n := 3) (Nat.le_of_ble_eq_true rfl)
  rw [lg_entry_eq]
  generalize (lg_sl ([.ref (ad 0), .int p1]) ++ List.replicate (3 - (lg_sl ([.ref (ad 0), .int p1])).length) Slot.unset).toArray = ls at hl ⊢
  exact tX9_easyIn_b0 K E hfl hex hZ p1 u _ _ _ hl hP hD0.self va_S.rf h1
-- X9_bestFirst
theorem xaX9_bestFirst_75 : ∀ w ∈ (vx_atS RX9 75 "java/lang/IllegalArgumentException" ["java/lang/RuntimeException", "java/lang/Exception"]).filter goodWord, w ∈ wsX9_bestFirst := fun w h => List.mem_cons_of_mem _ (List.mem_append_right _ h)
theorem inX9_bestFirst_X9 : ∀ w ∈ u_ws RX9 TX9 9, w ∈ wsX9_bestFirst := k_lays 123 rfl
theorem lkX9_bestFirst_10 : Cond.fieldLink RX9 10 "FerryRamp" "now" "LFerryRamp$State;" ∈ wsX9_bestFirst := List.mem_of_getElem? (i := 3) rfl
theorem inX9_bestFirst_X8 : ∀ w ∈ u_ws RX8 TX8 13, w ∈ wsX9_bestFirst := k_lays 132 rfl
theorem lkX9_bestFirst_87 : Cond.fieldLink RX9 87 "FerryRamp$State" "counts" "[I" ∈ wsX9_bestFirst := List.mem_of_getElem? (i := 4) rfl
theorem lkX9_bestFirst_16 : Cond.fieldLink RX9 16 "FerryRamp" "trial" "LFerryRamp$State;" ∈ wsX9_bestFirst := List.mem_of_getElem? (i := 5) rfl
theorem lkX9_bestFirst_137 : Cond.fieldLink RX9 137 "FerryRamp$State" "queue" "[I" ∈ wsX9_bestFirst := List.mem_of_getElem? (i := 6) rfl
abbrev rmX9_bestFirst : Room := { frames := 6, cells := 1, slots := 6, locals := 121 }
def fX9_bestFirst_b11 (u : FS) : Option ((String ⊕ Int32) × FS) :=
  some (.inl "java/lang/IllegalArgumentException", u)
set_option maxHeartbeats 4000000 in
set_option maxRecDepth 100000 in
theorem tX9_bestFirst_b11 {p : Program} {l : Launch} {e : Env} {s : State} {m : MethodId} {args : Array Value} {below : List Frame} {meth : Method} {c : Code} {D : va_G} {cy : Nat → ClassId} {A : Nat → Prop} {ad : Nat → Nat} {hh : Nat → Nat} {aa : Nat → Nat → Nat} {pa : Nat → Nat} {za zv : Nat → Nat} (K : (String ⊕ Int32) × FS → Prop) (E : mE D cy RX9 cX9_bestFirst 6 (some .int) wsX9_bestFirst A p s m args meth c) (hfl : l.stackTraces = false) (hex : ∀ x ∈ c.exceptionTable.toList, False) (hZ : mZ za zv A s s.heap)
     (u : FS) (H : Heap) (locs : List Loc) (ls : Array Slot) (hl : lv_has ls 6 []) (hP : va_P D vwCl (wF cy ad hh aa pa u) H) (hD : va_D A (wF cy ad hh aa pa u)) (hS : va_S A s.heap H locs) (h1 : Ok (fX9_bestFirst_b11 u) K) :
    kWx p l e rmX9_bestFirst s m args below meth c H locs (va_Qi (fun r q => K (.inr r, q)) (fun q => kPost D A (wF cy ad hh aa pa q)) A) (vx_X (fun _ : FS => True) (fun E q t => K (.inl E, q) ∧ kPost D A (wF cy ad hh aa pa q) t) A) A 11 ls [] := by
  obtain ⟨hx, hb, hr, hml, hown, hts, hlocks, hK, hA⟩ := id E
  unfold fX9_bestFirst_b11 at h1
  exact kx_throw (names := ["java/lang/RuntimeException", "java/lang/Exception"]) (text := "ticks") (sa := za 8) hx hb hfl hml hown (by decide) (by decide) (hts _ (List.mem_of_getElem? (i := 1) rfl)) (hts _ (List.mem_of_getElem? (i := 2) rfl)) (k_site hZ 8 (by decide)) (vx_hat (fun w h => hts w (xaX9_bestFirst_75 w h)) xbRX9_75 (hZ.cast (by decide))) xgRX9_72_75 hZ hK hP hD hS hl.1 dX9_bestFirst_11 dX9_bestFirst_14 dX9_bestFirst_15 dX9_bestFirst_17 dX9_bestFirst_20 hex hlocks h1 (Nat.le_of_ble_eq_true rfl) (Nat.le_of_ble_eq_true rfl) (Nat.le_of_ble_eq_true rfl) (Nat.le_of_ble_eq_true rfl)
def fX9_bestFirst_b94 (k28 : Int32 × Int32 × Int32 × Int32 × FS → Option ((String ⊕ Int32) × FS)) (x1 : Int32) (x2 : Int32) (x3 : Int32) (x4 : Int32) (u : FS) : Option ((String ⊕ Int32) × FS) :=
  k28 (x1, x2, x3, x4 + 1, u)
set_option maxHeartbeats 4000000 in
set_option maxRecDepth 100000 in
theorem tX9_bestFirst_b94 {p : Program} {l : Launch} {e : Env} {s : State} {m : MethodId} {args : Array Value} {below : List Frame} {meth : Method} {c : Code} {D : va_G} {cy : Nat → ClassId} {A : Nat → Prop} {ad : Nat → Nat} {hh : Nat → Nat} {aa : Nat → Nat → Nat} {pa : Nat → Nat} {za zv : Nat → Nat} (K : (String ⊕ Int32) × FS → Prop) (E : mE D cy RX9 cX9_bestFirst 6 (some .int) wsX9_bestFirst A p s m args meth c) (hfl : l.stackTraces = false) (hex : ∀ x ∈ c.exceptionTable.toList, False) (hZ : mZ za zv A s s.heap)
    (k28 : Int32 × Int32 × Int32 × Int32 × FS → Option ((String ⊕ Int32) × FS)) (hk28 : ∀ (x1 : Int32) (x2 : Int32) (x3 : Int32) (x4 : Int32) (u : FS) (H : Heap) (locs : List Loc) (ls : Array Slot), lv_has ls 6 [(0, .ref (ad 0)), (1, .int x1), (2, .int x2), (3, .int x3), (4, .int x4)] → va_P D vwCl (wF cy ad hh aa pa u) H → va_D A (wF cy ad hh aa pa u) → va_S A s.heap H locs → Ok (k28 (x1, x2, x3, x4, u)) K → kWx p l e rmX9_bestFirst s m args below meth c H locs (va_Qi (fun r q => K (.inr r, q)) (fun q => kPost D A (wF cy ad hh aa pa q)) A) (vx_X (fun _ : FS => True) (fun E q t => K (.inl E, q) ∧ kPost D A (wF cy ad hh aa pa q) t) A) A 28 ls [])
     (x1 : Int32) (x2 : Int32) (x3 : Int32) (x4 : Int32) (u : FS) (H : Heap) (locs : List Loc) (ls : Array Slot) (hl : lv_has ls 6 [(0, .ref (ad 0)), (1, .int x1), (2, .int x2), (3, .int x3), (4, .int x4)]) (hP : va_P D vwCl (wF cy ad hh aa pa u) H) (hD : va_D A (wF cy ad hh aa pa u)) (hS : va_S A s.heap H locs) (h1 : Ok (fX9_bestFirst_b94 k28 x1 x2 x3 x4 u) K) :
    kWx p l e rmX9_bestFirst s m args below meth c H locs (va_Qi (fun r q => K (.inr r, q)) (fun q => kPost D A (wF cy ad hh aa pa q)) A) (vx_X (fun _ : FS => True) (fun E q t => K (.inl E, q) ∧ kPost D A (wF cy ad hh aa pa q) t) A) A 94 ls [] := by
  obtain ⟨hx, hb, hr, hml, hown, hts, hlocks, hK, hA⟩ := id E
  unfold fX9_bestFirst_b94 at h1
  refine lv_iinc (v := x4 + 1) (lv' := [(4, .int (x4 + 1)), (0, .ref (ad 0)), (1, .int x1), (2, .int x2), (3, .int x3)]) hx hb dX9_bestFirst_94 hl (k := 4) rfl rfl (by decide) rfl (fun ls hl => ?_)
  refine lv_goto (tgt := 28) hx hb dX9_bestFirst_97 (by decide) ?_
  exact hk28 x1 x2 x3 (x4 + 1) u H locs ls (lv_sub hl [1, 2, 3, 4, 0] rfl) hP hD hS h1
def fX9_bestFirst_b28 (k28 : Int32 × Int32 × Int32 × Int32 × FS → Option ((String ⊕ Int32) × FS)) (x1 : Int32) (x2 : Int32) (x3 : Int32) (x4 : Int32) (u : FS) : Option ((String ⊕ Int32) × FS) :=
  (if (sC (fN u) 1) ≤ x4 then some (.inr x2, u) else bnd (fX8_copyFrom (fT u) (fN u)) (fun u50 => bnd (fX8_bringToFront x4 (fT (gT u u50))) (fun u59 => bnd2 (fX8_passTicks x1 (fT (gT (gT u u50) u59))) (fun r67 u67 => (if r67 ≤ x3 then fX9_bestFirst_b94 k28 x1 x2 x3 x4 (gT (gT (gT u u50) u59) u67) else bnd (fX9_at x4 20 (sQ (fN (gT (gT (gT u u50) u59) u67)))) (fun r87 => fX9_bestFirst_b94 k28 x1 r87 r67 x4 (gT (gT (gT u u50) u59) u67)))))))
set_option maxHeartbeats 4000000 in
set_option maxRecDepth 100000 in
theorem tX9_bestFirst_b28 {p : Program} {l : Launch} {e : Env} {s : State} {m : MethodId} {args : Array Value} {below : List Frame} {meth : Method} {c : Code} {D : va_G} {cy : Nat → ClassId} {A : Nat → Prop} {ad : Nat → Nat} {hh : Nat → Nat} {aa : Nat → Nat → Nat} {pa : Nat → Nat} {za zv : Nat → Nat} (K : (String ⊕ Int32) × FS → Prop) (E : mE D cy RX9 cX9_bestFirst 6 (some .int) wsX9_bestFirst A p s m args meth c) (hfl : l.stackTraces = false) (hex : ∀ x ∈ c.exceptionTable.toList, False) (hZ : mZ za zv A s s.heap)
    (k28 : Int32 × Int32 × Int32 × Int32 × FS → Option ((String ⊕ Int32) × FS)) (hk28 : ∀ (x1 : Int32) (x2 : Int32) (x3 : Int32) (x4 : Int32) (u : FS) (H : Heap) (locs : List Loc) (ls : Array Slot), lv_has ls 6 [(0, .ref (ad 0)), (1, .int x1), (2, .int x2), (3, .int x3), (4, .int x4)] → va_P D vwCl (wF cy ad hh aa pa u) H → va_D A (wF cy ad hh aa pa u) → va_S A s.heap H locs → Ok (k28 (x1, x2, x3, x4, u)) K → kWx p l e rmX9_bestFirst s m args below meth c H locs (va_Qi (fun r q => K (.inr r, q)) (fun q => kPost D A (wF cy ad hh aa pa q)) A) (vx_X (fun _ : FS => True) (fun E q t => K (.inl E, q) ∧ kPost D A (wF cy ad hh aa pa q) t) A) A 28 ls [])
     (x1 : Int32) (x2 : Int32) (x3 : Int32) (x4 : Int32) (u : FS) (H : Heap) (locs : List Loc) (ls : Array Slot) (hl : lv_has ls 6 [(0, .ref (ad 0)), (1, .int x1), (2, .int x2), (3, .int x3), (4, .int x4)]) (hP : va_P D vwCl (wF cy ad hh aa pa u) H) (hD : va_D A (wF cy ad hh aa pa u)) (hS : va_S A s.heap H locs) (h1 : Ok (fX9_bestFirst_b28 k28 x1 x2 x3 x4 u) K) :
    kWx p l e rmX9_bestFirst s m args below meth c H locs (va_Qi (fun r q => K (.inr r, q)) (fun q => kPost D A (wF cy ad hh aa pa q)) A) (vx_X (fun _ : FS => True) (fun E q t => K (.inl E, q) ∧ kPost D A (wF cy ad hh aa pa q) t) A) A 28 ls [] := by
  obtain ⟨hx, hb, hr, hml, hown, hts, hlocks, hK, hA⟩ := id E
  unfold fX9_bestFirst_b28 at h1
  refine lv_iload hx hb dX9_bestFirst_28 (lv_at hl 4 rfl) ?_
  refine lv_aload_n hx hb dX9_bestFirst_30 rfl (lv_at hl 0 rfl) ?_
  refine k_get (v := .ref (hh 0)) (C := RX9) (T := TX9) (N := 9) hx hb hts inX9_bestFirst_X9 hown hK hP 0 (wF_c0 _ _ _ _ _ _) rfl 0 (by decide) lkX9_bestFirst_10 (fFs_0 _ _ _ _) dX9_bestFirst_31 ?_
  refine k_get (v := .ref ((aa 0) 0)) (C := RX8) (T := TX8) (N := 13) hx hb hts inX9_bestFirst_X8 hown hK hP 5 (wF_c5 _ _ _ _ _ _) rfl 0 (by decide) lkX9_bestFirst_87 (sFs_0 _ _) dX9_bestFirst_34 ?_
  refine lv_iconst (v := 1) hx hb dX9_bestFirst_37 rfl ?_
  refine k_iald (k := 1) hx hb hK hP 6 (wF_c6 _ _ _ _ _ _) rfl rfl dX9_bestFirst_38 ?_
  refine lv_icmp_ge (tgt := 100) hx hb dX9_bestFirst_39 (by decide) (fun c39 => ?_) (fun c39 => ?_)
  · replace h1 := Ok.pos c39 h1
    refine lv_iload_n hx hb dX9_bestFirst_100 rfl (lv_at hl 2 rfl) ?_
    exact kret_x hx hb hr hlocks hP hD hS h1 dX9_bestFirst_101
  · replace h1 := Ok.neg c39 h1
    refine lv_aload_n hx hb dX9_bestFirst_42 rfl (lv_at hl 0 rfl) ?_
    refine k_get (v := .ref (hh 1)) (C := RX9) (T := TX9) (N := 9) hx hb hts inX9_bestFirst_X9 hown hK hP 0 (wF_c0 _ _ _ _ _ _) rfl 1 (by decide) lkX9_bestFirst_16 (fFs_1 _ _ _ _) dX9_bestFirst_43 ?_
    refine lv_aload_n hx hb dX9_bestFirst_46 rfl (lv_at hl 0 rfl) ?_
    refine k_get (v := .ref (hh 0)) (C := RX9) (T := TX9) (N := 9) hx hb hts inX9_bestFirst_X9 hown hK hP 0 (wF_c0 _ _ _ _ _ _) rfl 0 (by decide) lkX9_bestFirst_10 (fFs_0 _ _ _ _) dX9_bestFirst_47 ?_
    refine kc_vV (b := (hh 1)) (As := [.ref (hh 0)]) (rest := []) h1 ⟨hx, hb, hml, hown, hts⟩ (cX8_copyFromM l D cy (hh 1) (aa 1) (hh 0) (aa 0) H.size (fT u) (fN u)) (cwV 1 hts gX9_bestFirst_X8_copyFrom rfl rfl rfl hdX8_copyFrom ⟨Nat.le_of_ble_eq_true rfl, Nat.le_of_ble_eq_true rfl⟩) hK (wF_sel2_1 _ _ _ _ _ _) hP hD hS hA (q0 := 0) rfl rfl rfl hl.1 rfl (Nat.le_of_ble_eq_true rfl) dX9_bestFirst_50 ⟨Nat.zero_le _, Nat.zero_le _⟩ (fun u50 H locs h1 hP hD hS => ?_)
    replace hP := kP_perm (wF_uns2_1_0 cy ad hh aa pa u u50).symm hP
    replace hD := kD_perm (wF_uns2_1_0 cy ad hh aa pa u u50).symm hD
    refine lv_aload_n hx hb dX9_bestFirst_53 rfl (lv_at hl 0 rfl) ?_
    refine k_get (v := .ref (hh 1)) (C := RX9) (T := TX9) (N := 9) hx hb hts inX9_bestFirst_X9 hown hK hP 0 (wF_c0 _ _ _ _ _ _) rfl 1 (by decide) lkX9_bestFirst_16 (fFs_1 _ _ _ _) dX9_bestFirst_54 ?_
    refine lv_iload hx hb dX9_bestFirst_57 (lv_at hl 4 rfl) ?_
    refine kc_vV (b := (hh 1)) (As := [.int x4]) (rest := []) h1 ⟨hx, hb, hml, hown, hts⟩ (cX8_bringToFrontM l D cy (hh 1) (aa 1) H.size (fT (gT u u50)) x4) (cwV 1 hts gX9_bestFirst_X8_bringToFront rfl rfl rfl hdX8_bringToFront ⟨Nat.le_of_ble_eq_true rfl, Nat.le_of_ble_eq_true rfl⟩) hK (wF_sel2 _ _ _ _ _ _) hP hD hS hA (q0 := 0) rfl rfl rfl hl.1 rfl (Nat.le_of_ble_eq_true rfl) dX9_bestFirst_59 ⟨Nat.zero_le _, Nat.zero_le _⟩ (fun u59 H locs h1 hP hD hS => ?_)
    replace hP := kP_perm (wF_uns2_0 cy ad hh aa pa (gT u u50) u59).symm hP
    replace hD := kD_perm (wF_uns2_0 cy ad hh aa pa (gT u u50) u59).symm hD
    refine lv_aload_n hx hb dX9_bestFirst_62 rfl (lv_at hl 0 rfl) ?_
    refine k_get (v := .ref (hh 1)) (C := RX9) (T := TX9) (N := 9) hx hb hts inX9_bestFirst_X9 hown hK hP 0 (wF_c0 _ _ _ _ _ _) rfl 1 (by decide) lkX9_bestFirst_16 (fFs_1 _ _ _ _) dX9_bestFirst_63 ?_
    refine lv_iload_n hx hb dX9_bestFirst_66 rfl (lv_at hl 1 rfl) ?_
    refine kc_iV (b := (hh 1)) (As := [.int x1]) (rest := []) h1 ⟨hx, hb, hml, hown, hts⟩ (cX8_passTicksM l D cy (hh 1) (aa 1) H.size (fT (gT (gT u u50) u59)) x1) (cwV 1 hts gX9_bestFirst_X8_passTicks rfl rfl rfl hdX8_passTicks ⟨Nat.le_of_ble_eq_true rfl, Nat.le_of_ble_eq_true rfl⟩) hK (wF_sel2 _ _ _ _ _ _) hP hD hS hA (q0 := 0) rfl rfl rfl hl.1 rfl (Nat.le_of_ble_eq_true rfl) dX9_bestFirst_67 ⟨Nat.zero_le _, Nat.zero_le _⟩ (fun r67 u67 H locs h1 hP hD hS => ?_)
    replace hP := kP_perm (wF_uns2_0 cy ad hh aa pa (gT (gT u u50) u59) u67).symm hP
    replace hD := kD_perm (wF_uns2_0 cy ad hh aa pa (gT (gT u u50) u59) u67).symm hD
    refine lv_istore (lv' := [(5, .int r67), (0, .ref (ad 0)), (1, .int x1), (2, .int x2), (3, .int x3), (4, .int x4)]) hx hb dX9_bestFirst_70 hl (by decide) rfl (fun ls hl => ?_)
    refine lv_iload hx hb dX9_bestFirst_72 (lv_at hl 0 rfl) ?_
    refine lv_iload_n hx hb dX9_bestFirst_74 rfl (lv_at hl 4 rfl) ?_
    refine lv_icmp_le (tgt := 94) hx hb dX9_bestFirst_75 (by decide) (fun c75 => ?_) (fun c75 => ?_)
    · replace h1 := Ok.pos c75 h1
      exact tX9_bestFirst_b94 K E hfl hex hZ k28 hk28 x1 x2 x3 x4 (gT (gT (gT u u50) u59) u67) H locs ls (lv_sub hl [1, 2, 3, 4, 5] rfl) hP hD hS h1
    · replace h1 := Ok.neg c75 h1
      refine lv_aload_n hx hb dX9_bestFirst_78 rfl (lv_at hl 1 rfl) ?_
      refine k_get (v := .ref (hh 0)) (C := RX9) (T := TX9) (N := 9) hx hb hts inX9_bestFirst_X9 hown hK hP 0 (wF_c0 _ _ _ _ _ _) rfl 0 (by decide) lkX9_bestFirst_10 (fFs_0 _ _ _ _) dX9_bestFirst_79 ?_
      refine k_get (v := .ref ((aa 0) 4)) (C := RX8) (T := TX8) (N := 13) hx hb hts inX9_bestFirst_X8 hown hK hP 5 (wF_c5 _ _ _ _ _ _) rfl 4 (by decide) lkX9_bestFirst_137 (sFs_4 _ _) dX9_bestFirst_82 ?_
      refine lv_iload hx hb dX9_bestFirst_85 (lv_at hl 5 rfl) ?_
      refine kc_rS (As := [.ref ((aa 0) 4), .int x4]) (rest := []) h1 ⟨hx, hb, hml, hown, hts⟩ (cX9_atM l D cy ((aa 0) 4) H.size 20 (sQ (fN (gT (gT (gT u u50) u59) u67))) x4) (va_cwS 2 hts gX9_bestFirst_X9_at rfl rfl rfl heX9_at ⟨Nat.le_of_ble_eq_true rfl, Nat.le_of_ble_eq_true rfl⟩) hK (k_pick (k := 10) (wF_c10 _ _ _ _ _ _)) hP hD hS hA rfl hl.1 rfl (Nat.le_of_ble_eq_true rfl) dX9_bestFirst_87 ⟨Nat.zero_le _, Nat.zero_le _⟩ (fun r87 H locs h1 hP hS => ?_)
      refine lv_istore_n (lv' := [(2, .int r87), (5, .int r67), (0, .ref (ad 0)), (1, .int x1), (3, .int x3), (4, .int x4)]) hx hb dX9_bestFirst_90 rfl hl (by decide) rfl (fun ls hl => ?_)
      refine lv_iload hx hb dX9_bestFirst_91 (lv_at hl 1 rfl) ?_
      refine lv_istore_n (lv' := [(3, .int r67), (2, .int r87), (5, .int r67), (0, .ref (ad 0)), (1, .int x1), (4, .int x4)]) hx hb dX9_bestFirst_93 rfl hl (by decide) rfl (fun ls hl => ?_)
      exact tX9_bestFirst_b94 K E hfl hex hZ k28 hk28 x1 r87 r67 x4 (gT (gT (gT u u50) u59) u67) H locs ls (lv_sub hl [3, 4, 1, 0, 5] rfl) hP hD hS h1
theorem tX9_bestFirst_l28 {p : Program} {l : Launch} {e : Env} {s : State} {m : MethodId} {args : Array Value} {below : List Frame} {meth : Method} {c : Code} {D : va_G} {cy : Nat → ClassId} {A : Nat → Prop} {ad : Nat → Nat} {hh : Nat → Nat} {aa : Nat → Nat → Nat} {pa : Nat → Nat} {za zv : Nat → Nat} (K : (String ⊕ Int32) × FS → Prop) (E : mE D cy RX9 cX9_bestFirst 6 (some .int) wsX9_bestFirst A p s m args meth c) (hfl : l.stackTraces = false) (hex : ∀ x ∈ c.exceptionTable.toList, False) (hZ : mZ za zv A s s.heap) : ∀ (n9 : Nat) (x1 : Int32) (x2 : Int32) (x3 : Int32) (x4 : Int32) (u : FS) (H : Heap) (locs : List Loc) (ls : Array Slot), lv_has ls 6 [(0, .ref (ad 0)), (1, .int x1), (2, .int x2), (3, .int x3), (4, .int x4)] → va_P D vwCl (wF cy ad hh aa pa u) H → va_D A (wF cy ad hh aa pa u) → va_S A s.heap H locs → Ok (lop (fun y z => fX9_bestFirst_b28 y z.1 z.2.1 z.2.2.1 z.2.2.2.1 z.2.2.2.2) n9 (x1, x2, x3, x4, u)) K → kWx p l e rmX9_bestFirst s m args below meth c H locs (va_Qi (fun r q => K (.inr r, q)) (fun q => kPost D A (wF cy ad hh aa pa q)) A) (vx_X (fun _ : FS => True) (fun E q t => K (.inl E, q) ∧ kPost D A (wF cy ad hh aa pa q) t) A) A 28 ls [] := by
  intro n9
  induction n9 with
  | zero =>
    intro x1 x2 x3 x4 u H locs ls hl hP hD hS h1
    exact h1.no
  | succ n9 ih =>
    intro x1 x2 x3 x4 u H locs ls hl hP hD hS h1
    exact tX9_bestFirst_b28 K E hfl hex hZ (lop (fun y z => fX9_bestFirst_b28 y z.1 z.2.1 z.2.2.1 z.2.2.2.1 z.2.2.2.2) n9) (fun x1 x2 x3 x4 u H locs ls hl hP hD hS h1 => ih x1 x2 x3 x4 u H locs ls hl hP hD hS h1) x1 x2 x3 x4 u H locs ls hl hP hD hS h1
def fX9_bestFirst_b0 (x1 : Int32) (u : FS) : Option ((String ⊕ Int32) × FS) :=
  (if x1 < 1 then fX9_bestFirst_b11 u else (if x1 ≤ 99 then lop (fun y z => fX9_bestFirst_b28 y z.1 z.2.1 z.2.2.1 z.2.2.2.1 z.2.2.2.2) LF (x1, (-1), (-1), 0, u) else fX9_bestFirst_b11 u))
set_option maxHeartbeats 4000000 in
set_option maxRecDepth 100000 in
theorem tX9_bestFirst_b0 {p : Program} {l : Launch} {e : Env} {s : State} {m : MethodId} {args : Array Value} {below : List Frame} {meth : Method} {c : Code} {D : va_G} {cy : Nat → ClassId} {A : Nat → Prop} {ad : Nat → Nat} {hh : Nat → Nat} {aa : Nat → Nat → Nat} {pa : Nat → Nat} {za zv : Nat → Nat} (K : (String ⊕ Int32) × FS → Prop) (E : mE D cy RX9 cX9_bestFirst 6 (some .int) wsX9_bestFirst A p s m args meth c) (hfl : l.stackTraces = false) (hex : ∀ x ∈ c.exceptionTable.toList, False) (hZ : mZ za zv A s s.heap)
     (x1 : Int32) (u : FS) (H : Heap) (locs : List Loc) (ls : Array Slot) (hl : lv_has ls 6 [(0, .ref (ad 0)), (1, .int x1)]) (hP : va_P D vwCl (wF cy ad hh aa pa u) H) (hD : va_D A (wF cy ad hh aa pa u)) (hS : va_S A s.heap H locs) (h1 : Ok (fX9_bestFirst_b0 x1 u) K) :
    kWx p l e rmX9_bestFirst s m args below meth c H locs (va_Qi (fun r q => K (.inr r, q)) (fun q => kPost D A (wF cy ad hh aa pa q)) A) (vx_X (fun _ : FS => True) (fun E q t => K (.inl E, q) ∧ kPost D A (wF cy ad hh aa pa q) t) A) A 0 ls [] := by
  obtain ⟨hx, hb, hr, hml, hown, hts, hlocks, hK, hA⟩ := id E
  unfold fX9_bestFirst_b0 at h1
  refine lv_iload_n hx hb dX9_bestFirst_0 rfl (lv_at hl 1 rfl) ?_
  refine lv_iconst (v := 1) hx hb dX9_bestFirst_1 rfl ?_
  refine lv_icmp_lt (tgt := 11) hx hb dX9_bestFirst_2 (by decide) (fun c2 => ?_) (fun c2 => ?_)
  · replace h1 := Ok.pos c2 h1
    exact tX9_bestFirst_b11 K E hfl hex hZ u H locs ls (lv_sub hl [] rfl) hP hD hS h1
  · replace h1 := Ok.neg c2 h1
    refine lv_iload_n hx hb dX9_bestFirst_5 rfl (lv_at hl 1 rfl) ?_
    refine lv_bipush (v := 99) hx hb dX9_bestFirst_6 rfl ?_
    refine lv_icmp_le (tgt := 21) hx hb dX9_bestFirst_8 (by decide) (fun c8 => ?_) (fun c8 => ?_)
    · replace h1 := Ok.pos c8 h1
      refine lv_iconst (v := (-1)) hx hb dX9_bestFirst_21 rfl ?_
      refine lv_istore_n (lv' := [(2, .int (-1)), (0, .ref (ad 0)), (1, .int x1)]) hx hb dX9_bestFirst_22 rfl hl (by decide) rfl (fun ls hl => ?_)
      refine lv_iconst (v := (-1)) hx hb dX9_bestFirst_23 rfl ?_
      refine lv_istore_n (lv' := [(3, .int (-1)), (2, .int (-1)), (0, .ref (ad 0)), (1, .int x1)]) hx hb dX9_bestFirst_24 rfl hl (by decide) rfl (fun ls hl => ?_)
      refine lv_iconst (v := 0) hx hb dX9_bestFirst_25 rfl ?_
      refine lv_istore (lv' := [(4, .int 0), (3, .int (-1)), (2, .int (-1)), (0, .ref (ad 0)), (1, .int x1)]) hx hb dX9_bestFirst_26 hl (by decide) rfl (fun ls hl => ?_)
      exact tX9_bestFirst_l28 K E hfl hex hZ LF x1 (-1) (-1) 0 u H locs ls (lv_sub hl [3, 4, 2, 1, 0] rfl) hP hD hS h1
    · replace h1 := Ok.neg c8 h1
      exact tX9_bestFirst_b11 K E hfl hex hZ u H locs ls (lv_sub hl [] rfl) hP hD hS h1
def fX9_bestFirst (p1 : Int32) (u : FS) : Option ((String ⊕ Int32) × FS) := fX9_bestFirst_b0 p1 u
set_option maxHeartbeats 4000000 in
set_option maxRecDepth 100000 in
theorem cX9_bestFirstM (l : Launch) (hfl : l.stackTraces = false) (D : va_G) (cy : Nat → ClassId) (za zv : Nat → Nat) (ad : Nat → Nat) (hh : Nat → Nat) (aa : Nat → Nat → Nat) (pa : Nat → Nat) (sz : Nat) (u : FS) (p1 : Int32) : ∀ (K : (String ⊕ Int32) × FS → Prop), Ok (fX9_bestFirst p1 u) K → vx_Met l yX9_bestFirst wsX9_bestFirst rmX9_bestFirst (va_Pc [.ref (ad 0), .int p1] (kPreZ D cy za zv sz (wF cy ad hh aa pa u))) (va_Qi (fun r q => K (.inr r, q)) (fun q => kPost D (va_A (wF cy ad hh aa pa u) sz) (wF cy ad hh aa pa q)) (va_A (wF cy ad hh aa pa u) sz)) (vx_X (fun _ : FS => True) (fun E q t => K (.inl E, q) ∧ kPost D (va_A (wF cy ad hh aa pa u) sz) (wF cy ad hh aa pa q) t) (va_A (wF cy ad hh aa pa u) sz)) 1 6 (va_A (wF cy ad hh aa pa u) sz) := by
  intro K h1
  refine vx_ofW (cc := cX9_bestFirst) (maxL := 6) (ret := (some .int)) (by decide) rfl ?_
  intro p e s m args below meth c s₁ B hml hex hv
  obtain ⟨rfl, ⟨hsz, hP, hK, hD0⟩, hZ⟩ := hv
  subst hsz
  have E : mE D cy RX9 cX9_bestFirst 6 (some .int) wsX9_bestFirst (va_A (wF cy ad hh aa pa u) s.heap.size) p s m _ meth c := ⟨B.exec, B.bytes, B.returns, hml, findClass_of_methodNamed B.named, atoms_spec (ws := wsX9_bestFirst) B.pre, B.notSynchronized, hK, fun q h => Or.inr h⟩
  have hl := lv_entry ([.ref (ad 0), .int p1]) (n := 6) (Nat.le_of_ble_eq_true rfl)
  rw [lg_entry_eq]
  generalize (lg_sl ([.ref (ad 0), .int p1]) ++ List.replicate (6 - (lg_sl ([.ref (ad 0), .int p1])).length) Slot.unset).toArray = ls at hl ⊢
  exact tX9_bestFirst_b0 K E hfl hex hZ p1 u _ _ _ hl hP hD0.self va_S.rf h1
-- X9_tick
theorem xaX9_tick_75 : ∀ w ∈ (vx_atS RX9 75 "java/lang/IllegalArgumentException" ["java/lang/RuntimeException", "java/lang/Exception"]).filter goodWord, w ∈ wsX9_tick := fun w h => List.mem_cons_of_mem _ (List.mem_append_right _ h)
abbrev rmX9_tick : Room := { frames := 6, cells := 1, slots := 6, locals := 142 }
def fX9_tick_b11 (u : FS) : Option ((String ⊕ Int32) × FS) :=
  some (.inl "java/lang/IllegalArgumentException", u)
set_option maxHeartbeats 4000000 in
set_option maxRecDepth 100000 in
theorem tX9_tick_b11 {p : Program} {l : Launch} {e : Env} {s : State} {m : MethodId} {args : Array Value} {below : List Frame} {meth : Method} {c : Code} {D : va_G} {cy : Nat → ClassId} {A : Nat → Prop} {ad : Nat → Nat} {hh : Nat → Nat} {aa : Nat → Nat → Nat} {pa : Nat → Nat} {za zv : Nat → Nat} (K : (String ⊕ Int32) × FS → Prop) (E : mE D cy RX9 cX9_tick 2 (some .int) wsX9_tick A p s m args meth c) (hfl : l.stackTraces = false) (hex : ∀ x ∈ c.exceptionTable.toList, False) (hZ : mZ za zv A s s.heap)
     (u : FS) (H : Heap) (locs : List Loc) (ls : Array Slot) (hl : lv_has ls 2 []) (hP : va_P D vwCl (wF cy ad hh aa pa u) H) (hD : va_D A (wF cy ad hh aa pa u)) (hS : va_S A s.heap H locs) (h1 : Ok (fX9_tick_b11 u) K) :
    kWx p l e rmX9_tick s m args below meth c H locs (va_Qi (fun r q => K (.inr r, q)) (fun q => kPost D A (wF cy ad hh aa pa q)) A) (vx_X (fun _ : FS => True) (fun E q t => K (.inl E, q) ∧ kPost D A (wF cy ad hh aa pa q) t) A) A 11 ls [] := by
  obtain ⟨hx, hb, hr, hml, hown, hts, hlocks, hK, hA⟩ := id E
  unfold fX9_tick_b11 at h1
  exact kx_throw (names := ["java/lang/RuntimeException", "java/lang/Exception"]) (text := "many") (sa := za 9) hx hb hfl hml hown (by decide) (by decide) (hts _ (List.mem_of_getElem? (i := 1) rfl)) (hts _ (List.mem_of_getElem? (i := 2) rfl)) (k_site hZ 9 (by decide)) (vx_hat (fun w h => hts w (xaX9_tick_75 w h)) xbRX9_75 (hZ.cast (by decide))) xgRX9_72_75 hZ hK hP hD hS hl.1 dX9_tick_11 dX9_tick_14 dX9_tick_15 dX9_tick_17 dX9_tick_20 hex hlocks h1 (Nat.le_of_ble_eq_true rfl) (Nat.le_of_ble_eq_true rfl) (Nat.le_of_ble_eq_true rfl) (Nat.le_of_ble_eq_true rfl)
def fX9_tick_b0 (x1 : Int32) (u : FS) : Option ((String ⊕ Int32) × FS) :=
  (if x1 < 1 then fX9_tick_b11 u else (if x1 ≤ 50 then bnd2 (fX9_doTick x1 u) (fun r23 u23 => some (.inr r23, u23)) else fX9_tick_b11 u))
set_option maxHeartbeats 4000000 in
set_option maxRecDepth 100000 in
theorem tX9_tick_b0 {p : Program} {l : Launch} {e : Env} {s : State} {m : MethodId} {args : Array Value} {below : List Frame} {meth : Method} {c : Code} {D : va_G} {cy : Nat → ClassId} {A : Nat → Prop} {ad : Nat → Nat} {hh : Nat → Nat} {aa : Nat → Nat → Nat} {pa : Nat → Nat} {za zv : Nat → Nat} (K : (String ⊕ Int32) × FS → Prop) (E : mE D cy RX9 cX9_tick 2 (some .int) wsX9_tick A p s m args meth c) (hfl : l.stackTraces = false) (hex : ∀ x ∈ c.exceptionTable.toList, False) (hZ : mZ za zv A s s.heap)
     (x1 : Int32) (u : FS) (H : Heap) (locs : List Loc) (ls : Array Slot) (hl : lv_has ls 2 [(0, .ref (ad 0)), (1, .int x1)]) (hP : va_P D vwCl (wF cy ad hh aa pa u) H) (hD : va_D A (wF cy ad hh aa pa u)) (hS : va_S A s.heap H locs) (h1 : Ok (fX9_tick_b0 x1 u) K) :
    kWx p l e rmX9_tick s m args below meth c H locs (va_Qi (fun r q => K (.inr r, q)) (fun q => kPost D A (wF cy ad hh aa pa q)) A) (vx_X (fun _ : FS => True) (fun E q t => K (.inl E, q) ∧ kPost D A (wF cy ad hh aa pa q) t) A) A 0 ls [] := by
  obtain ⟨hx, hb, hr, hml, hown, hts, hlocks, hK, hA⟩ := id E
  unfold fX9_tick_b0 at h1
  refine lv_iload_n hx hb dX9_tick_0 rfl (lv_at hl 1 rfl) ?_
  refine lv_iconst (v := 1) hx hb dX9_tick_1 rfl ?_
  refine lv_icmp_lt (tgt := 11) hx hb dX9_tick_2 (by decide) (fun c2 => ?_) (fun c2 => ?_)
  · replace h1 := Ok.pos c2 h1
    exact tX9_tick_b11 K E hfl hex hZ u H locs ls (lv_sub hl [] rfl) hP hD hS h1
  · replace h1 := Ok.neg c2 h1
    refine lv_iload_n hx hb dX9_tick_5 rfl (lv_at hl 1 rfl) ?_
    refine lv_bipush (v := 50) hx hb dX9_tick_6 rfl ?_
    refine lv_icmp_le (tgt := 21) hx hb dX9_tick_8 (by decide) (fun c8 => ?_) (fun c8 => ?_)
    · replace h1 := Ok.pos c8 h1
      refine lv_aload_n hx hb dX9_tick_21 rfl (lv_at hl 0 rfl) ?_
      refine lv_iload_n hx hb dX9_tick_22 rfl (lv_at hl 1 rfl) ?_
      refine kc_iV0 (b := (ad 0)) (As := [.int x1]) (rest := []) h1 ⟨hx, hb, hml, hown, hts⟩ (cX9_doTickM l D cy ad hh aa pa H.size u x1) (cwV 1 hts gX9_tick_X9_doTick rfl rfl rfl hdX9_doTick ⟨Nat.le_of_ble_eq_true rfl, Nat.le_of_ble_eq_true rfl⟩) hK hP hD hS hA (q0 := 0) rfl rfl rfl hl.1 rfl (Nat.le_of_ble_eq_true rfl) dX9_tick_23 ⟨Nat.zero_le _, Nat.zero_le _⟩ (fun r23 u23 H locs h1 hP hD hS => ?_)
      exact kret_x hx hb hr hlocks hP hD hS h1 dX9_tick_26
    · replace h1 := Ok.neg c8 h1
      exact tX9_tick_b11 K E hfl hex hZ u H locs ls (lv_sub hl [] rfl) hP hD hS h1
def fX9_tick (p1 : Int32) (u : FS) : Option ((String ⊕ Int32) × FS) := fX9_tick_b0 p1 u
set_option maxHeartbeats 4000000 in
set_option maxRecDepth 100000 in
theorem cX9_tickM (l : Launch) (hfl : l.stackTraces = false) (D : va_G) (cy : Nat → ClassId) (za zv : Nat → Nat) (ad : Nat → Nat) (hh : Nat → Nat) (aa : Nat → Nat → Nat) (pa : Nat → Nat) (sz : Nat) (u : FS) (p1 : Int32) : ∀ (K : (String ⊕ Int32) × FS → Prop), Ok (fX9_tick p1 u) K → vx_Met l yX9_tick wsX9_tick rmX9_tick (va_Pc [.ref (ad 0), .int p1] (kPreZ D cy za zv sz (wF cy ad hh aa pa u))) (va_Qi (fun r q => K (.inr r, q)) (fun q => kPost D (va_A (wF cy ad hh aa pa u) sz) (wF cy ad hh aa pa q)) (va_A (wF cy ad hh aa pa u) sz)) (vx_X (fun _ : FS => True) (fun E q t => K (.inl E, q) ∧ kPost D (va_A (wF cy ad hh aa pa u) sz) (wF cy ad hh aa pa q) t) (va_A (wF cy ad hh aa pa u) sz)) 1 6 (va_A (wF cy ad hh aa pa u) sz) := by
  intro K h1
  refine vx_ofW (cc := cX9_tick) (maxL := 2) (ret := (some .int)) (by decide) rfl ?_
  intro p e s m args below meth c s₁ B hml hex hv
  obtain ⟨rfl, ⟨hsz, hP, hK, hD0⟩, hZ⟩ := hv
  subst hsz
  have E : mE D cy RX9 cX9_tick 2 (some .int) wsX9_tick (va_A (wF cy ad hh aa pa u) s.heap.size) p s m _ meth c := ⟨B.exec, B.bytes, B.returns, hml, findClass_of_methodNamed B.named, atoms_spec (ws := wsX9_tick) B.pre, B.notSynchronized, hK, fun q h => Or.inr h⟩
  have hl := lv_entry ([.ref (ad 0), .int p1]) (n := 2) (Nat.le_of_ble_eq_true rfl)
  rw [lg_entry_eq]
  generalize (lg_sl ([.ref (ad 0), .int p1]) ++ List.replicate (2 - (lg_sl ([.ref (ad 0), .int p1])).length) Slot.unset).toArray = ls at hl ⊢
  exact tX9_tick_b0 K E hfl hex hZ p1 u _ _ _ hl hP hD0.self va_S.rf h1
