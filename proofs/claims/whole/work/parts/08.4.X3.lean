-- X9_arrive
theorem xaX9_arrive_123 : ∀ w ∈ (vx_atS RX9 123 "java/lang/IndexOutOfBoundsException" ["java/lang/RuntimeException", "java/lang/Exception"]).filter goodWord, w ∈ wsX9_arrive := fun w h => List.mem_cons_of_mem _ (List.mem_append_left _ (List.mem_append_right _ h))
theorem xaX9_arrive_75 : ∀ w ∈ (vx_atS RX9 75 "java/lang/IllegalArgumentException" ["java/lang/RuntimeException", "java/lang/Exception"]).filter goodWord, w ∈ wsX9_arrive := fun w h => List.mem_cons_of_mem _ (List.mem_append_right _ h)
abbrev rmX9_arrive : Room := { frames := 6, cells := 1, slots := 6, locals := 125 }
def fX9_arrive_b9 (u : FS) : Option ((String ⊕ Int32) × FS) :=
  some (.inl "java/lang/IndexOutOfBoundsException", u)
set_option maxHeartbeats 4000000 in
set_option maxRecDepth 100000 in
theorem tX9_arrive_b9 {p : Program} {l : Launch} {e : Env} {s : State} {m : MethodId} {args : Array Value} {below : List Frame} {meth : Method} {c : Code} {D : va_G} {cy : Nat → ClassId} {A : Nat → Prop} {ad : Nat → Nat} {hh : Nat → Nat} {aa : Nat → Nat → Nat} {pa : Nat → Nat} {za zv : Nat → Nat} (K : (String ⊕ Int32) × FS → Prop) (E : mE D cy RX9 cX9_arrive 3 (some .int) wsX9_arrive A p s m args meth c) (hfl : l.stackTraces = false) (hex : ∀ x ∈ c.exceptionTable.toList, False) (hZ : mZ za zv A s s.heap)
     (u : FS) (H : Heap) (locs : List Loc) (ls : Array Slot) (hl : lv_has ls 3 []) (hP : va_P D vwCl (wF cy ad hh aa pa u) H) (hD : va_D A (wF cy ad hh aa pa u)) (hS : va_S A s.heap H locs) (h1 : Ok (fX9_arrive_b9 u) K) :
    kWx p l e rmX9_arrive s m args below meth c H locs (va_Qi (fun r q => K (.inr r, q)) (fun q => kPost D A (wF cy ad hh aa pa q)) A) (vx_X (fun _ : FS => True) (fun E q t => K (.inl E, q) ∧ kPost D A (wF cy ad hh aa pa q) t) A) A 9 ls [] := by
  obtain ⟨hx, hb, hr, hml, hown, hts, hlocks, hK, hA⟩ := id E
  unfold fX9_arrive_b9 at h1
  exact kx_throw (names := ["java/lang/RuntimeException", "java/lang/Exception"]) (text := "kind") (sa := za 3) hx hb hfl hml hown (by decide) (by decide) (hts _ (List.mem_of_getElem? (i := 1) rfl)) (hts _ (List.mem_of_getElem? (i := 2) rfl)) (k_site hZ 3 (by decide)) (vx_hat (fun w h => hts w (xaX9_arrive_123 w h)) xbRX9_123 (hZ.cast (by decide))) xgRX9_119_123 hZ hK hP hD hS hl.1 dX9_arrive_9 dX9_arrive_12 dX9_arrive_13 dX9_arrive_15 dX9_arrive_18 hex hlocks h1 (Nat.le_of_ble_eq_true rfl) (Nat.le_of_ble_eq_true rfl) (Nat.le_of_ble_eq_true rfl) (Nat.le_of_ble_eq_true rfl)
def fX9_arrive_b31 (u : FS) : Option ((String ⊕ Int32) × FS) :=
  some (.inl "java/lang/IllegalArgumentException", u)
set_option maxHeartbeats 4000000 in
set_option maxRecDepth 100000 in
theorem tX9_arrive_b31 {p : Program} {l : Launch} {e : Env} {s : State} {m : MethodId} {args : Array Value} {below : List Frame} {meth : Method} {c : Code} {D : va_G} {cy : Nat → ClassId} {A : Nat → Prop} {ad : Nat → Nat} {hh : Nat → Nat} {aa : Nat → Nat → Nat} {pa : Nat → Nat} {za zv : Nat → Nat} (K : (String ⊕ Int32) × FS → Prop) (E : mE D cy RX9 cX9_arrive 3 (some .int) wsX9_arrive A p s m args meth c) (hfl : l.stackTraces = false) (hex : ∀ x ∈ c.exceptionTable.toList, False) (hZ : mZ za zv A s s.heap)
     (u : FS) (H : Heap) (locs : List Loc) (ls : Array Slot) (hl : lv_has ls 3 []) (hP : va_P D vwCl (wF cy ad hh aa pa u) H) (hD : va_D A (wF cy ad hh aa pa u)) (hS : va_S A s.heap H locs) (h1 : Ok (fX9_arrive_b31 u) K) :
    kWx p l e rmX9_arrive s m args below meth c H locs (va_Qi (fun r q => K (.inr r, q)) (fun q => kPost D A (wF cy ad hh aa pa q)) A) (vx_X (fun _ : FS => True) (fun E q t => K (.inl E, q) ∧ kPost D A (wF cy ad hh aa pa q) t) A) A 31 ls [] := by
  obtain ⟨hx, hb, hr, hml, hown, hts, hlocks, hK, hA⟩ := id E
  unfold fX9_arrive_b31 at h1
  exact kx_throw (names := ["java/lang/RuntimeException", "java/lang/Exception"]) (text := "weight") (sa := za 10) hx hb hfl hml hown (by decide) (by decide) (hts _ (List.mem_of_getElem? (i := 3) rfl)) (hts _ (List.mem_of_getElem? (i := 4) rfl)) (k_site hZ 10 (by decide)) (vx_hat (fun w h => hts w (xaX9_arrive_75 w h)) xbRX9_75 (hZ.cast (by decide))) xgRX9_72_75 hZ hK hP hD hS hl.1 dX9_arrive_31 dX9_arrive_34 dX9_arrive_35 dX9_arrive_37 dX9_arrive_40 hex hlocks h1 (Nat.le_of_ble_eq_true rfl) (Nat.le_of_ble_eq_true rfl) (Nat.le_of_ble_eq_true rfl) (Nat.le_of_ble_eq_true rfl)
def fX9_arrive_b0 (x1 : Int32) (x2 : Int32) (u : FS) : Option ((String ⊕ Int32) × FS) :=
  (if x1 < 0 then fX9_arrive_b9 u else (if x1 < 4 then (if x2 < 1 then fX9_arrive_b31 u else (if x2 ≤ 999 then bnd2 (fX9_doArrive x1 x2 u) (fun r44 u44 => some (.inr r44, u44)) else fX9_arrive_b31 u)) else fX9_arrive_b9 u))
set_option maxHeartbeats 4000000 in
set_option maxRecDepth 100000 in
theorem tX9_arrive_b0 {p : Program} {l : Launch} {e : Env} {s : State} {m : MethodId} {args : Array Value} {below : List Frame} {meth : Method} {c : Code} {D : va_G} {cy : Nat → ClassId} {A : Nat → Prop} {ad : Nat → Nat} {hh : Nat → Nat} {aa : Nat → Nat → Nat} {pa : Nat → Nat} {za zv : Nat → Nat} (K : (String ⊕ Int32) × FS → Prop) (E : mE D cy RX9 cX9_arrive 3 (some .int) wsX9_arrive A p s m args meth c) (hfl : l.stackTraces = false) (hex : ∀ x ∈ c.exceptionTable.toList, False) (hZ : mZ za zv A s s.heap)
     (x1 : Int32) (x2 : Int32) (u : FS) (H : Heap) (locs : List Loc) (ls : Array Slot) (hl : lv_has ls 3 [(0, .ref (ad 0)), (1, .int x1), (2, .int x2)]) (hP : va_P D vwCl (wF cy ad hh aa pa u) H) (hD : va_D A (wF cy ad hh aa pa u)) (hS : va_S A s.heap H locs) (h1 : Ok (fX9_arrive_b0 x1 x2 u) K) :
    kWx p l e rmX9_arrive s m args below meth c H locs (va_Qi (fun r q => K (.inr r, q)) (fun q => kPost D A (wF cy ad hh aa pa q)) A) (vx_X (fun _ : FS => True) (fun E q t => K (.inl E, q) ∧ kPost D A (wF cy ad hh aa pa q) t) A) A 0 ls [] := by
  obtain ⟨hx, hb, hr, hml, hown, hts, hlocks, hK, hA⟩ := id E
  unfold fX9_arrive_b0 at h1
  refine lv_iload_n hx hb dX9_arrive_0 rfl (lv_at hl 1 rfl) ?_
  refine lv_if_lt (tgt := 9) hx hb dX9_arrive_1 (by decide) (fun c1 => ?_) (fun c1 => ?_)
  · replace h1 := Ok.pos c1 h1
    exact tX9_arrive_b9 K E hfl hex hZ u H locs ls (lv_sub hl [] rfl) hP hD hS h1
  · replace h1 := Ok.neg c1 h1
    refine lv_iload_n hx hb dX9_arrive_4 rfl (lv_at hl 1 rfl) ?_
    refine lv_iconst (v := 4) hx hb dX9_arrive_5 rfl ?_
    refine lv_icmp_lt (tgt := 19) hx hb dX9_arrive_6 (by decide) (fun c6 => ?_) (fun c6 => ?_)
    · replace h1 := Ok.pos c6 h1
      refine lv_iload_n hx hb dX9_arrive_19 rfl (lv_at hl 2 rfl) ?_
      refine lv_iconst (v := 1) hx hb dX9_arrive_20 rfl ?_
      refine lv_icmp_lt (tgt := 31) hx hb dX9_arrive_21 (by decide) (fun c21 => ?_) (fun c21 => ?_)
      · replace h1 := Ok.pos c21 h1
        exact tX9_arrive_b31 K E hfl hex hZ u H locs ls (lv_sub hl [] rfl) hP hD hS h1
      · replace h1 := Ok.neg c21 h1
        refine lv_iload_n hx hb dX9_arrive_24 rfl (lv_at hl 2 rfl) ?_
        refine lv_sipush (v := 999) hx hb dX9_arrive_25 rfl ?_
        refine lv_icmp_le (tgt := 41) hx hb dX9_arrive_28 (by decide) (fun c28 => ?_) (fun c28 => ?_)
        · replace h1 := Ok.pos c28 h1
          refine lv_aload_n hx hb dX9_arrive_41 rfl (lv_at hl 0 rfl) ?_
          refine lv_iload_n hx hb dX9_arrive_42 rfl (lv_at hl 1 rfl) ?_
          refine lv_iload_n hx hb dX9_arrive_43 rfl (lv_at hl 2 rfl) ?_
          refine kc_iV0 (b := (ad 0)) (As := [.int x1, .int x2]) (rest := []) h1 ⟨hx, hb, hml, hown, hts⟩ (cX9_doArriveM l D cy ad hh aa pa H.size u x1 x2) (cwV 2 hts gX9_arrive_X9_doArrive rfl rfl rfl hdX9_doArrive ⟨Nat.le_of_ble_eq_true rfl, Nat.le_of_ble_eq_true rfl⟩) hK hP hD hS hA (q0 := 0) rfl rfl rfl hl.1 rfl (Nat.le_of_ble_eq_true rfl) dX9_arrive_44 ⟨Nat.zero_le _, Nat.zero_le _⟩ (fun r44 u44 H locs h1 hP hD hS => ?_)
          exact kret_x hx hb hr hlocks hP hD hS h1 dX9_arrive_47
        · replace h1 := Ok.neg c28 h1
          exact tX9_arrive_b31 K E hfl hex hZ u H locs ls (lv_sub hl [] rfl) hP hD hS h1
    · replace h1 := Ok.neg c6 h1
      exact tX9_arrive_b9 K E hfl hex hZ u H locs ls (lv_sub hl [] rfl) hP hD hS h1
def fX9_arrive (p1 : Int32) (p2 : Int32) (u : FS) : Option ((String ⊕ Int32) × FS) := fX9_arrive_b0 p1 p2 u
set_option maxHeartbeats 4000000 in
set_option maxRecDepth 100000 in
theorem cX9_arriveM (l : Launch) (hfl : l.stackTraces = false) (D : va_G) (cy : Nat → ClassId) (za zv : Nat → Nat) (ad : Nat → Nat) (hh : Nat → Nat) (aa : Nat → Nat → Nat) (pa : Nat → Nat) (sz : Nat) (u : FS) (p1 : Int32) (p2 : Int32) : ∀ (K : (String ⊕ Int32) × FS → Prop), Ok (fX9_arrive p1 p2 u) K → vx_Met l yX9_arrive wsX9_arrive rmX9_arrive (va_Pc [.ref (ad 0), .int p1, .int p2] (kPreZ D cy za zv sz (wF cy ad hh aa pa u))) (va_Qi (fun r q => K (.inr r, q)) (fun q => kPost D (va_A (wF cy ad hh aa pa u) sz) (wF cy ad hh aa pa q)) (va_A (wF cy ad hh aa pa u) sz)) (vx_X (fun _ : FS => True) (fun E q t => K (.inl E, q) ∧ kPost D (va_A (wF cy ad hh aa pa u) sz) (wF cy ad hh aa pa q) t) (va_A (wF cy ad hh aa pa u) sz)) 1 6 (va_A (wF cy ad hh aa pa u) sz) := by
  intro K h1
  refine vx_ofW (cc := cX9_arrive) (maxL := 3) (ret := (some .int)) (by decide) rfl ?_
  intro p e s m args below meth c s₁ B hml hex hv
  obtain ⟨rfl, ⟨hsz, hP, hK, hD0⟩, hZ⟩ := hv
  subst hsz
  have E : mE D cy RX9 cX9_arrive 3 (some .int) wsX9_arrive (va_A (wF cy ad hh aa pa u) s.heap.size) p s m _ meth c := ⟨B.exec, B.bytes, B.returns, hml, findClass_of_methodNamed B.named, atoms_spec (ws := wsX9_arrive) B.pre, B.notSynchronized, hK, fun q h => Or.inr h⟩
  have hl := lv_entry ([.ref (ad 0), .int p1, .int p2]) (n := 3) (Nat.le_of_ble_eq_true rfl)
  rw [lg_entry_eq]
  generalize (lg_sl ([.ref (ad 0), .int p1, .int p2]) ++ List.replicate (3 - (lg_sl ([.ref (ad 0), .int p1, .int p2])).length) Slot.unset).toArray = ls at hl ⊢
  exact tX9_arrive_b0 K E hfl hex hZ p1 p2 u _ _ _ hl hP hD0.self va_S.rf h1
-- X9_wave
theorem xaX9_wave_123 : ∀ w ∈ (vx_atS RX9 123 "java/lang/IndexOutOfBoundsException" ["java/lang/RuntimeException", "java/lang/Exception"]).filter goodWord, w ∈ wsX9_wave := fun w h => List.mem_cons_of_mem _ (List.mem_append_right _ h)
abbrev rmX9_wave : Room := { frames := 6, cells := 1, slots := 6, locals := 125 }
def fX9_wave_b10 (u : FS) : Option ((String ⊕ Int32) × FS) :=
  some (.inl "java/lang/IndexOutOfBoundsException", u)
set_option maxHeartbeats 4000000 in
set_option maxRecDepth 100000 in
theorem tX9_wave_b10 {p : Program} {l : Launch} {e : Env} {s : State} {m : MethodId} {args : Array Value} {below : List Frame} {meth : Method} {c : Code} {D : va_G} {cy : Nat → ClassId} {A : Nat → Prop} {ad : Nat → Nat} {hh : Nat → Nat} {aa : Nat → Nat → Nat} {pa : Nat → Nat} {za zv : Nat → Nat} (K : (String ⊕ Int32) × FS → Prop) (E : mE D cy RX9 cX9_wave 2 (some .int) wsX9_wave A p s m args meth c) (hfl : l.stackTraces = false) (hex : ∀ x ∈ c.exceptionTable.toList, False) (hZ : mZ za zv A s s.heap)
     (u : FS) (H : Heap) (locs : List Loc) (ls : Array Slot) (hl : lv_has ls 2 []) (hP : va_P D vwCl (wF cy ad hh aa pa u) H) (hD : va_D A (wF cy ad hh aa pa u)) (hS : va_S A s.heap H locs) (h1 : Ok (fX9_wave_b10 u) K) :
    kWx p l e rmX9_wave s m args below meth c H locs (va_Qi (fun r q => K (.inr r, q)) (fun q => kPost D A (wF cy ad hh aa pa q)) A) (vx_X (fun _ : FS => True) (fun E q t => K (.inl E, q) ∧ kPost D A (wF cy ad hh aa pa q) t) A) A 10 ls [] := by
  obtain ⟨hx, hb, hr, hml, hown, hts, hlocks, hK, hA⟩ := id E
  unfold fX9_wave_b10 at h1
  exact kx_throw (names := ["java/lang/RuntimeException", "java/lang/Exception"]) (text := "car") (sa := za 4) hx hb hfl hml hown (by decide) (by decide) (hts _ (List.mem_of_getElem? (i := 1) rfl)) (hts _ (List.mem_of_getElem? (i := 2) rfl)) (k_site hZ 4 (by decide)) (vx_hat (fun w h => hts w (xaX9_wave_123 w h)) xbRX9_123 (hZ.cast (by decide))) xgRX9_119_123 hZ hK hP hD hS hl.1 dX9_wave_10 dX9_wave_13 dX9_wave_14 dX9_wave_16 dX9_wave_19 hex hlocks h1 (Nat.le_of_ble_eq_true rfl) (Nat.le_of_ble_eq_true rfl) (Nat.le_of_ble_eq_true rfl) (Nat.le_of_ble_eq_true rfl)
def fX9_wave_b0 (x1 : Int32) (u : FS) : Option ((String ⊕ Int32) × FS) :=
  (if x1 < 0 then fX9_wave_b10 u else (if x1 < 60 then bnd2 (fX9_doWave x1 u) (fun r22 u22 => some (.inr r22, u22)) else fX9_wave_b10 u))
set_option maxHeartbeats 4000000 in
set_option maxRecDepth 100000 in
theorem tX9_wave_b0 {p : Program} {l : Launch} {e : Env} {s : State} {m : MethodId} {args : Array Value} {below : List Frame} {meth : Method} {c : Code} {D : va_G} {cy : Nat → ClassId} {A : Nat → Prop} {ad : Nat → Nat} {hh : Nat → Nat} {aa : Nat → Nat → Nat} {pa : Nat → Nat} {za zv : Nat → Nat} (K : (String ⊕ Int32) × FS → Prop) (E : mE D cy RX9 cX9_wave 2 (some .int) wsX9_wave A p s m args meth c) (hfl : l.stackTraces = false) (hex : ∀ x ∈ c.exceptionTable.toList, False) (hZ : mZ za zv A s s.heap)
     (x1 : Int32) (u : FS) (H : Heap) (locs : List Loc) (ls : Array Slot) (hl : lv_has ls 2 [(0, .ref (ad 0)), (1, .int x1)]) (hP : va_P D vwCl (wF cy ad hh aa pa u) H) (hD : va_D A (wF cy ad hh aa pa u)) (hS : va_S A s.heap H locs) (h1 : Ok (fX9_wave_b0 x1 u) K) :
    kWx p l e rmX9_wave s m args below meth c H locs (va_Qi (fun r q => K (.inr r, q)) (fun q => kPost D A (wF cy ad hh aa pa q)) A) (vx_X (fun _ : FS => True) (fun E q t => K (.inl E, q) ∧ kPost D A (wF cy ad hh aa pa q) t) A) A 0 ls [] := by
  obtain ⟨hx, hb, hr, hml, hown, hts, hlocks, hK, hA⟩ := id E
  unfold fX9_wave_b0 at h1
  refine lv_iload_n hx hb dX9_wave_0 rfl (lv_at hl 1 rfl) ?_
  refine lv_if_lt (tgt := 10) hx hb dX9_wave_1 (by decide) (fun c1 => ?_) (fun c1 => ?_)
  · replace h1 := Ok.pos c1 h1
    exact tX9_wave_b10 K E hfl hex hZ u H locs ls (lv_sub hl [] rfl) hP hD hS h1
  · replace h1 := Ok.neg c1 h1
    refine lv_iload_n hx hb dX9_wave_4 rfl (lv_at hl 1 rfl) ?_
    refine lv_bipush (v := 60) hx hb dX9_wave_5 rfl ?_
    refine lv_icmp_lt (tgt := 20) hx hb dX9_wave_7 (by decide) (fun c7 => ?_) (fun c7 => ?_)
    · replace h1 := Ok.pos c7 h1
      refine lv_aload_n hx hb dX9_wave_20 rfl (lv_at hl 0 rfl) ?_
      refine lv_iload_n hx hb dX9_wave_21 rfl (lv_at hl 1 rfl) ?_
      refine kc_iV0 (b := (ad 0)) (As := [.int x1]) (rest := []) h1 ⟨hx, hb, hml, hown, hts⟩ (cX9_doWaveM l D cy ad hh aa pa H.size u x1) (cwV 1 hts gX9_wave_X9_doWave rfl rfl rfl hdX9_doWave ⟨Nat.le_of_ble_eq_true rfl, Nat.le_of_ble_eq_true rfl⟩) hK hP hD hS hA (q0 := 0) rfl rfl rfl hl.1 rfl (Nat.le_of_ble_eq_true rfl) dX9_wave_22 ⟨Nat.zero_le _, Nat.zero_le _⟩ (fun r22 u22 H locs h1 hP hD hS => ?_)
      exact kret_x hx hb hr hlocks hP hD hS h1 dX9_wave_25
    · replace h1 := Ok.neg c7 h1
      exact tX9_wave_b10 K E hfl hex hZ u H locs ls (lv_sub hl [] rfl) hP hD hS h1
def fX9_wave (p1 : Int32) (u : FS) : Option ((String ⊕ Int32) × FS) := fX9_wave_b0 p1 u
set_option maxHeartbeats 4000000 in
set_option maxRecDepth 100000 in
theorem cX9_waveM (l : Launch) (hfl : l.stackTraces = false) (D : va_G) (cy : Nat → ClassId) (za zv : Nat → Nat) (ad : Nat → Nat) (hh : Nat → Nat) (aa : Nat → Nat → Nat) (pa : Nat → Nat) (sz : Nat) (u : FS) (p1 : Int32) : ∀ (K : (String ⊕ Int32) × FS → Prop), Ok (fX9_wave p1 u) K → vx_Met l yX9_wave wsX9_wave rmX9_wave (va_Pc [.ref (ad 0), .int p1] (kPreZ D cy za zv sz (wF cy ad hh aa pa u))) (va_Qi (fun r q => K (.inr r, q)) (fun q => kPost D (va_A (wF cy ad hh aa pa u) sz) (wF cy ad hh aa pa q)) (va_A (wF cy ad hh aa pa u) sz)) (vx_X (fun _ : FS => True) (fun E q t => K (.inl E, q) ∧ kPost D (va_A (wF cy ad hh aa pa u) sz) (wF cy ad hh aa pa q) t) (va_A (wF cy ad hh aa pa u) sz)) 1 6 (va_A (wF cy ad hh aa pa u) sz) := by
  intro K h1
  refine vx_ofW (cc := cX9_wave) (maxL := 2) (ret := (some .int)) (by decide) rfl ?_
  intro p e s m args below meth c s₁ B hml hex hv
  obtain ⟨rfl, ⟨hsz, hP, hK, hD0⟩, hZ⟩ := hv
  subst hsz
  have E : mE D cy RX9 cX9_wave 2 (some .int) wsX9_wave (va_A (wF cy ad hh aa pa u) s.heap.size) p s m _ meth c := ⟨B.exec, B.bytes, B.returns, hml, findClass_of_methodNamed B.named, atoms_spec (ws := wsX9_wave) B.pre, B.notSynchronized, hK, fun q h => Or.inr h⟩
  have hl := lv_entry ([.ref (ad 0), .int p1]) (n := 2) (Nat.le_of_ble_eq_true rfl)
  rw [lg_entry_eq]
  generalize (lg_sl ([.ref (ad 0), .int p1]) ++ List.replicate (2 - (lg_sl ([.ref (ad 0), .int p1])).length) Slot.unset).toArray = ls at hl ⊢
  exact tX9_wave_b0 K E hfl hex hZ p1 u _ _ _ hl hP hD0.self va_S.rf h1
-- X9_dismiss
theorem xaX9_dismiss_123 : ∀ w ∈ (vx_atS RX9 123 "java/lang/IndexOutOfBoundsException" ["java/lang/RuntimeException", "java/lang/Exception"]).filter goodWord, w ∈ wsX9_dismiss := fun w h => List.mem_cons_of_mem _ (List.mem_append_right _ h)
abbrev rmX9_dismiss : Room := { frames := 6, cells := 1, slots := 6, locals := 125 }
def fX9_dismiss_b10 (u : FS) : Option ((String ⊕ Int32) × FS) :=
  some (.inl "java/lang/IndexOutOfBoundsException", u)
set_option maxHeartbeats 4000000 in
set_option maxRecDepth 100000 in
theorem tX9_dismiss_b10 {p : Program} {l : Launch} {e : Env} {s : State} {m : MethodId} {args : Array Value} {below : List Frame} {meth : Method} {c : Code} {D : va_G} {cy : Nat → ClassId} {A : Nat → Prop} {ad : Nat → Nat} {hh : Nat → Nat} {aa : Nat → Nat → Nat} {pa : Nat → Nat} {za zv : Nat → Nat} (K : (String ⊕ Int32) × FS → Prop) (E : mE D cy RX9 cX9_dismiss 2 (some .int) wsX9_dismiss A p s m args meth c) (hfl : l.stackTraces = false) (hex : ∀ x ∈ c.exceptionTable.toList, False) (hZ : mZ za zv A s s.heap)
     (u : FS) (H : Heap) (locs : List Loc) (ls : Array Slot) (hl : lv_has ls 2 []) (hP : va_P D vwCl (wF cy ad hh aa pa u) H) (hD : va_D A (wF cy ad hh aa pa u)) (hS : va_S A s.heap H locs) (h1 : Ok (fX9_dismiss_b10 u) K) :
    kWx p l e rmX9_dismiss s m args below meth c H locs (va_Qi (fun r q => K (.inr r, q)) (fun q => kPost D A (wF cy ad hh aa pa q)) A) (vx_X (fun _ : FS => True) (fun E q t => K (.inl E, q) ∧ kPost D A (wF cy ad hh aa pa q) t) A) A 10 ls [] := by
  obtain ⟨hx, hb, hr, hml, hown, hts, hlocks, hK, hA⟩ := id E
  unfold fX9_dismiss_b10 at h1
  exact kx_throw (names := ["java/lang/RuntimeException", "java/lang/Exception"]) (text := "car") (sa := za 4) hx hb hfl hml hown (by decide) (by decide) (hts _ (List.mem_of_getElem? (i := 1) rfl)) (hts _ (List.mem_of_getElem? (i := 2) rfl)) (k_site hZ 4 (by decide)) (vx_hat (fun w h => hts w (xaX9_dismiss_123 w h)) xbRX9_123 (hZ.cast (by decide))) xgRX9_119_123 hZ hK hP hD hS hl.1 dX9_dismiss_10 dX9_dismiss_13 dX9_dismiss_14 dX9_dismiss_16 dX9_dismiss_19 hex hlocks h1 (Nat.le_of_ble_eq_true rfl) (Nat.le_of_ble_eq_true rfl) (Nat.le_of_ble_eq_true rfl) (Nat.le_of_ble_eq_true rfl)
def fX9_dismiss_b0 (x1 : Int32) (u : FS) : Option ((String ⊕ Int32) × FS) :=
  (if x1 < 0 then fX9_dismiss_b10 u else (if x1 < 60 then bnd2 (fX9_doDismiss x1 u) (fun r22 u22 => some (.inr r22, u22)) else fX9_dismiss_b10 u))
set_option maxHeartbeats 4000000 in
set_option maxRecDepth 100000 in
theorem tX9_dismiss_b0 {p : Program} {l : Launch} {e : Env} {s : State} {m : MethodId} {args : Array Value} {below : List Frame} {meth : Method} {c : Code} {D : va_G} {cy : Nat → ClassId} {A : Nat → Prop} {ad : Nat → Nat} {hh : Nat → Nat} {aa : Nat → Nat → Nat} {pa : Nat → Nat} {za zv : Nat → Nat} (K : (String ⊕ Int32) × FS → Prop) (E : mE D cy RX9 cX9_dismiss 2 (some .int) wsX9_dismiss A p s m args meth c) (hfl : l.stackTraces = false) (hex : ∀ x ∈ c.exceptionTable.toList, False) (hZ : mZ za zv A s s.heap)
     (x1 : Int32) (u : FS) (H : Heap) (locs : List Loc) (ls : Array Slot) (hl : lv_has ls 2 [(0, .ref (ad 0)), (1, .int x1)]) (hP : va_P D vwCl (wF cy ad hh aa pa u) H) (hD : va_D A (wF cy ad hh aa pa u)) (hS : va_S A s.heap H locs) (h1 : Ok (fX9_dismiss_b0 x1 u) K) :
    kWx p l e rmX9_dismiss s m args below meth c H locs (va_Qi (fun r q => K (.inr r, q)) (fun q => kPost D A (wF cy ad hh aa pa q)) A) (vx_X (fun _ : FS => True) (fun E q t => K (.inl E, q) ∧ kPost D A (wF cy ad hh aa pa q) t) A) A 0 ls [] := by
  obtain ⟨hx, hb, hr, hml, hown, hts, hlocks, hK, hA⟩ := id E
  unfold fX9_dismiss_b0 at h1
  refine lv_iload_n hx hb dX9_dismiss_0 rfl (lv_at hl 1 rfl) ?_
  refine lv_if_lt (tgt := 10) hx hb dX9_dismiss_1 (by decide) (fun c1 => ?_) (fun c1 => ?_)
  · replace h1 := Ok.pos c1 h1
    exact tX9_dismiss_b10 K E hfl hex hZ u H locs ls (lv_sub hl [] rfl) hP hD hS h1
  · replace h1 := Ok.neg c1 h1
    refine lv_iload_n hx hb dX9_dismiss_4 rfl (lv_at hl 1 rfl) ?_
    refine lv_bipush (v := 60) hx hb dX9_dismiss_5 rfl ?_
    refine lv_icmp_lt (tgt := 20) hx hb dX9_dismiss_7 (by decide) (fun c7 => ?_) (fun c7 => ?_)
    · replace h1 := Ok.pos c7 h1
      refine lv_aload_n hx hb dX9_dismiss_20 rfl (lv_at hl 0 rfl) ?_
      refine lv_iload_n hx hb dX9_dismiss_21 rfl (lv_at hl 1 rfl) ?_
      refine kc_iV0 (b := (ad 0)) (As := [.int x1]) (rest := []) h1 ⟨hx, hb, hml, hown, hts⟩ (cX9_doDismissM l D cy ad hh aa pa H.size u x1) (cwV 1 hts gX9_dismiss_X9_doDismiss rfl rfl rfl hdX9_doDismiss ⟨Nat.le_of_ble_eq_true rfl, Nat.le_of_ble_eq_true rfl⟩) hK hP hD hS hA (q0 := 0) rfl rfl rfl hl.1 rfl (Nat.le_of_ble_eq_true rfl) dX9_dismiss_22 ⟨Nat.zero_le _, Nat.zero_le _⟩ (fun r22 u22 H locs h1 hP hD hS => ?_)
      exact kret_x hx hb hr hlocks hP hD hS h1 dX9_dismiss_25
    · replace h1 := Ok.neg c7 h1
      exact tX9_dismiss_b10 K E hfl hex hZ u H locs ls (lv_sub hl [] rfl) hP hD hS h1
def fX9_dismiss (p1 : Int32) (u : FS) : Option ((String ⊕ Int32) × FS) := fX9_dismiss_b0 p1 u
set_option maxHeartbeats 4000000 in
set_option maxRecDepth 100000 in
theorem cX9_dismissM (l : Launch) (hfl : l.stackTraces = false) (D : va_G) (cy : Nat → ClassId) (za zv : Nat → Nat) (ad : Nat → Nat) (hh : Nat → Nat) (aa : Nat → Nat → Nat) (pa : Nat → Nat) (sz : Nat) (u : FS) (p1 : Int32) : ∀ (K : (String ⊕ Int32) × FS → Prop), Ok (fX9_dismiss p1 u) K → vx_Met l yX9_dismiss wsX9_dismiss rmX9_dismiss (va_Pc [.ref (ad 0), .int p1] (kPreZ D cy za zv sz (wF cy ad hh aa pa u))) (va_Qi (fun r q => K (.inr r, q)) (fun q => kPost D (va_A (wF cy ad hh aa pa u) sz) (wF cy ad hh aa pa q)) (va_A (wF cy ad hh aa pa u) sz)) (vx_X (fun _ : FS => True) (fun E q t => K (.inl E, q) ∧ kPost D (va_A (wF cy ad hh aa pa u) sz) (wF cy ad hh aa pa q) t) (va_A (wF cy ad hh aa pa u) sz)) 1 6 (va_A (wF cy ad hh aa pa u) sz) := by
  intro K h1
  refine vx_ofW (cc := cX9_dismiss) (maxL := 2) (ret := (some .int)) (by decide) rfl ?_
  intro p e s m args below meth c s₁ B hml hex hv
  obtain ⟨rfl, ⟨hsz, hP, hK, hD0⟩, hZ⟩ := hv
  subst hsz
  have E : mE D cy RX9 cX9_dismiss 2 (some .int) wsX9_dismiss (va_A (wF cy ad hh aa pa u) s.heap.size) p s m _ meth c := ⟨B.exec, B.bytes, B.returns, hml, findClass_of_methodNamed B.named, atoms_spec (ws := wsX9_dismiss) B.pre, B.notSynchronized, hK, fun q h => Or.inr h⟩
  have hl := lv_entry ([.ref (ad 0), .int p1]) (n := 2) (Nat.le_of_ble_eq_true rfl)
  rw [lg_entry_eq]
  generalize (lg_sl ([.ref (ad 0), .int p1]) ++ List.replicate (2 - (lg_sl ([.ref (ad 0), .int p1])).length) Slot.unset).toArray = ls at hl ⊢
  exact tX9_dismiss_b0 K E hfl hex hZ p1 u _ _ _ hl hP hD0.self va_S.rf h1
-- X9_unload
theorem xaX9_unload_123 : ∀ w ∈ (vx_atS RX9 123 "java/lang/IndexOutOfBoundsException" ["java/lang/RuntimeException", "java/lang/Exception"]).filter goodWord, w ∈ wsX9_unload := fun w h => List.mem_cons_of_mem _ (List.mem_append_right _ h)
abbrev rmX9_unload : Room := { frames := 6, cells := 1, slots := 6, locals := 125 }
def fX9_unload_b9 (u : FS) : Option ((String ⊕ Int32) × FS) :=
  some (.inl "java/lang/IndexOutOfBoundsException", u)
set_option maxHeartbeats 4000000 in
set_option maxRecDepth 100000 in
theorem tX9_unload_b9 {p : Program} {l : Launch} {e : Env} {s : State} {m : MethodId} {args : Array Value} {below : List Frame} {meth : Method} {c : Code} {D : va_G} {cy : Nat → ClassId} {A : Nat → Prop} {ad : Nat → Nat} {hh : Nat → Nat} {aa : Nat → Nat → Nat} {pa : Nat → Nat} {za zv : Nat → Nat} (K : (String ⊕ Int32) × FS → Prop) (E : mE D cy RX9 cX9_unload 2 (some .int) wsX9_unload A p s m args meth c) (hfl : l.stackTraces = false) (hex : ∀ x ∈ c.exceptionTable.toList, False) (hZ : mZ za zv A s s.heap)
     (u : FS) (H : Heap) (locs : List Loc) (ls : Array Slot) (hl : lv_has ls 2 []) (hP : va_P D vwCl (wF cy ad hh aa pa u) H) (hD : va_D A (wF cy ad hh aa pa u)) (hS : va_S A s.heap H locs) (h1 : Ok (fX9_unload_b9 u) K) :
    kWx p l e rmX9_unload s m args below meth c H locs (va_Qi (fun r q => K (.inr r, q)) (fun q => kPost D A (wF cy ad hh aa pa q)) A) (vx_X (fun _ : FS => True) (fun E q t => K (.inl E, q) ∧ kPost D A (wF cy ad hh aa pa q) t) A) A 9 ls [] := by
  obtain ⟨hx, hb, hr, hml, hown, hts, hlocks, hK, hA⟩ := id E
  unfold fX9_unload_b9 at h1
  exact kx_throw (names := ["java/lang/RuntimeException", "java/lang/Exception"]) (text := "lane") (sa := za 5) hx hb hfl hml hown (by decide) (by decide) (hts _ (List.mem_of_getElem? (i := 1) rfl)) (hts _ (List.mem_of_getElem? (i := 2) rfl)) (k_site hZ 5 (by decide)) (vx_hat (fun w h => hts w (xaX9_unload_123 w h)) xbRX9_123 (hZ.cast (by decide))) xgRX9_119_123 hZ hK hP hD hS hl.1 dX9_unload_9 dX9_unload_12 dX9_unload_13 dX9_unload_15 dX9_unload_18 hex hlocks h1 (Nat.le_of_ble_eq_true rfl) (Nat.le_of_ble_eq_true rfl) (Nat.le_of_ble_eq_true rfl) (Nat.le_of_ble_eq_true rfl)
def fX9_unload_b0 (x1 : Int32) (u : FS) : Option ((String ⊕ Int32) × FS) :=
  (if x1 < 0 then fX9_unload_b9 u else (if x1 < 3 then bnd2 (fX9_doUnload x1 u) (fun r21 u21 => some (.inr r21, u21)) else fX9_unload_b9 u))
set_option maxHeartbeats 4000000 in
set_option maxRecDepth 100000 in
theorem tX9_unload_b0 {p : Program} {l : Launch} {e : Env} {s : State} {m : MethodId} {args : Array Value} {below : List Frame} {meth : Method} {c : Code} {D : va_G} {cy : Nat → ClassId} {A : Nat → Prop} {ad : Nat → Nat} {hh : Nat → Nat} {aa : Nat → Nat → Nat} {pa : Nat → Nat} {za zv : Nat → Nat} (K : (String ⊕ Int32) × FS → Prop) (E : mE D cy RX9 cX9_unload 2 (some .int) wsX9_unload A p s m args meth c) (hfl : l.stackTraces = false) (hex : ∀ x ∈ c.exceptionTable.toList, False) (hZ : mZ za zv A s s.heap)
     (x1 : Int32) (u : FS) (H : Heap) (locs : List Loc) (ls : Array Slot) (hl : lv_has ls 2 [(0, .ref (ad 0)), (1, .int x1)]) (hP : va_P D vwCl (wF cy ad hh aa pa u) H) (hD : va_D A (wF cy ad hh aa pa u)) (hS : va_S A s.heap H locs) (h1 : Ok (fX9_unload_b0 x1 u) K) :
    kWx p l e rmX9_unload s m args below meth c H locs (va_Qi (fun r q => K (.inr r, q)) (fun q => kPost D A (wF cy ad hh aa pa q)) A) (vx_X (fun _ : FS => True) (fun E q t => K (.inl E, q) ∧ kPost D A (wF cy ad hh aa pa q) t) A) A 0 ls [] := by
  obtain ⟨hx, hb, hr, hml, hown, hts, hlocks, hK, hA⟩ := id E
  unfold fX9_unload_b0 at h1
  refine lv_iload_n hx hb dX9_unload_0 rfl (lv_at hl 1 rfl) ?_
  refine lv_if_lt (tgt := 9) hx hb dX9_unload_1 (by decide) (fun c1 => ?_) (fun c1 => ?_)
  · replace h1 := Ok.pos c1 h1
    exact tX9_unload_b9 K E hfl hex hZ u H locs ls (lv_sub hl [] rfl) hP hD hS h1
  · replace h1 := Ok.neg c1 h1
    refine lv_iload_n hx hb dX9_unload_4 rfl (lv_at hl 1 rfl) ?_
    refine lv_iconst (v := 3) hx hb dX9_unload_5 rfl ?_
    refine lv_icmp_lt (tgt := 19) hx hb dX9_unload_6 (by decide) (fun c6 => ?_) (fun c6 => ?_)
    · replace h1 := Ok.pos c6 h1
      refine lv_aload_n hx hb dX9_unload_19 rfl (lv_at hl 0 rfl) ?_
      refine lv_iload_n hx hb dX9_unload_20 rfl (lv_at hl 1 rfl) ?_
      refine kc_iV0 (b := (ad 0)) (As := [.int x1]) (rest := []) h1 ⟨hx, hb, hml, hown, hts⟩ (cX9_doUnloadM l D cy ad hh aa pa H.size u x1) (cwV 1 hts gX9_unload_X9_doUnload rfl rfl rfl hdX9_doUnload ⟨Nat.le_of_ble_eq_true rfl, Nat.le_of_ble_eq_true rfl⟩) hK hP hD hS hA (q0 := 0) rfl rfl rfl hl.1 rfl (Nat.le_of_ble_eq_true rfl) dX9_unload_21 ⟨Nat.zero_le _, Nat.zero_le _⟩ (fun r21 u21 H locs h1 hP hD hS => ?_)
      exact kret_x hx hb hr hlocks hP hD hS h1 dX9_unload_24
    · replace h1 := Ok.neg c6 h1
      exact tX9_unload_b9 K E hfl hex hZ u H locs ls (lv_sub hl [] rfl) hP hD hS h1
def fX9_unload (p1 : Int32) (u : FS) : Option ((String ⊕ Int32) × FS) := fX9_unload_b0 p1 u
set_option maxHeartbeats 4000000 in
set_option maxRecDepth 100000 in
theorem cX9_unloadM (l : Launch) (hfl : l.stackTraces = false) (D : va_G) (cy : Nat → ClassId) (za zv : Nat → Nat) (ad : Nat → Nat) (hh : Nat → Nat) (aa : Nat → Nat → Nat) (pa : Nat → Nat) (sz : Nat) (u : FS) (p1 : Int32) : ∀ (K : (String ⊕ Int32) × FS → Prop), Ok (fX9_unload p1 u) K → vx_Met l yX9_unload wsX9_unload rmX9_unload (va_Pc [.ref (ad 0), .int p1] (kPreZ D cy za zv sz (wF cy ad hh aa pa u))) (va_Qi (fun r q => K (.inr r, q)) (fun q => kPost D (va_A (wF cy ad hh aa pa u) sz) (wF cy ad hh aa pa q)) (va_A (wF cy ad hh aa pa u) sz)) (vx_X (fun _ : FS => True) (fun E q t => K (.inl E, q) ∧ kPost D (va_A (wF cy ad hh aa pa u) sz) (wF cy ad hh aa pa q) t) (va_A (wF cy ad hh aa pa u) sz)) 1 6 (va_A (wF cy ad hh aa pa u) sz) := by
  intro K h1
  refine vx_ofW (cc := cX9_unload) (maxL := 2) (ret := (some .int)) (by decide) rfl ?_
  intro p e s m args below meth c s₁ B hml hex hv
  obtain ⟨rfl, ⟨hsz, hP, hK, hD0⟩, hZ⟩ := hv
  subst hsz
  have E : mE D cy RX9 cX9_unload 2 (some .int) wsX9_unload (va_A (wF cy ad hh aa pa u) s.heap.size) p s m _ meth c := ⟨B.exec, B.bytes, B.returns, hml, findClass_of_methodNamed B.named, atoms_spec (ws := wsX9_unload) B.pre, B.notSynchronized, hK, fun q h => Or.inr h⟩
  have hl := lv_entry ([.ref (ad 0), .int p1]) (n := 2) (Nat.le_of_ble_eq_true rfl)
  rw [lg_entry_eq]
  generalize (lg_sl ([.ref (ad 0), .int p1]) ++ List.replicate (2 - (lg_sl ([.ref (ad 0), .int p1])).length) Slot.unset).toArray = ls at hl ⊢
  exact tX9_unload_b0 K E hfl hex hZ p1 u _ _ _ hl hP hD0.self va_S.rf h1
-- X9_crank
theorem xaX9_crank_75 : ∀ w ∈ (vx_atS RX9 75 "java/lang/IllegalArgumentException" ["java/lang/RuntimeException", "java/lang/Exception"]).filter goodWord, w ∈ wsX9_crank := fun w h => List.mem_cons_of_mem _ (List.mem_append_right _ h)
abbrev rmX9_crank : Room := { frames := 6, cells := 1, slots := 6, locals := 124 }
def fX9_crank_b12 (u : FS) : Option ((String ⊕ Int32) × FS) :=
  some (.inl "java/lang/IllegalArgumentException", u)
set_option maxHeartbeats 4000000 in
set_option maxRecDepth 100000 in
theorem tX9_crank_b12 {p : Program} {l : Launch} {e : Env} {s : State} {m : MethodId} {args : Array Value} {below : List Frame} {meth : Method} {c : Code} {D : va_G} {cy : Nat → ClassId} {A : Nat → Prop} {ad : Nat → Nat} {hh : Nat → Nat} {aa : Nat → Nat → Nat} {pa : Nat → Nat} {za zv : Nat → Nat} (K : (String ⊕ Int32) × FS → Prop) (E : mE D cy RX9 cX9_crank 2 (some .int) wsX9_crank A p s m args meth c) (hfl : l.stackTraces = false) (hex : ∀ x ∈ c.exceptionTable.toList, False) (hZ : mZ za zv A s s.heap)
     (u : FS) (H : Heap) (locs : List Loc) (ls : Array Slot) (hl : lv_has ls 2 []) (hP : va_P D vwCl (wF cy ad hh aa pa u) H) (hD : va_D A (wF cy ad hh aa pa u)) (hS : va_S A s.heap H locs) (h1 : Ok (fX9_crank_b12 u) K) :
    kWx p l e rmX9_crank s m args below meth c H locs (va_Qi (fun r q => K (.inr r, q)) (fun q => kPost D A (wF cy ad hh aa pa q)) A) (vx_X (fun _ : FS => True) (fun E q t => K (.inl E, q) ∧ kPost D A (wF cy ad hh aa pa q) t) A) A 12 ls [] := by
  obtain ⟨hx, hb, hr, hml, hown, hts, hlocks, hK, hA⟩ := id E
  unfold fX9_crank_b12 at h1
  exact kx_throw (names := ["java/lang/RuntimeException", "java/lang/Exception"]) (text := "by") (sa := za 11) hx hb hfl hml hown (by decide) (by decide) (hts _ (List.mem_of_getElem? (i := 1) rfl)) (hts _ (List.mem_of_getElem? (i := 2) rfl)) (k_site hZ 11 (by decide)) (vx_hat (fun w h => hts w (xaX9_crank_75 w h)) xbRX9_75 (hZ.cast (by decide))) xgRX9_72_75 hZ hK hP hD hS hl.1 dX9_crank_12 dX9_crank_15 dX9_crank_16 dX9_crank_18 dX9_crank_21 hex hlocks h1 (Nat.le_of_ble_eq_true rfl) (Nat.le_of_ble_eq_true rfl) (Nat.le_of_ble_eq_true rfl) (Nat.le_of_ble_eq_true rfl)
def fX9_crank_b0 (x1 : Int32) (u : FS) : Option ((String ⊕ Int32) × FS) :=
  (if x1 < (-20) then fX9_crank_b12 u else (if x1 ≤ 20 then bnd2 (fX9_doCrank x1 u) (fun r24 u24 => some (.inr r24, u24)) else fX9_crank_b12 u))
set_option maxHeartbeats 4000000 in
set_option maxRecDepth 100000 in
theorem tX9_crank_b0 {p : Program} {l : Launch} {e : Env} {s : State} {m : MethodId} {args : Array Value} {below : List Frame} {meth : Method} {c : Code} {D : va_G} {cy : Nat → ClassId} {A : Nat → Prop} {ad : Nat → Nat} {hh : Nat → Nat} {aa : Nat → Nat → Nat} {pa : Nat → Nat} {za zv : Nat → Nat} (K : (String ⊕ Int32) × FS → Prop) (E : mE D cy RX9 cX9_crank 2 (some .int) wsX9_crank A p s m args meth c) (hfl : l.stackTraces = false) (hex : ∀ x ∈ c.exceptionTable.toList, False) (hZ : mZ za zv A s s.heap)
     (x1 : Int32) (u : FS) (H : Heap) (locs : List Loc) (ls : Array Slot) (hl : lv_has ls 2 [(0, .ref (ad 0)), (1, .int x1)]) (hP : va_P D vwCl (wF cy ad hh aa pa u) H) (hD : va_D A (wF cy ad hh aa pa u)) (hS : va_S A s.heap H locs) (h1 : Ok (fX9_crank_b0 x1 u) K) :
    kWx p l e rmX9_crank s m args below meth c H locs (va_Qi (fun r q => K (.inr r, q)) (fun q => kPost D A (wF cy ad hh aa pa q)) A) (vx_X (fun _ : FS => True) (fun E q t => K (.inl E, q) ∧ kPost D A (wF cy ad hh aa pa q) t) A) A 0 ls [] := by
  obtain ⟨hx, hb, hr, hml, hown, hts, hlocks, hK, hA⟩ := id E
  unfold fX9_crank_b0 at h1
  refine lv_iload_n hx hb dX9_crank_0 rfl (lv_at hl 1 rfl) ?_
  refine lv_bipush (v := (-20)) hx hb dX9_crank_1 rfl ?_
  refine lv_icmp_lt (tgt := 12) hx hb dX9_crank_3 (by decide) (fun c3 => ?_) (fun c3 => ?_)
  · replace h1 := Ok.pos c3 h1
    exact tX9_crank_b12 K E hfl hex hZ u H locs ls (lv_sub hl [] rfl) hP hD hS h1
  · replace h1 := Ok.neg c3 h1
    refine lv_iload_n hx hb dX9_crank_6 rfl (lv_at hl 1 rfl) ?_
    refine lv_bipush (v := 20) hx hb dX9_crank_7 rfl ?_
    refine lv_icmp_le (tgt := 22) hx hb dX9_crank_9 (by decide) (fun c9 => ?_) (fun c9 => ?_)
    · replace h1 := Ok.pos c9 h1
      refine lv_aload_n hx hb dX9_crank_22 rfl (lv_at hl 0 rfl) ?_
      refine lv_iload_n hx hb dX9_crank_23 rfl (lv_at hl 1 rfl) ?_
      refine kc_iV0 (b := (ad 0)) (As := [.int x1]) (rest := []) h1 ⟨hx, hb, hml, hown, hts⟩ (cX9_doCrankM l D cy ad hh aa pa H.size u x1) (cwV 1 hts gX9_crank_X9_doCrank rfl rfl rfl hdX9_doCrank ⟨Nat.le_of_ble_eq_true rfl, Nat.le_of_ble_eq_true rfl⟩) hK hP hD hS hA (q0 := 0) rfl rfl rfl hl.1 rfl (Nat.le_of_ble_eq_true rfl) dX9_crank_24 ⟨Nat.zero_le _, Nat.zero_le _⟩ (fun r24 u24 H locs h1 hP hD hS => ?_)
      exact kret_x hx hb hr hlocks hP hD hS h1 dX9_crank_27
    · replace h1 := Ok.neg c9 h1
      exact tX9_crank_b12 K E hfl hex hZ u H locs ls (lv_sub hl [] rfl) hP hD hS h1
def fX9_crank (p1 : Int32) (u : FS) : Option ((String ⊕ Int32) × FS) := fX9_crank_b0 p1 u
set_option maxHeartbeats 4000000 in
set_option maxRecDepth 100000 in
theorem cX9_crankM (l : Launch) (hfl : l.stackTraces = false) (D : va_G) (cy : Nat → ClassId) (za zv : Nat → Nat) (ad : Nat → Nat) (hh : Nat → Nat) (aa : Nat → Nat → Nat) (pa : Nat → Nat) (sz : Nat) (u : FS) (p1 : Int32) : ∀ (K : (String ⊕ Int32) × FS → Prop), Ok (fX9_crank p1 u) K → vx_Met l yX9_crank wsX9_crank rmX9_crank (va_Pc [.ref (ad 0), .int p1] (kPreZ D cy za zv sz (wF cy ad hh aa pa u))) (va_Qi (fun r q => K (.inr r, q)) (fun q => kPost D (va_A (wF cy ad hh aa pa u) sz) (wF cy ad hh aa pa q)) (va_A (wF cy ad hh aa pa u) sz)) (vx_X (fun _ : FS => True) (fun E q t => K (.inl E, q) ∧ kPost D (va_A (wF cy ad hh aa pa u) sz) (wF cy ad hh aa pa q) t) (va_A (wF cy ad hh aa pa u) sz)) 1 6 (va_A (wF cy ad hh aa pa u) sz) := by
  intro K h1
  refine vx_ofW (cc := cX9_crank) (maxL := 2) (ret := (some .int)) (by decide) rfl ?_
  intro p e s m args below meth c s₁ B hml hex hv
  obtain ⟨rfl, ⟨hsz, hP, hK, hD0⟩, hZ⟩ := hv
  subst hsz
  have E : mE D cy RX9 cX9_crank 2 (some .int) wsX9_crank (va_A (wF cy ad hh aa pa u) s.heap.size) p s m _ meth c := ⟨B.exec, B.bytes, B.returns, hml, findClass_of_methodNamed B.named, atoms_spec (ws := wsX9_crank) B.pre, B.notSynchronized, hK, fun q h => Or.inr h⟩
  have hl := lv_entry ([.ref (ad 0), .int p1]) (n := 2) (Nat.le_of_ble_eq_true rfl)
  rw [lg_entry_eq]
  generalize (lg_sl ([.ref (ad 0), .int p1]) ++ List.replicate (2 - (lg_sl ([.ref (ad 0), .int p1])).length) Slot.unset).toArray = ls at hl ⊢
  exact tX9_crank_b0 K E hfl hex hZ p1 u _ _ _ hl hP hD0.self va_S.rf h1
-- X9_setWinch
theorem xaX9_setWinch_75 : ∀ w ∈ (vx_atS RX9 75 "java/lang/IllegalArgumentException" ["java/lang/RuntimeException", "java/lang/Exception"]).filter goodWord, w ∈ wsX9_setWinch := fun w h => List.mem_cons_of_mem _ (List.mem_append_right _ h)
abbrev rmX9_setWinch : Room := { frames := 6, cells := 1, slots := 6, locals := 126 }
def fX9_setWinch_b11 (u : FS) : Option ((String ⊕ Int32) × FS) :=
  some (.inl "java/lang/IllegalArgumentException", u)
set_option maxHeartbeats 4000000 in
set_option maxRecDepth 100000 in
theorem tX9_setWinch_b11 {p : Program} {l : Launch} {e : Env} {s : State} {m : MethodId} {args : Array Value} {below : List Frame} {meth : Method} {c : Code} {D : va_G} {cy : Nat → ClassId} {A : Nat → Prop} {ad : Nat → Nat} {hh : Nat → Nat} {aa : Nat → Nat → Nat} {pa : Nat → Nat} {za zv : Nat → Nat} (K : (String ⊕ Int32) × FS → Prop) (E : mE D cy RX9 cX9_setWinch 4 (some .int) wsX9_setWinch A p s m args meth c) (hfl : l.stackTraces = false) (hex : ∀ x ∈ c.exceptionTable.toList, False) (hZ : mZ za zv A s s.heap)
     (u : FS) (H : Heap) (locs : List Loc) (ls : Array Slot) (hl : lv_has ls 4 []) (hP : va_P D vwCl (wF cy ad hh aa pa u) H) (hD : va_D A (wF cy ad hh aa pa u)) (hS : va_S A s.heap H locs) (h1 : Ok (fX9_setWinch_b11 u) K) :
    kWx p l e rmX9_setWinch s m args below meth c H locs (va_Qi (fun r q => K (.inr r, q)) (fun q => kPost D A (wF cy ad hh aa pa q)) A) (vx_X (fun _ : FS => True) (fun E q t => K (.inl E, q) ∧ kPost D A (wF cy ad hh aa pa q) t) A) A 11 ls [] := by
  obtain ⟨hx, hb, hr, hml, hown, hts, hlocks, hK, hA⟩ := id E
  unfold fX9_setWinch_b11 at h1
  exact kx_throw (names := ["java/lang/RuntimeException", "java/lang/Exception"]) (text := "pull") (sa := za 12) hx hb hfl hml hown (by decide) (by decide) (hts _ (List.mem_of_getElem? (i := 1) rfl)) (hts _ (List.mem_of_getElem? (i := 2) rfl)) (k_site hZ 12 (by decide)) (vx_hat (fun w h => hts w (xaX9_setWinch_75 w h)) xbRX9_75 (hZ.cast (by decide))) xgRX9_72_75 hZ hK hP hD hS hl.1 dX9_setWinch_11 dX9_setWinch_14 dX9_setWinch_15 dX9_setWinch_17 dX9_setWinch_20 hex hlocks h1 (Nat.le_of_ble_eq_true rfl) (Nat.le_of_ble_eq_true rfl) (Nat.le_of_ble_eq_true rfl) (Nat.le_of_ble_eq_true rfl)
def fX9_setWinch_b31 (u : FS) : Option ((String ⊕ Int32) × FS) :=
  some (.inl "java/lang/IllegalArgumentException", u)
set_option maxHeartbeats 4000000 in
set_option maxRecDepth 100000 in
theorem tX9_setWinch_b31 {p : Program} {l : Launch} {e : Env} {s : State} {m : MethodId} {args : Array Value} {below : List Frame} {meth : Method} {c : Code} {D : va_G} {cy : Nat → ClassId} {A : Nat → Prop} {ad : Nat → Nat} {hh : Nat → Nat} {aa : Nat → Nat → Nat} {pa : Nat → Nat} {za zv : Nat → Nat} (K : (String ⊕ Int32) × FS → Prop) (E : mE D cy RX9 cX9_setWinch 4 (some .int) wsX9_setWinch A p s m args meth c) (hfl : l.stackTraces = false) (hex : ∀ x ∈ c.exceptionTable.toList, False) (hZ : mZ za zv A s s.heap)
     (u : FS) (H : Heap) (locs : List Loc) (ls : Array Slot) (hl : lv_has ls 4 []) (hP : va_P D vwCl (wF cy ad hh aa pa u) H) (hD : va_D A (wF cy ad hh aa pa u)) (hS : va_S A s.heap H locs) (h1 : Ok (fX9_setWinch_b31 u) K) :
    kWx p l e rmX9_setWinch s m args below meth c H locs (va_Qi (fun r q => K (.inr r, q)) (fun q => kPost D A (wF cy ad hh aa pa q)) A) (vx_X (fun _ : FS => True) (fun E q t => K (.inl E, q) ∧ kPost D A (wF cy ad hh aa pa q) t) A) A 31 ls [] := by
  obtain ⟨hx, hb, hr, hml, hown, hts, hlocks, hK, hA⟩ := id E
  unfold fX9_setWinch_b31 at h1
  exact kx_throw (names := ["java/lang/RuntimeException", "java/lang/Exception"]) (text := "slack") (sa := za 13) hx hb hfl hml hown (by decide) (by decide) (hts _ (List.mem_of_getElem? (i := 1) rfl)) (hts _ (List.mem_of_getElem? (i := 2) rfl)) (k_site hZ 13 (by decide)) (vx_hat (fun w h => hts w (xaX9_setWinch_75 w h)) xbRX9_75 (hZ.cast (by decide))) xgRX9_72_75 hZ hK hP hD hS hl.1 dX9_setWinch_31 dX9_setWinch_34 dX9_setWinch_35 dX9_setWinch_37 dX9_setWinch_40 hex hlocks h1 (Nat.le_of_ble_eq_true rfl) (Nat.le_of_ble_eq_true rfl) (Nat.le_of_ble_eq_true rfl) (Nat.le_of_ble_eq_true rfl)
def fX9_setWinch_b51 (u : FS) : Option ((String ⊕ Int32) × FS) :=
  some (.inl "java/lang/IllegalArgumentException", u)
set_option maxHeartbeats 4000000 in
set_option maxRecDepth 100000 in
theorem tX9_setWinch_b51 {p : Program} {l : Launch} {e : Env} {s : State} {m : MethodId} {args : Array Value} {below : List Frame} {meth : Method} {c : Code} {D : va_G} {cy : Nat → ClassId} {A : Nat → Prop} {ad : Nat → Nat} {hh : Nat → Nat} {aa : Nat → Nat → Nat} {pa : Nat → Nat} {za zv : Nat → Nat} (K : (String ⊕ Int32) × FS → Prop) (E : mE D cy RX9 cX9_setWinch 4 (some .int) wsX9_setWinch A p s m args meth c) (hfl : l.stackTraces = false) (hex : ∀ x ∈ c.exceptionTable.toList, False) (hZ : mZ za zv A s s.heap)
     (u : FS) (H : Heap) (locs : List Loc) (ls : Array Slot) (hl : lv_has ls 4 []) (hP : va_P D vwCl (wF cy ad hh aa pa u) H) (hD : va_D A (wF cy ad hh aa pa u)) (hS : va_S A s.heap H locs) (h1 : Ok (fX9_setWinch_b51 u) K) :
    kWx p l e rmX9_setWinch s m args below meth c H locs (va_Qi (fun r q => K (.inr r, q)) (fun q => kPost D A (wF cy ad hh aa pa q)) A) (vx_X (fun _ : FS => True) (fun E q t => K (.inl E, q) ∧ kPost D A (wF cy ad hh aa pa q) t) A) A 51 ls [] := by
  obtain ⟨hx, hb, hr, hml, hown, hts, hlocks, hK, hA⟩ := id E
  unfold fX9_setWinch_b51 at h1
  exact kx_throw (names := ["java/lang/RuntimeException", "java/lang/Exception"]) (text := "wake") (sa := za 14) hx hb hfl hml hown (by decide) (by decide) (hts _ (List.mem_of_getElem? (i := 1) rfl)) (hts _ (List.mem_of_getElem? (i := 2) rfl)) (k_site hZ 14 (by decide)) (vx_hat (fun w h => hts w (xaX9_setWinch_75 w h)) xbRX9_75 (hZ.cast (by decide))) xgRX9_72_75 hZ hK hP hD hS hl.1 dX9_setWinch_51 dX9_setWinch_54 dX9_setWinch_55 dX9_setWinch_57 dX9_setWinch_60 hex hlocks h1 (Nat.le_of_ble_eq_true rfl) (Nat.le_of_ble_eq_true rfl) (Nat.le_of_ble_eq_true rfl) (Nat.le_of_ble_eq_true rfl)
def fX9_setWinch_b0 (x1 : Int32) (x2 : Int32) (x3 : Int32) (u : FS) : Option ((String ⊕ Int32) × FS) :=
  (if x1 < 1 then fX9_setWinch_b11 u else (if x1 ≤ 20 then (if x2 < 0 then fX9_setWinch_b31 u else (if x2 ≤ 50 then (if x3 < 0 then fX9_setWinch_b51 u else (if x3 ≤ 20 then bnd2 (fX9_doSetWinch x1 x2 x3 u) (fun r65 u65 => some (.inr r65, u65)) else fX9_setWinch_b51 u)) else fX9_setWinch_b31 u)) else fX9_setWinch_b11 u))
set_option maxHeartbeats 4000000 in
set_option maxRecDepth 100000 in
theorem tX9_setWinch_b0 {p : Program} {l : Launch} {e : Env} {s : State} {m : MethodId} {args : Array Value} {below : List Frame} {meth : Method} {c : Code} {D : va_G} {cy : Nat → ClassId} {A : Nat → Prop} {ad : Nat → Nat} {hh : Nat → Nat} {aa : Nat → Nat → Nat} {pa : Nat → Nat} {za zv : Nat → Nat} (K : (String ⊕ Int32) × FS → Prop) (E : mE D cy RX9 cX9_setWinch 4 (some .int) wsX9_setWinch A p s m args meth c) (hfl : l.stackTraces = false) (hex : ∀ x ∈ c.exceptionTable.toList, False) (hZ : mZ za zv A s s.heap)
     (x1 : Int32) (x2 : Int32) (x3 : Int32) (u : FS) (H : Heap) (locs : List Loc) (ls : Array Slot) (hl : lv_has ls 4 [(0, .ref (ad 0)), (1, .int x1), (2, .int x2), (3, .int x3)]) (hP : va_P D vwCl (wF cy ad hh aa pa u) H) (hD : va_D A (wF cy ad hh aa pa u)) (hS : va_S A s.heap H locs) (h1 : Ok (fX9_setWinch_b0 x1 x2 x3 u) K) :
    kWx p l e rmX9_setWinch s m args below meth c H locs (va_Qi (fun r q => K (.inr r, q)) (fun q => kPost D A (wF cy ad hh aa pa q)) A) (vx_X (fun _ : FS => True) (fun E q t => K (.inl E, q) ∧ kPost D A (wF cy ad hh aa pa q) t) A) A 0 ls [] := by
  obtain ⟨hx, hb, hr, hml, hown, hts, hlocks, hK, hA⟩ := id E
  unfold fX9_setWinch_b0 at h1
  refine lv_iload_n hx hb dX9_setWinch_0 rfl (lv_at hl 1 rfl) ?_
  refine lv_iconst (v := 1) hx hb dX9_setWinch_1 rfl ?_
  refine lv_icmp_lt (tgt := 11) hx hb dX9_setWinch_2 (by decide) (fun c2 => ?_) (fun c2 => ?_)
  · replace h1 := Ok.pos c2 h1
    exact tX9_setWinch_b11 K E hfl hex hZ u H locs ls (lv_sub hl [] rfl) hP hD hS h1
  · replace h1 := Ok.neg c2 h1
    refine lv_iload_n hx hb dX9_setWinch_5 rfl (lv_at hl 1 rfl) ?_
    refine lv_bipush (v := 20) hx hb dX9_setWinch_6 rfl ?_
    refine lv_icmp_le (tgt := 21) hx hb dX9_setWinch_8 (by decide) (fun c8 => ?_) (fun c8 => ?_)
    · replace h1 := Ok.pos c8 h1
      refine lv_iload_n hx hb dX9_setWinch_21 rfl (lv_at hl 2 rfl) ?_
      refine lv_if_lt (tgt := 31) hx hb dX9_setWinch_22 (by decide) (fun c22 => ?_) (fun c22 => ?_)
      · replace h1 := Ok.pos c22 h1
        exact tX9_setWinch_b31 K E hfl hex hZ u H locs ls (lv_sub hl [] rfl) hP hD hS h1
      · replace h1 := Ok.neg c22 h1
        refine lv_iload_n hx hb dX9_setWinch_25 rfl (lv_at hl 2 rfl) ?_
        refine lv_bipush (v := 50) hx hb dX9_setWinch_26 rfl ?_
        refine lv_icmp_le (tgt := 41) hx hb dX9_setWinch_28 (by decide) (fun c28 => ?_) (fun c28 => ?_)
        · replace h1 := Ok.pos c28 h1
          refine lv_iload_n hx hb dX9_setWinch_41 rfl (lv_at hl 3 rfl) ?_
          refine lv_if_lt (tgt := 51) hx hb dX9_setWinch_42 (by decide) (fun c42 => ?_) (fun c42 => ?_)
          · replace h1 := Ok.pos c42 h1
            exact tX9_setWinch_b51 K E hfl hex hZ u H locs ls (lv_sub hl [] rfl) hP hD hS h1
          · replace h1 := Ok.neg c42 h1
            refine lv_iload_n hx hb dX9_setWinch_45 rfl (lv_at hl 3 rfl) ?_
            refine lv_bipush (v := 20) hx hb dX9_setWinch_46 rfl ?_
            refine lv_icmp_le (tgt := 61) hx hb dX9_setWinch_48 (by decide) (fun c48 => ?_) (fun c48 => ?_)
            · replace h1 := Ok.pos c48 h1
              refine lv_aload_n hx hb dX9_setWinch_61 rfl (lv_at hl 0 rfl) ?_
              refine lv_iload_n hx hb dX9_setWinch_62 rfl (lv_at hl 1 rfl) ?_
              refine lv_iload_n hx hb dX9_setWinch_63 rfl (lv_at hl 2 rfl) ?_
              refine lv_iload_n hx hb dX9_setWinch_64 rfl (lv_at hl 3 rfl) ?_
              refine kc_iV0 (b := (ad 0)) (As := [.int x1, .int x2, .int x3]) (rest := []) h1 ⟨hx, hb, hml, hown, hts⟩ (cX9_doSetWinchM l D cy ad hh aa pa H.size u x1 x2 x3) (cwV 3 hts gX9_setWinch_X9_doSetWinch rfl rfl rfl hdX9_doSetWinch ⟨Nat.le_of_ble_eq_true rfl, Nat.le_of_ble_eq_true rfl⟩) hK hP hD hS hA (q0 := 0) rfl rfl rfl hl.1 rfl (Nat.le_of_ble_eq_true rfl) dX9_setWinch_65 ⟨Nat.zero_le _, Nat.zero_le _⟩ (fun r65 u65 H locs h1 hP hD hS => ?_)
              exact kret_x hx hb hr hlocks hP hD hS h1 dX9_setWinch_68
            · replace h1 := Ok.neg c48 h1
              exact tX9_setWinch_b51 K E hfl hex hZ u H locs ls (lv_sub hl [] rfl) hP hD hS h1
        · replace h1 := Ok.neg c28 h1
          exact tX9_setWinch_b31 K E hfl hex hZ u H locs ls (lv_sub hl [] rfl) hP hD hS h1
    · replace h1 := Ok.neg c8 h1
      exact tX9_setWinch_b11 K E hfl hex hZ u H locs ls (lv_sub hl [] rfl) hP hD hS h1
def fX9_setWinch (p1 : Int32) (p2 : Int32) (p3 : Int32) (u : FS) : Option ((String ⊕ Int32) × FS) := fX9_setWinch_b0 p1 p2 p3 u
set_option maxHeartbeats 4000000 in
set_option maxRecDepth 100000 in
theorem cX9_setWinchM (l : Launch) (hfl : l.stackTraces = false) (D : va_G) (cy : Nat → ClassId) (za zv : Nat → Nat) (ad : Nat → Nat) (hh : Nat → Nat) (aa : Nat → Nat → Nat) (pa : Nat → Nat) (sz : Nat) (u : FS) (p1 : Int32) (p2 : Int32) (p3 : Int32) : ∀ (K : (String ⊕ Int32) × FS → Prop), Ok (fX9_setWinch p1 p2 p3 u) K → vx_Met l yX9_setWinch wsX9_setWinch rmX9_setWinch (va_Pc [.ref (ad 0), .int p1, .int p2, .int p3] (kPreZ D cy za zv sz (wF cy ad hh aa pa u))) (va_Qi (fun r q => K (.inr r, q)) (fun q => kPost D (va_A (wF cy ad hh aa pa u) sz) (wF cy ad hh aa pa q)) (va_A (wF cy ad hh aa pa u) sz)) (vx_X (fun _ : FS => True) (fun E q t => K (.inl E, q) ∧ kPost D (va_A (wF cy ad hh aa pa u) sz) (wF cy ad hh aa pa q) t) (va_A (wF cy ad hh aa pa u) sz)) 1 6 (va_A (wF cy ad hh aa pa u) sz) := by
  intro K h1
  refine vx_ofW (cc := cX9_setWinch) (maxL := 4) (ret := (some .int)) (by decide) rfl ?_
  intro p e s m args below meth c s₁ B hml hex hv
  obtain ⟨rfl, ⟨hsz, hP, hK, hD0⟩, hZ⟩ := hv
  subst hsz
  have E : mE D cy RX9 cX9_setWinch 4 (some .int) wsX9_setWinch (va_A (wF cy ad hh aa pa u) s.heap.size) p s m _ meth c := ⟨B.exec, B.bytes, B.returns, hml, findClass_of_methodNamed B.named, atoms_spec (ws := wsX9_setWinch) B.pre, B.notSynchronized, hK, fun q h => Or.inr h⟩
  have hl := lv_entry ([.ref (ad 0), .int p1, .int p2, .int p3]) (n := 4) (Nat.le_of_ble_eq_true rfl)
  rw [lg_entry_eq]
  generalize (lg_sl ([.ref (ad 0), .int p1, .int p2, .int p3]) ++ List.replicate (4 - (lg_sl ([.ref (ad 0), .int p1, .int p2, .int p3])).length) Slot.unset).toArray = ls at hl ⊢
  exact tX9_setWinch_b0 K E hfl hex hZ p1 p2 p3 u _ _ _ hl hP hD0.self va_S.rf h1
-- X9_setCross
theorem xaX9_setCross_75 : ∀ w ∈ (vx_atS RX9 75 "java/lang/IllegalArgumentException" ["java/lang/RuntimeException", "java/lang/Exception"]).filter goodWord, w ∈ wsX9_setCross := fun w h => List.mem_cons_of_mem _ (List.mem_append_right _ h)
abbrev rmX9_setCross : Room := { frames := 6, cells := 1, slots := 6, locals := 125 }
def fX9_setCross_b11 (u : FS) : Option ((String ⊕ Int32) × FS) :=
  some (.inl "java/lang/IllegalArgumentException", u)
set_option maxHeartbeats 4000000 in
set_option maxRecDepth 100000 in
theorem tX9_setCross_b11 {p : Program} {l : Launch} {e : Env} {s : State} {m : MethodId} {args : Array Value} {below : List Frame} {meth : Method} {c : Code} {D : va_G} {cy : Nat → ClassId} {A : Nat → Prop} {ad : Nat → Nat} {hh : Nat → Nat} {aa : Nat → Nat → Nat} {pa : Nat → Nat} {za zv : Nat → Nat} (K : (String ⊕ Int32) × FS → Prop) (E : mE D cy RX9 cX9_setCross 3 (some .int) wsX9_setCross A p s m args meth c) (hfl : l.stackTraces = false) (hex : ∀ x ∈ c.exceptionTable.toList, False) (hZ : mZ za zv A s s.heap)
     (u : FS) (H : Heap) (locs : List Loc) (ls : Array Slot) (hl : lv_has ls 3 []) (hP : va_P D vwCl (wF cy ad hh aa pa u) H) (hD : va_D A (wF cy ad hh aa pa u)) (hS : va_S A s.heap H locs) (h1 : Ok (fX9_setCross_b11 u) K) :
    kWx p l e rmX9_setCross s m args below meth c H locs (va_Qi (fun r q => K (.inr r, q)) (fun q => kPost D A (wF cy ad hh aa pa q)) A) (vx_X (fun _ : FS => True) (fun E q t => K (.inl E, q) ∧ kPost D A (wF cy ad hh aa pa q) t) A) A 11 ls [] := by
  obtain ⟨hx, hb, hr, hml, hown, hts, hlocks, hK, hA⟩ := id E
  unfold fX9_setCross_b11 at h1
  exact kx_throw (names := ["java/lang/RuntimeException", "java/lang/Exception"]) (text := "cross") (sa := za 15) hx hb hfl hml hown (by decide) (by decide) (hts _ (List.mem_of_getElem? (i := 1) rfl)) (hts _ (List.mem_of_getElem? (i := 2) rfl)) (k_site hZ 15 (by decide)) (vx_hat (fun w h => hts w (xaX9_setCross_75 w h)) xbRX9_75 (hZ.cast (by decide))) xgRX9_72_75 hZ hK hP hD hS hl.1 dX9_setCross_11 dX9_setCross_14 dX9_setCross_15 dX9_setCross_17 dX9_setCross_20 hex hlocks h1 (Nat.le_of_ble_eq_true rfl) (Nat.le_of_ble_eq_true rfl) (Nat.le_of_ble_eq_true rfl) (Nat.le_of_ble_eq_true rfl)
def fX9_setCross_b32 (u : FS) : Option ((String ⊕ Int32) × FS) :=
  some (.inl "java/lang/IllegalArgumentException", u)
set_option maxHeartbeats 4000000 in
set_option maxRecDepth 100000 in
theorem tX9_setCross_b32 {p : Program} {l : Launch} {e : Env} {s : State} {m : MethodId} {args : Array Value} {below : List Frame} {meth : Method} {c : Code} {D : va_G} {cy : Nat → ClassId} {A : Nat → Prop} {ad : Nat → Nat} {hh : Nat → Nat} {aa : Nat → Nat → Nat} {pa : Nat → Nat} {za zv : Nat → Nat} (K : (String ⊕ Int32) × FS → Prop) (E : mE D cy RX9 cX9_setCross 3 (some .int) wsX9_setCross A p s m args meth c) (hfl : l.stackTraces = false) (hex : ∀ x ∈ c.exceptionTable.toList, False) (hZ : mZ za zv A s s.heap)
     (u : FS) (H : Heap) (locs : List Loc) (ls : Array Slot) (hl : lv_has ls 3 []) (hP : va_P D vwCl (wF cy ad hh aa pa u) H) (hD : va_D A (wF cy ad hh aa pa u)) (hS : va_S A s.heap H locs) (h1 : Ok (fX9_setCross_b32 u) K) :
    kWx p l e rmX9_setCross s m args below meth c H locs (va_Qi (fun r q => K (.inr r, q)) (fun q => kPost D A (wF cy ad hh aa pa q)) A) (vx_X (fun _ : FS => True) (fun E q t => K (.inl E, q) ∧ kPost D A (wF cy ad hh aa pa q) t) A) A 32 ls [] := by
  obtain ⟨hx, hb, hr, hml, hown, hts, hlocks, hK, hA⟩ := id E
  unfold fX9_setCross_b32 at h1
  exact kx_throw (names := ["java/lang/RuntimeException", "java/lang/Exception"]) (text := "patience") (sa := za 16) hx hb hfl hml hown (by decide) (by decide) (hts _ (List.mem_of_getElem? (i := 1) rfl)) (hts _ (List.mem_of_getElem? (i := 2) rfl)) (k_site hZ 16 (by decide)) (vx_hat (fun w h => hts w (xaX9_setCross_75 w h)) xbRX9_75 (hZ.cast (by decide))) xgRX9_72_75 hZ hK hP hD hS hl.1 dX9_setCross_32 dX9_setCross_35 dX9_setCross_36 dX9_setCross_38 dX9_setCross_41 hex hlocks h1 (Nat.le_of_ble_eq_true rfl) (Nat.le_of_ble_eq_true rfl) (Nat.le_of_ble_eq_true rfl) (Nat.le_of_ble_eq_true rfl)
def fX9_setCross_b0 (x1 : Int32) (x2 : Int32) (u : FS) : Option ((String ⊕ Int32) × FS) :=
  (if x1 < 1 then fX9_setCross_b11 u else (if x1 ≤ 20 then (if x2 < 1 then fX9_setCross_b32 u else (if x2 ≤ 50 then bnd2 (fX9_doSetCross x1 x2 u) (fun r45 u45 => some (.inr r45, u45)) else fX9_setCross_b32 u)) else fX9_setCross_b11 u))
set_option maxHeartbeats 4000000 in
set_option maxRecDepth 100000 in
theorem tX9_setCross_b0 {p : Program} {l : Launch} {e : Env} {s : State} {m : MethodId} {args : Array Value} {below : List Frame} {meth : Method} {c : Code} {D : va_G} {cy : Nat → ClassId} {A : Nat → Prop} {ad : Nat → Nat} {hh : Nat → Nat} {aa : Nat → Nat → Nat} {pa : Nat → Nat} {za zv : Nat → Nat} (K : (String ⊕ Int32) × FS → Prop) (E : mE D cy RX9 cX9_setCross 3 (some .int) wsX9_setCross A p s m args meth c) (hfl : l.stackTraces = false) (hex : ∀ x ∈ c.exceptionTable.toList, False) (hZ : mZ za zv A s s.heap)
     (x1 : Int32) (x2 : Int32) (u : FS) (H : Heap) (locs : List Loc) (ls : Array Slot) (hl : lv_has ls 3 [(0, .ref (ad 0)), (1, .int x1), (2, .int x2)]) (hP : va_P D vwCl (wF cy ad hh aa pa u) H) (hD : va_D A (wF cy ad hh aa pa u)) (hS : va_S A s.heap H locs) (h1 : Ok (fX9_setCross_b0 x1 x2 u) K) :
    kWx p l e rmX9_setCross s m args below meth c H locs (va_Qi (fun r q => K (.inr r, q)) (fun q => kPost D A (wF cy ad hh aa pa q)) A) (vx_X (fun _ : FS => True) (fun E q t => K (.inl E, q) ∧ kPost D A (wF cy ad hh aa pa q) t) A) A 0 ls [] := by
  obtain ⟨hx, hb, hr, hml, hown, hts, hlocks, hK, hA⟩ := id E
  unfold fX9_setCross_b0 at h1
  refine lv_iload_n hx hb dX9_setCross_0 rfl (lv_at hl 1 rfl) ?_
  refine lv_iconst (v := 1) hx hb dX9_setCross_1 rfl ?_
  refine lv_icmp_lt (tgt := 11) hx hb dX9_setCross_2 (by decide) (fun c2 => ?_) (fun c2 => ?_)
  · replace h1 := Ok.pos c2 h1
    exact tX9_setCross_b11 K E hfl hex hZ u H locs ls (lv_sub hl [] rfl) hP hD hS h1
  · replace h1 := Ok.neg c2 h1
    refine lv_iload_n hx hb dX9_setCross_5 rfl (lv_at hl 1 rfl) ?_
    refine lv_bipush (v := 20) hx hb dX9_setCross_6 rfl ?_
    refine lv_icmp_le (tgt := 21) hx hb dX9_setCross_8 (by decide) (fun c8 => ?_) (fun c8 => ?_)
    · replace h1 := Ok.pos c8 h1
      refine lv_iload_n hx hb dX9_setCross_21 rfl (lv_at hl 2 rfl) ?_
      refine lv_iconst (v := 1) hx hb dX9_setCross_22 rfl ?_
      refine lv_icmp_lt (tgt := 32) hx hb dX9_setCross_23 (by decide) (fun c23 => ?_) (fun c23 => ?_)
      · replace h1 := Ok.pos c23 h1
        exact tX9_setCross_b32 K E hfl hex hZ u H locs ls (lv_sub hl [] rfl) hP hD hS h1
      · replace h1 := Ok.neg c23 h1
        refine lv_iload_n hx hb dX9_setCross_26 rfl (lv_at hl 2 rfl) ?_
        refine lv_bipush (v := 50) hx hb dX9_setCross_27 rfl ?_
        refine lv_icmp_le (tgt := 42) hx hb dX9_setCross_29 (by decide) (fun c29 => ?_) (fun c29 => ?_)
        · replace h1 := Ok.pos c29 h1
          refine lv_aload_n hx hb dX9_setCross_42 rfl (lv_at hl 0 rfl) ?_
          refine lv_iload_n hx hb dX9_setCross_43 rfl (lv_at hl 1 rfl) ?_
          refine lv_iload_n hx hb dX9_setCross_44 rfl (lv_at hl 2 rfl) ?_
          refine kc_iV0 (b := (ad 0)) (As := [.int x1, .int x2]) (rest := []) h1 ⟨hx, hb, hml, hown, hts⟩ (cX9_doSetCrossM l D cy ad hh aa pa H.size u x1 x2) (cwV 2 hts gX9_setCross_X9_doSetCross rfl rfl rfl hdX9_doSetCross ⟨Nat.le_of_ble_eq_true rfl, Nat.le_of_ble_eq_true rfl⟩) hK hP hD hS hA (q0 := 0) rfl rfl rfl hl.1 rfl (Nat.le_of_ble_eq_true rfl) dX9_setCross_45 ⟨Nat.zero_le _, Nat.zero_le _⟩ (fun r45 u45 H locs h1 hP hD hS => ?_)
          exact kret_x hx hb hr hlocks hP hD hS h1 dX9_setCross_48
        · replace h1 := Ok.neg c29 h1
          exact tX9_setCross_b32 K E hfl hex hZ u H locs ls (lv_sub hl [] rfl) hP hD hS h1
    · replace h1 := Ok.neg c8 h1
      exact tX9_setCross_b11 K E hfl hex hZ u H locs ls (lv_sub hl [] rfl) hP hD hS h1
def fX9_setCross (p1 : Int32) (p2 : Int32) (u : FS) : Option ((String ⊕ Int32) × FS) := fX9_setCross_b0 p1 p2 u
set_option maxHeartbeats 4000000 in
set_option maxRecDepth 100000 in
theorem cX9_setCrossM (l : Launch) (hfl : l.stackTraces = false) (D : va_G) (cy : Nat → ClassId) (za zv : Nat → Nat) (ad : Nat → Nat) (hh : Nat → Nat) (aa : Nat → Nat → Nat) (pa : Nat → Nat) (sz : Nat) (u : FS) (p1 : Int32) (p2 : Int32) : ∀ (K : (String ⊕ Int32) × FS → Prop), Ok (fX9_setCross p1 p2 u) K → vx_Met l yX9_setCross wsX9_setCross rmX9_setCross (va_Pc [.ref (ad 0), .int p1, .int p2] (kPreZ D cy za zv sz (wF cy ad hh aa pa u))) (va_Qi (fun r q => K (.inr r, q)) (fun q => kPost D (va_A (wF cy ad hh aa pa u) sz) (wF cy ad hh aa pa q)) (va_A (wF cy ad hh aa pa u) sz)) (vx_X (fun _ : FS => True) (fun E q t => K (.inl E, q) ∧ kPost D (va_A (wF cy ad hh aa pa u) sz) (wF cy ad hh aa pa q) t) (va_A (wF cy ad hh aa pa u) sz)) 1 6 (va_A (wF cy ad hh aa pa u) sz) := by
  intro K h1
  refine vx_ofW (cc := cX9_setCross) (maxL := 3) (ret := (some .int)) (by decide) rfl ?_
  intro p e s m args below meth c s₁ B hml hex hv
  obtain ⟨rfl, ⟨hsz, hP, hK, hD0⟩, hZ⟩ := hv
  subst hsz
  have E : mE D cy RX9 cX9_setCross 3 (some .int) wsX9_setCross (va_A (wF cy ad hh aa pa u) s.heap.size) p s m _ meth c := ⟨B.exec, B.bytes, B.returns, hml, findClass_of_methodNamed B.named, atoms_spec (ws := wsX9_setCross) B.pre, B.notSynchronized, hK, fun q h => Or.inr h⟩
  have hl := lv_entry ([.ref (ad 0), .int p1, .int p2]) (n := 3) (Nat.le_of_ble_eq_true rfl)
  rw [lg_entry_eq]
  generalize (lg_sl ([.ref (ad 0), .int p1, .int p2]) ++ List.replicate (3 - (lg_sl ([.ref (ad 0), .int p1, .int p2])).length) Slot.unset).toArray = ls at hl ⊢
  exact tX9_setCross_b0 K E hfl hex hZ p1 p2 u _ _ _ hl hP hD0.self va_S.rf h1
