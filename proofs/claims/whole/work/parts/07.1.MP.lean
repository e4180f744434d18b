-- X10_isWord
theorem inX10_isWord_X10 : ∀ w ∈ u_ws RX10 TX10 23, w ∈ wsX10_isWord := k_lays 60 rfl
theorem lkX10_isWord_32 : Cond.fieldLink RX10 32 "FerryRampModel" "text" "[I" ∈ wsX10_isWord := List.mem_of_getElem? (i := 4) rfl
theorem lkX10_isWord_170 : Cond.fieldLink RX10 170 "FerryRampModel" "tokenStart" "I" ∈ wsX10_isWord := List.mem_of_getElem? (i := 3) rfl
theorem lkX10_isWord_176 : Cond.fieldLink RX10 176 "FerryRampModel" "token" "I" ∈ wsX10_isWord := List.mem_of_getElem? (i := 1) rfl
theorem lkX10_isWord_164 : Cond.fieldLink RX10 164 "FerryRampModel" "position" "I" ∈ wsX10_isWord := List.mem_of_getElem? (i := 2) rfl
abbrev rmX10_isWord : Room := { frames := 4, cells := 0, slots := 0, locals := 85 }
def fX10_isWord_b75 (k39 : Int32 × Int32 → Option (Int32)) (x3 : Int32) (s0 : Int32) (w1 : Nat) (u : RS) : Option (Int32) :=
  k39 (s0, x3 + 1)
set_option maxHeartbeats 4000000 in
set_option maxRecDepth 100000 in
theorem tX10_isWord_b75 {p : Program} {l : Launch} {e : Env} {s : State} {m : MethodId} {args : Array Value} {below : List Frame} {meth : Method} {c : Code} {D : va_G} {cy : Nat → ClassId} {A : Nat → Prop} {h : Nat} {a : Nat → Nat} {za zv : Nat → Nat} (K : Int32 → Prop) (E : mE D cy RX10 cX10_isWord 4 (some .boolean) wsX10_isWord A p s m args meth c) (w1 : Nat) (hZ : mZ za zv A s s.heap) (hw1 : w1 < 61) (u : RS)
    (k39 : Int32 × Int32 → Option (Int32)) (hk39 : ∀ (x2 : Int32) (x3 : Int32) (H : Heap) (locs : List Loc) (ls : Array Slot), lv_has ls 4 [(0, .ref h), (1, .ref (za w1)), (2, .int x2), (3, .int x3)] → va_P D vwCl (wM cy h a u) H → va_D A (wM cy h a u) → va_S A s.heap H locs → Ok (k39 (x2, x3)) K → kW p l e rmX10_isWord s m args below meth c H locs (va_Qi (fun r (_ : Unit) => K r) (fun _ => kPost D A (wM cy h a u)) A) A 39 ls [])
     (x3 : Int32) (s0 : Int32) (H : Heap) (locs : List Loc) (ls : Array Slot) (hl : lv_has ls 4 [(0, .ref h), (1, .ref (za w1)), (3, .int x3)]) (hP : va_P D vwCl (wM cy h a u) H) (hD : va_D A (wM cy h a u)) (hS : va_S A s.heap H locs) (h1 : Ok (fX10_isWord_b75 k39 x3 s0 w1 u) K) :
    kW p l e rmX10_isWord s m args below meth c H locs (va_Qi (fun r (_ : Unit) => K r) (fun _ => kPost D A (wM cy h a u)) A) A 75 ls [.int s0] := by
  obtain ⟨hx, hb, hr, hml, hown, hts, hlocks, hK, hA⟩ := id E
  unfold fX10_isWord_b75 at h1
  refine lv_istore_n (lv' := [(2, .int s0), (0, .ref h), (1, .ref (za w1)), (3, .int x3)]) hx hb dX10_isWord_75 rfl hl (by decide) rfl (fun ls hl => ?_)
  refine lv_iinc (v := x3 + 1) (lv' := [(3, .int (x3 + 1)), (2, .int s0), (0, .ref h), (1, .ref (za w1))]) hx hb dX10_isWord_76 hl (k := 3) rfl rfl (by decide) rfl (fun ls hl => ?_)
  refine lv_goto (tgt := 39) hx hb dX10_isWord_79 (by decide) ?_
  exact hk39 s0 (x3 + 1) H locs ls (lv_sub hl [2, 3, 1, 0] rfl) hP hD hS h1
def fX10_isWord_b39 (k39 : Int32 × Int32 → Option (Int32)) (x2 : Int32) (x3 : Int32) (w1 : Nat) (u : RS) : Option (Int32) :=
  (if x2 = 0 then grd (decide (x2 &&& 1 = x2)) (some x2) else bnd (fJ0_length_8abf5 w1) (fun r45 => (if r45 ≤ x3 then grd (decide (x2 &&& 1 = x2)) (some x2) else grd (inb ((mTs u) + x3) 500) (bnd (fJ0_charAt_5068e x3 w1) (fun r64 => (if (mTx u (ix ((mTs u) + x3))) = r64 then fX10_isWord_b75 k39 x3 1 w1 u else fX10_isWord_b75 k39 x3 0 w1 u))))))
set_option maxHeartbeats 4000000 in
set_option maxRecDepth 100000 in
theorem tX10_isWord_b39 {p : Program} {l : Launch} {e : Env} {s : State} {m : MethodId} {args : Array Value} {below : List Frame} {meth : Method} {c : Code} {D : va_G} {cy : Nat → ClassId} {A : Nat → Prop} {h : Nat} {a : Nat → Nat} {za zv : Nat → Nat} (K : Int32 → Prop) (E : mE D cy RX10 cX10_isWord 4 (some .boolean) wsX10_isWord A p s m args meth c) (w1 : Nat) (hZ : mZ za zv A s s.heap) (hw1 : w1 < 61) (u : RS)
    (k39 : Int32 × Int32 → Option (Int32)) (hk39 : ∀ (x2 : Int32) (x3 : Int32) (H : Heap) (locs : List Loc) (ls : Array Slot), lv_has ls 4 [(0, .ref h), (1, .ref (za w1)), (2, .int x2), (3, .int x3)] → va_P D vwCl (wM cy h a u) H → va_D A (wM cy h a u) → va_S A s.heap H locs → Ok (k39 (x2, x3)) K → kW p l e rmX10_isWord s m args below meth c H locs (va_Qi (fun r (_ : Unit) => K r) (fun _ => kPost D A (wM cy h a u)) A) A 39 ls [])
     (x2 : Int32) (x3 : Int32) (H : Heap) (locs : List Loc) (ls : Array Slot) (hl : lv_has ls 4 [(0, .ref h), (1, .ref (za w1)), (2, .int x2), (3, .int x3)]) (hP : va_P D vwCl (wM cy h a u) H) (hD : va_D A (wM cy h a u)) (hS : va_S A s.heap H locs) (h1 : Ok (fX10_isWord_b39 k39 x2 x3 w1 u) K) :
    kW p l e rmX10_isWord s m args below meth c H locs (va_Qi (fun r (_ : Unit) => K r) (fun _ => kPost D A (wM cy h a u)) A) A 39 ls [] := by
  obtain ⟨hx, hb, hr, hml, hown, hts, hlocks, hK, hA⟩ := id E
  unfold fX10_isWord_b39 at h1
  refine lv_iload_n hx hb dX10_isWord_39 rfl (lv_at hl 2 rfl) ?_
  refine lv_if_eq (tgt := 82) hx hb dX10_isWord_40 (by decide) (fun c40 => ?_) (fun c40 => ?_)
  · replace h1 := Ok.pos c40 h1
    refine lv_iload_n hx hb dX10_isWord_82 rfl (lv_at hl 2 rfl) ?_
    have g83 := h1.grd1
    replace h1 := h1.grd2
    exact kret_rz hx hb hr (k_zn g83) hlocks hP hD hS h1 dX10_isWord_83
  · replace h1 := Ok.neg c40 h1
    refine lv_iload_n hx hb dX10_isWord_43 rfl (lv_at hl 3 rfl) ?_
    refine lv_aload_n hx hb dX10_isWord_44 rfl (lv_at hl 1 rfl) ?_
    refine kz_str (As := []) (rest := [.int x3]) h1 ⟨hx, hb, hml, hown, hts⟩ hw1 (cJ0_length_8abf5M l D cy za zv H.size w1 hw1) (cwV 0 hts gX10_isWord_J0_length_8abf5 rfl rfl rfl hdJ0_length_8abf5 ⟨Nat.le_of_ble_eq_true rfl, Nat.le_of_ble_eq_true rfl⟩) hZ hK hP hD hS hA rfl hl.1 rfl (Nat.le_of_ble_eq_true rfl) dX10_isWord_45 ⟨Nat.zero_le _, Nat.zero_le _⟩ (fun r45 H locs h1 hP hS => ?_)
    refine lv_icmp_ge (tgt := 82) hx hb dX10_isWord_48 (by decide) (fun c48 => ?_) (fun c48 => ?_)
    · replace h1 := Ok.pos c48 h1
      refine lv_iload_n hx hb dX10_isWord_82 rfl (lv_at hl 2 rfl) ?_
      have g83 := h1.grd1
      replace h1 := h1.grd2
      exact kret_rz hx hb hr (k_zn g83) hlocks hP hD hS h1 dX10_isWord_83
    · replace h1 := Ok.neg c48 h1
      refine lv_aload_n hx hb dX10_isWord_51 rfl (lv_at hl 0 rfl) ?_
      refine k_get (v := .ref (a 7)) (C := RX10) (T := TX10) (N := 23) hx hb hts inX10_isWord_X10 hown hK hP 0 (wM_a0 _ _ _ _) rfl 9 (by decide) lkX10_isWord_32 (mFs_9 _ _) dX10_isWord_52 ?_
      refine lv_aload_n hx hb dX10_isWord_55 rfl (lv_at hl 0 rfl) ?_
      refine k_get (v := .int (mTs u)) (C := RX10) (T := TX10) (N := 23) hx hb hts inX10_isWord_X10 hown hK hP 0 (wM_a0 _ _ _ _) rfl 14 (by decide) lkX10_isWord_170 (mFs_14 _ _) dX10_isWord_56 ?_
      refine lv_iload_n hx hb dX10_isWord_59 rfl (lv_at hl 3 rfl) ?_
      refine lv_iadd hx hb dX10_isWord_60 ?_
      have g61 := h1.grd1
      replace h1 := h1.grd2
      refine k_iald (k := (ix ((mTs u) + x3))) hx hb hK hP 8 (wM_a8 _ _ _ _) g61 rfl dX10_isWord_61 ?_
      refine lv_aload_n hx hb dX10_isWord_62 rfl (lv_at hl 1 rfl) ?_
      refine lv_iload_n hx hb dX10_isWord_63 rfl (lv_at hl 3 rfl) ?_
      refine kz_str (As := [.int x3]) (rest := [.int (mTx u (ix ((mTs u) + x3)))]) h1 ⟨hx, hb, hml, hown, hts⟩ hw1 (cJ0_charAt_5068eM l D cy za zv H.size w1 hw1 x3) (cwV 1 hts gX10_isWord_J0_charAt_5068e rfl rfl rfl hdJ0_charAt_5068e ⟨Nat.le_of_ble_eq_true rfl, Nat.le_of_ble_eq_true rfl⟩) hZ hK hP hD hS hA rfl hl.1 rfl (Nat.le_of_ble_eq_true rfl) dX10_isWord_64 ⟨Nat.zero_le _, Nat.zero_le _⟩ (fun r64 H locs h1 hP hS => ?_)
      refine lv_icmp_ne (tgt := 74) hx hb dX10_isWord_67 (by decide) (fun c67 => ?_) (fun c67 => ?_)
      · replace h1 := Ok.neg c67 h1
        refine lv_iconst (v := 0) hx hb dX10_isWord_74 rfl ?_
        exact tX10_isWord_b75 K E w1 hZ hw1 u k39 hk39 x3 0 H locs ls (lv_sub hl [0, 1, 3] rfl) hP hD hS h1
      · replace h1 := Ok.pos c67 h1
        refine lv_iconst (v := 1) hx hb dX10_isWord_70 rfl ?_
        refine lv_goto (tgt := 75) hx hb dX10_isWord_71 (by decide) ?_
        exact tX10_isWord_b75 K E w1 hZ hw1 u k39 hk39 x3 1 H locs ls (lv_sub hl [0, 1, 3] rfl) hP hD hS h1
theorem tX10_isWord_l39 {p : Program} {l : Launch} {e : Env} {s : State} {m : MethodId} {args : Array Value} {below : List Frame} {meth : Method} {c : Code} {D : va_G} {cy : Nat → ClassId} {A : Nat → Prop} {h : Nat} {a : Nat → Nat} {za zv : Nat → Nat} (K : Int32 → Prop) (E : mE D cy RX10 cX10_isWord 4 (some .boolean) wsX10_isWord A p s m args meth c) (w1 : Nat) (hZ : mZ za zv A s s.heap) (hw1 : w1 < 61) (u : RS) : ∀ (n9 : Nat) (x2 : Int32) (x3 : Int32) (H : Heap) (locs : List Loc) (ls : Array Slot), lv_has ls 4 [(0, .ref h), (1, .ref (za w1)), (2, .int x2), (3, .int x3)] → va_P D vwCl (wM cy h a u) H → va_D A (wM cy h a u) → va_S A s.heap H locs → Ok (lop (fun y z => fX10_isWord_b39 y z.1 z.2 w1 u) n9 (x2, x3)) K → kW p l e rmX10_isWord s m args below meth c H locs (va_Qi (fun r (_ : Unit) => K r) (fun _ => kPost D A (wM cy h a u)) A) A 39 ls [] := by
  intro n9
  induction n9 with
  | zero =>
    intro x2 x3 H locs ls hl hP hD hS h1
    exact h1.no
  | succ n9 ih =>
    intro x2 x3 H locs ls hl hP hD hS h1
    exact tX10_isWord_b39 K E w1 hZ hw1 u (lop (fun y z => fX10_isWord_b39 y z.1 z.2 w1 u) n9) (fun x2 x3 H locs ls hl hP hD hS h1 => ih x2 x3 H locs ls hl hP hD hS h1) x2 x3 H locs ls hl hP hD hS h1
def fX10_isWord_b36 (s0 : Int32) (w1 : Nat) (u : RS) : Option (Int32) :=
  lop (fun y z => fX10_isWord_b39 y z.1 z.2 w1 u) LF (s0, 0)
set_option maxHeartbeats 4000000 in
set_option maxRecDepth 100000 in
theorem tX10_isWord_b36 {p : Program} {l : Launch} {e : Env} {s : State} {m : MethodId} {args : Array Value} {below : List Frame} {meth : Method} {c : Code} {D : va_G} {cy : Nat → ClassId} {A : Nat → Prop} {h : Nat} {a : Nat → Nat} {za zv : Nat → Nat} (K : Int32 → Prop) (E : mE D cy RX10 cX10_isWord 4 (some .boolean) wsX10_isWord A p s m args meth c) (w1 : Nat) (hZ : mZ za zv A s s.heap) (hw1 : w1 < 61) (u : RS)
     (s0 : Int32) (H : Heap) (locs : List Loc) (ls : Array Slot) (hl : lv_has ls 4 [(0, .ref h), (1, .ref (za w1))]) (hP : va_P D vwCl (wM cy h a u) H) (hD : va_D A (wM cy h a u)) (hS : va_S A s.heap H locs) (h1 : Ok (fX10_isWord_b36 s0 w1 u) K) :
    kW p l e rmX10_isWord s m args below meth c H locs (va_Qi (fun r (_ : Unit) => K r) (fun _ => kPost D A (wM cy h a u)) A) A 36 ls [.int s0] := by
  obtain ⟨hx, hb, hr, hml, hown, hts, hlocks, hK, hA⟩ := id E
  unfold fX10_isWord_b36 at h1
  refine lv_istore_n (lv' := [(2, .int s0), (0, .ref h), (1, .ref (za w1))]) hx hb dX10_isWord_36 rfl hl (by decide) rfl (fun ls hl => ?_)
  refine lv_iconst (v := 0) hx hb dX10_isWord_37 rfl ?_
  refine lv_istore_n (lv' := [(3, .int 0), (2, .int s0), (0, .ref h), (1, .ref (za w1))]) hx hb dX10_isWord_38 rfl hl (by decide) rfl (fun ls hl => ?_)
  exact tX10_isWord_l39 K E w1 hZ hw1 u LF s0 0 H locs ls (lv_sub hl [2, 3, 1, 0] rfl) hP hD hS h1
def fX10_isWord_b35 (w1 : Nat) (u : RS) : Option (Int32) :=
  fX10_isWord_b36 0 w1 u
set_option maxHeartbeats 4000000 in
set_option maxRecDepth 100000 in
theorem tX10_isWord_b35 {p : Program} {l : Launch} {e : Env} {s : State} {m : MethodId} {args : Array Value} {below : List Frame} {meth : Method} {c : Code} {D : va_G} {cy : Nat → ClassId} {A : Nat → Prop} {h : Nat} {a : Nat → Nat} {za zv : Nat → Nat} (K : Int32 → Prop) (E : mE D cy RX10 cX10_isWord 4 (some .boolean) wsX10_isWord A p s m args meth c) (w1 : Nat) (hZ : mZ za zv A s s.heap) (hw1 : w1 < 61) (u : RS)
     (H : Heap) (locs : List Loc) (ls : Array Slot) (hl : lv_has ls 4 [(0, .ref h), (1, .ref (za w1))]) (hP : va_P D vwCl (wM cy h a u) H) (hD : va_D A (wM cy h a u)) (hS : va_S A s.heap H locs) (h1 : Ok (fX10_isWord_b35 w1 u) K) :
    kW p l e rmX10_isWord s m args below meth c H locs (va_Qi (fun r (_ : Unit) => K r) (fun _ => kPost D A (wM cy h a u)) A) A 35 ls [] := by
  obtain ⟨hx, hb, hr, hml, hown, hts, hlocks, hK, hA⟩ := id E
  unfold fX10_isWord_b35 at h1
  refine lv_iconst (v := 0) hx hb dX10_isWord_35 rfl ?_
  exact tX10_isWord_b36 K E w1 hZ hw1 u 0 H locs ls (lv_sub hl [0, 1] rfl) hP hD hS h1
def fX10_isWord_b0 (w1 : Nat) (u : RS) : Option (Int32) :=
  bnd (fX10_isFine u) (fun r1 => (if r1 = 0 then fX10_isWord_b35 w1 u else (if (mTo u) = 1 then bnd (fJ0_length_8abf5 w1) (fun r25 => (if ((mPo u) - (mTs u)) = r25 then fX10_isWord_b36 1 w1 u else fX10_isWord_b35 w1 u)) else fX10_isWord_b35 w1 u)))
set_option maxHeartbeats 4000000 in
set_option maxRecDepth 100000 in
theorem tX10_isWord_b0 {p : Program} {l : Launch} {e : Env} {s : State} {m : MethodId} {args : Array Value} {below : List Frame} {meth : Method} {c : Code} {D : va_G} {cy : Nat → ClassId} {A : Nat → Prop} {h : Nat} {a : Nat → Nat} {za zv : Nat → Nat} (K : Int32 → Prop) (E : mE D cy RX10 cX10_isWord 4 (some .boolean) wsX10_isWord A p s m args meth c) (w1 : Nat) (hZ : mZ za zv A s s.heap) (hw1 : w1 < 61) (u : RS)
     (H : Heap) (locs : List Loc) (ls : Array Slot) (hl : lv_has ls 4 [(0, .ref h), (1, .ref (za w1))]) (hP : va_P D vwCl (wM cy h a u) H) (hD : va_D A (wM cy h a u)) (hS : va_S A s.heap H locs) (h1 : Ok (fX10_isWord_b0 w1 u) K) :
    kW p l e rmX10_isWord s m args below meth c H locs (va_Qi (fun r (_ : Unit) => K r) (fun _ => kPost D A (wM cy h a u)) A) A 0 ls [] := by
  obtain ⟨hx, hb, hr, hml, hown, hts, hlocks, hK, hA⟩ := id E
  unfold fX10_isWord_b0 at h1
  refine lv_aload_n hx hb dX10_isWord_0 rfl (lv_at hl 0 rfl) ?_
  refine kc_rV0 (b := h) (As := []) (rest := []) h1 ⟨hx, hb, hml, hown, hts⟩ (cX10_isFineM l D cy h a H.size u) (cwV 0 hts gX10_isWord_X10_isFine rfl rfl rfl hdX10_isFine ⟨Nat.le_of_ble_eq_true rfl, Nat.le_of_ble_eq_true rfl⟩) hK hP hD hS hA (q0 := 0) rfl rfl rfl hl.1 rfl (Nat.le_of_ble_eq_true rfl) dX10_isWord_1 ⟨Nat.zero_le _, Nat.zero_le _⟩ (fun r1 H locs h1 hP hS => ?_)
  refine lv_if_eq (tgt := 35) hx hb dX10_isWord_4 (by decide) (fun c4 => ?_) (fun c4 => ?_)
  · replace h1 := Ok.pos c4 h1
    exact tX10_isWord_b35 K E w1 hZ hw1 u H locs ls (lv_sub hl [0, 1] rfl) hP hD hS h1
  · replace h1 := Ok.neg c4 h1
    refine lv_aload_n hx hb dX10_isWord_7 rfl (lv_at hl 0 rfl) ?_
    refine k_get (v := .int (mTo u)) (C := RX10) (T := TX10) (N := 23) hx hb hts inX10_isWord_X10 hown hK hP 0 (wM_a0 _ _ _ _) rfl 15 (by decide) lkX10_isWord_176 (mFs_15 _ _) dX10_isWord_8 ?_
    refine lv_iconst (v := 1) hx hb dX10_isWord_11 rfl ?_
    refine lv_icmp_ne (tgt := 35) hx hb dX10_isWord_12 (by decide) (fun c12 => ?_) (fun c12 => ?_)
    · replace h1 := Ok.neg c12 h1
      exact tX10_isWord_b35 K E w1 hZ hw1 u H locs ls (lv_sub hl [0, 1] rfl) hP hD hS h1
    · replace h1 := Ok.pos c12 h1
      refine lv_aload_n hx hb dX10_isWord_15 rfl (lv_at hl 0 rfl) ?_
      refine k_get (v := .int (mPo u)) (C := RX10) (T := TX10) (N := 23) hx hb hts inX10_isWord_X10 hown hK hP 0 (wM_a0 _ _ _ _) rfl 13 (by decide) lkX10_isWord_164 (mFs_13 _ _) dX10_isWord_16 ?_
      refine lv_aload_n hx hb dX10_isWord_19 rfl (lv_at hl 0 rfl) ?_
      refine k_get (v := .int (mTs u)) (C := RX10) (T := TX10) (N := 23) hx hb hts inX10_isWord_X10 hown hK hP 0 (wM_a0 _ _ _ _) rfl 14 (by decide) lkX10_isWord_170 (mFs_14 _ _) dX10_isWord_20 ?_
      refine lv_isub hx hb dX10_isWord_23 ?_
      refine lv_aload_n hx hb dX10_isWord_24 rfl (lv_at hl 1 rfl) ?_
      refine kz_str (As := []) (rest := [.int ((mPo u) - (mTs u))]) h1 ⟨hx, hb, hml, hown, hts⟩ hw1 (cJ0_length_8abf5M l D cy za zv H.size w1 hw1) (cwV 0 hts gX10_isWord_J0_length_8abf5 rfl rfl rfl hdJ0_length_8abf5 ⟨Nat.le_of_ble_eq_true rfl, Nat.le_of_ble_eq_true rfl⟩) hZ hK hP hD hS hA rfl hl.1 rfl (Nat.le_of_ble_eq_true rfl) dX10_isWord_25 ⟨Nat.zero_le _, Nat.zero_le _⟩ (fun r25 H locs h1 hP hS => ?_)
      refine lv_icmp_ne (tgt := 35) hx hb dX10_isWord_28 (by decide) (fun c28 => ?_) (fun c28 => ?_)
      · replace h1 := Ok.neg c28 h1
        exact tX10_isWord_b35 K E w1 hZ hw1 u H locs ls (lv_sub hl [0, 1] rfl) hP hD hS h1
      · replace h1 := Ok.pos c28 h1
        refine lv_iconst (v := 1) hx hb dX10_isWord_31 rfl ?_
        refine lv_goto (tgt := 36) hx hb dX10_isWord_32 (by decide) ?_
        exact tX10_isWord_b36 K E w1 hZ hw1 u 1 H locs ls (lv_sub hl [0, 1] rfl) hP hD hS h1
def fX10_isWord (w1 : Nat) (u : RS) : Option (Int32) := fX10_isWord_b0 w1 u
set_option maxHeartbeats 4000000 in
set_option maxRecDepth 100000 in
theorem cX10_isWordM (l : Launch) (D : va_G) (cy : Nat → ClassId) (za zv : Nat → Nat) (h : Nat) (a : Nat → Nat) (sz : Nat) (w1 : Nat) (u : RS) (hw1 : w1 < 61) : ∀ (K : Int32 → Prop), Ok (fX10_isWord w1 u) K → Met l yX10_isWord wsX10_isWord rmX10_isWord (va_Pc [.ref h, .ref (za w1)] (kPreZ D cy za zv sz (wM cy h a u))) (va_Qi (fun r (_ : Unit) => K r) (fun _ => kPost D (va_A (wM cy h a u) sz) (wM cy h a u)) (va_A (wM cy h a u) sz)) 0 0 (va_A (wM cy h a u) sz) := by
  intro K h1
  refine Met.ofW (cc := cX10_isWord) (maxL := 4) (ret := (some .boolean)) (by decide) rfl ?_
  intro p e s m args below meth c s₁ B hml hv
  obtain ⟨rfl, ⟨hsz, hP, hK, hD0⟩, hZ⟩ := hv
  subst hsz
  have E : mE D cy RX10 cX10_isWord 4 (some .boolean) wsX10_isWord (va_A (wM cy h a u) s.heap.size) p s m _ meth c := ⟨B.exec, B.bytes, B.returns, hml, findClass_of_methodNamed B.named, atoms_spec (ws := wsX10_isWord) B.pre, B.notSynchronized, hK, fun q h => Or.inr h⟩
  have hl := lv_entry ([.ref h, .ref (za w1)]) (n := 4) (Nat.le_of_ble_eq_true rfl)
  rw [lg_entry_eq]
  generalize (lg_sl ([.ref h, .ref (za w1)]) ++ List.replicate (4 - (lg_sl ([.ref h, .ref (za w1)])).length) Slot.unset).toArray = ls at hl ⊢
  exact tX10_isWord_b0 K E w1 hZ hw1 u _ _ _ hl hP hD0.self va_S.rf h1
-- X10_parseWord
theorem hdX10_isWord : yX10_isWord.cls = RX10 ∧ yX10_isWord.cls ≠ "java/lang/invoke/MethodHandle" ∧ yX10_isWord.cls ≠ "java/lang/invoke/VarHandle" ∧ (parseMethodDescriptor yX10_isWord.desc).map (fun d => d.parameters.length) = some 1 := by decide +kernel
abbrev rmX10_parseWord : Room := { frames := 5, cells := 0, slots := 0, locals := 108 }
def fX10_parseWord_b0 (w1 : Nat) (u : RS) : Option (RS) :=
  bnd (fX10_isWord w1 u) (fun r3 => bnd (fX10_require r3 1 u) (fun u7 => bnd (fX10_proceed u7) (fun u11 => some u11)))
set_option maxHeartbeats 4000000 in
set_option maxRecDepth 100000 in
theorem tX10_parseWord_b0 {p : Program} {l : Launch} {e : Env} {s : State} {m : MethodId} {args : Array Value} {below : List Frame} {meth : Method} {c : Code} {D : va_G} {cy : Nat → ClassId} {A : Nat → Prop} {h : Nat} {a : Nat → Nat} {za zv : Nat → Nat} (K : RS → Prop) (E : mE D cy RX10 cX10_parseWord 2 none wsX10_parseWord A p s m args meth c) (w1 : Nat) (hZ : mZ za zv A s s.heap) (hw1 : w1 < 61)
     (u : RS) (H : Heap) (locs : List Loc) (ls : Array Slot) (hl : lv_has ls 2 [(0, .ref h), (1, .ref (za w1))]) (hP : va_P D vwCl (wM cy h a u) H) (hD : va_D A (wM cy h a u)) (hS : va_S A s.heap H locs) (h1 : Ok (fX10_parseWord_b0 w1 u) K) :
    kW p l e rmX10_parseWord s m args below meth c H locs (va_Qv K (fun q => kPost D A (wM cy h a q)) A) A 0 ls [] := by
  obtain ⟨hx, hb, hr, hml, hown, hts, hlocks, hK, hA⟩ := id E
  unfold fX10_parseWord_b0 at h1
  refine lv_aload_n hx hb dX10_parseWord_0 rfl (lv_at hl 0 rfl) ?_
  refine lv_aload_n hx hb dX10_parseWord_1 rfl (lv_at hl 0 rfl) ?_
  refine lv_aload_n hx hb dX10_parseWord_2 rfl (lv_at hl 1 rfl) ?_
  refine kz_rV0 (b := h) (As := [.ref (za w1)]) (rest := [.ref h]) h1 ⟨hx, hb, hml, hown, hts⟩ (cX10_isWordM l D cy za zv h a H.size w1 u hw1) (cwV 1 hts gX10_parseWord_X10_isWord rfl rfl rfl hdX10_isWord ⟨Nat.le_of_ble_eq_true rfl, Nat.le_of_ble_eq_true rfl⟩) hZ hK hP hD hS hA (q0 := 0) rfl rfl rfl hl.1 rfl (Nat.le_of_ble_eq_true rfl) dX10_parseWord_3 ⟨Nat.zero_le _, Nat.zero_le _⟩ (fun r3 H locs h1 hP hS => ?_)
  refine lv_iconst (v := 1) hx hb dX10_parseWord_6 rfl ?_
  refine kc_vV0 (b := h) (As := [.int r3, .int 1]) (rest := []) h1 ⟨hx, hb, hml, hown, hts⟩ (cX10_requireM l D cy h a H.size u r3 1) (cwV 2 hts gX10_parseWord_X10_require rfl rfl rfl hdX10_require ⟨Nat.le_of_ble_eq_true rfl, Nat.le_of_ble_eq_true rfl⟩) hK hP hD hS hA (q0 := 0) rfl rfl rfl hl.1 rfl (Nat.le_of_ble_eq_true rfl) dX10_parseWord_7 ⟨Nat.zero_le _, Nat.zero_le _⟩ (fun u7 H locs h1 hP hD hS => ?_)
  refine lv_aload_n hx hb dX10_parseWord_10 rfl (lv_at hl 0 rfl) ?_
  refine kc_vV0 (b := h) (As := []) (rest := []) h1 ⟨hx, hb, hml, hown, hts⟩ (cX10_proceedM l D cy h a H.size u7) (cwV 0 hts gX10_parseWord_X10_proceed rfl rfl rfl hdX10_proceed ⟨Nat.le_of_ble_eq_true rfl, Nat.le_of_ble_eq_true rfl⟩) hK hP hD hS hA (q0 := 0) rfl rfl rfl hl.1 rfl (Nat.le_of_ble_eq_true rfl) dX10_parseWord_11 ⟨Nat.zero_le _, Nat.zero_le _⟩ (fun u11 H locs h1 hP hD hS => ?_)
  exact kret_v hx hb hr hlocks hP hD hS h1 dX10_parseWord_14
def fX10_parseWord (w1 : Nat) (u : RS) : Option (RS) := fX10_parseWord_b0 w1 u
set_option maxHeartbeats 4000000 in
set_option maxRecDepth 100000 in
theorem cX10_parseWordM (l : Launch) (D : va_G) (cy : Nat → ClassId) (za zv : Nat → Nat) (h : Nat) (a : Nat → Nat) (sz : Nat) (w1 : Nat) (u : RS) (hw1 : w1 < 61) : ∀ (K : RS → Prop), Ok (fX10_parseWord w1 u) K → Met l yX10_parseWord wsX10_parseWord rmX10_parseWord (va_Pc [.ref h, .ref (za w1)] (kPreZ D cy za zv sz (wM cy h a u))) (va_Qv K (fun q => kPost D (va_A (wM cy h a u) sz) (wM cy h a q)) (va_A (wM cy h a u) sz)) 0 0 (va_A (wM cy h a u) sz) := by
  intro K h1
  refine Met.ofW (cc := cX10_parseWord) (maxL := 2) (ret := none) (by decide) rfl ?_
  intro p e s m args below meth c s₁ B hml hv
  obtain ⟨rfl, ⟨hsz, hP, hK, hD0⟩, hZ⟩ := hv
  subst hsz
  have E : mE D cy RX10 cX10_parseWord 2 none wsX10_parseWord (va_A (wM cy h a u) s.heap.size) p s m _ meth c := ⟨B.exec, B.bytes, B.returns, hml, findClass_of_methodNamed B.named, atoms_spec (ws := wsX10_parseWord) B.pre, B.notSynchronized, hK, fun q h => Or.inr h⟩
  have hl := lv_entry ([.ref h, .ref (za w1)]) (n := 2) (Nat.le_of_ble_eq_true rfl)
  rw [lg_entry_eq]
  generalize (lg_sl ([.ref h, .ref (za w1)]) ++ List.replicate (2 - (lg_sl ([.ref h, .ref (za w1)])).length) Slot.unset).toArray = ls at hl ⊢
  exact tX10_parseWord_b0 K E w1 hZ hw1 u _ _ _ hl hP hD0.self va_S.rf h1
-- X10_parseTide
theorem hdX10_passOnce : yX10_passOnce.cls = RX10 ∧ yX10_passOnce.cls ≠ "java/lang/invoke/MethodHandle" ∧ yX10_passOnce.cls ≠ "java/lang/invoke/VarHandle" ∧ (parseMethodDescriptor yX10_passOnce.desc).map (fun d => d.parameters.length) = some 1 := by decide +kernel
theorem hdX10_parseHeight : yX10_parseHeight.cls = RX10 ∧ yX10_parseHeight.cls ≠ "java/lang/invoke/MethodHandle" ∧ yX10_parseHeight.cls ≠ "java/lang/invoke/VarHandle" ∧ (parseMethodDescriptor yX10_parseHeight.desc).map (fun d => d.parameters.length) = some 1 := by decide +kernel
theorem hdX10_parseWord : yX10_parseWord.cls = RX10 ∧ yX10_parseWord.cls ≠ "java/lang/invoke/MethodHandle" ∧ yX10_parseWord.cls ≠ "java/lang/invoke/VarHandle" ∧ (parseMethodDescriptor yX10_parseWord.desc).map (fun d => d.parameters.length) = some 1 := by decide +kernel
theorem hdX10_parseNumber : yX10_parseNumber.cls = RX10 ∧ yX10_parseNumber.cls ≠ "java/lang/invoke/MethodHandle" ∧ yX10_parseNumber.cls ≠ "java/lang/invoke/VarHandle" ∧ (parseMethodDescriptor yX10_parseNumber.desc).map (fun d => d.parameters.length) = some 2 := by decide +kernel
theorem hdX10_set : yX10_set.cls = RX10 ∧ yX10_set.cls ≠ "java/lang/invoke/MethodHandle" ∧ yX10_set.cls ≠ "java/lang/invoke/VarHandle" ∧ (parseMethodDescriptor yX10_set.desc).map (fun d => d.parameters.length) = some 2 := by decide +kernel
abbrev rmX10_parseTide : Room := { frames := 6, cells := 0, slots := 0, locals := 129 }
def fX10_parseTide_b32 (x1 : Int32) (x2 : Int32) (s1 : Int32) (u : RS) : Option (RS) :=
  bnd (fX10_require s1 2 u) (fun u33 => bnd (fX10_proceed u33) (fun u37 => bnd (fX10_parseWord 40 u37) (fun u43 => bnd2 (fX10_parseNumber 1 99 u43) (fun r53 u53 => bnd (fX10_set 17 r53 u53) (fun u56 => bnd (fX10_set 15 x1 u56) (fun u63 => bnd (fX10_set 16 x2 u63) (fun u70 => some u70)))))))
set_option maxHeartbeats 4000000 in
set_option maxRecDepth 100000 in
theorem tX10_parseTide_b32 {p : Program} {l : Launch} {e : Env} {s : State} {m : MethodId} {args : Array Value} {below : List Frame} {meth : Method} {c : Code} {D : va_G} {cy : Nat → ClassId} {A : Nat → Prop} {h : Nat} {a : Nat → Nat} {za zv : Nat → Nat} (K : RS → Prop) (E : mE D cy RX10 cX10_parseTide 3 none wsX10_parseTide A p s m args meth c) (hZ : mZ za zv A s s.heap)
     (x1 : Int32) (x2 : Int32) (s1 : Int32) (u : RS) (H : Heap) (locs : List Loc) (ls : Array Slot) (hl : lv_has ls 3 [(0, .ref h), (1, .int x1), (2, .int x2)]) (hP : va_P D vwCl (wM cy h a u) H) (hD : va_D A (wM cy h a u)) (hS : va_S A s.heap H locs) (h1 : Ok (fX10_parseTide_b32 x1 x2 s1 u) K) :
    kW p l e rmX10_parseTide s m args below meth c H locs (va_Qv K (fun q => kPost D A (wM cy h a q)) A) A 32 ls [.int s1, .ref h] := by
  obtain ⟨hx, hb, hr, hml, hown, hts, hlocks, hK, hA⟩ := id E
  unfold fX10_parseTide_b32 at h1
  refine lv_iconst (v := 2) hx hb dX10_parseTide_32 rfl ?_
  refine kc_vV0 (b := h) (As := [.int s1, .int 2]) (rest := []) h1 ⟨hx, hb, hml, hown, hts⟩ (cX10_requireM l D cy h a H.size u s1 2) (cwV 2 hts gX10_parseTide_X10_require rfl rfl rfl hdX10_require ⟨Nat.le_of_ble_eq_true rfl, Nat.le_of_ble_eq_true rfl⟩) hK hP hD hS hA (q0 := 0) rfl rfl rfl hl.1 rfl (Nat.le_of_ble_eq_true rfl) dX10_parseTide_33 ⟨Nat.zero_le _, Nat.zero_le _⟩ (fun u33 H locs h1 hP hD hS => ?_)
  refine lv_aload_n hx hb dX10_parseTide_36 rfl (lv_at hl 0 rfl) ?_
  refine kc_vV0 (b := h) (As := []) (rest := []) h1 ⟨hx, hb, hml, hown, hts⟩ (cX10_proceedM l D cy h a H.size u33) (cwV 0 hts gX10_parseTide_X10_proceed rfl rfl rfl hdX10_proceed ⟨Nat.le_of_ble_eq_true rfl, Nat.le_of_ble_eq_true rfl⟩) hK hP hD hS hA (q0 := 0) rfl rfl rfl hl.1 rfl (Nat.le_of_ble_eq_true rfl) dX10_parseTide_37 ⟨Nat.zero_le _, Nat.zero_le _⟩ (fun u37 H locs h1 hP hD hS => ?_)
  refine lv_aload_n hx hb dX10_parseTide_40 rfl (lv_at hl 0 rfl) ?_
  refine k_ldcS (tx := "half") (q := za 40) hx hb hown (k_site hZ 40 (by decide)) dX10_parseTide_41 ?_
  refine kz_vV0 (b := h) (As := [.ref (za 40)]) (rest := []) h1 ⟨hx, hb, hml, hown, hts⟩ (cX10_parseWordM l D cy za zv h a H.size 40 u37 (by decide)) (cwV 1 hts gX10_parseTide_X10_parseWord rfl rfl rfl hdX10_parseWord ⟨Nat.le_of_ble_eq_true rfl, Nat.le_of_ble_eq_true rfl⟩) hZ hK hP hD hS hA (q0 := 0) rfl rfl rfl hl.1 rfl (Nat.le_of_ble_eq_true rfl) dX10_parseTide_43 ⟨Nat.zero_le _, Nat.zero_le _⟩ (fun u43 H locs h1 hP hD hS => ?_)
  refine lv_aload_n hx hb dX10_parseTide_46 rfl (lv_at hl 0 rfl) ?_
  refine lv_bipush (v := 17) hx hb dX10_parseTide_47 rfl ?_
  refine lv_aload_n hx hb dX10_parseTide_49 rfl (lv_at hl 0 rfl) ?_
  refine lv_iconst (v := 1) hx hb dX10_parseTide_50 rfl ?_
  refine lv_bipush (v := 99) hx hb dX10_parseTide_51 rfl ?_
  refine kc_iV0 (b := h) (As := [.int 1, .int 99]) (rest := [.int 17, .ref h]) h1 ⟨hx, hb, hml, hown, hts⟩ (cX10_parseNumberM l D cy h a H.size u43 1 99) (cwV 2 hts gX10_parseTide_X10_parseNumber rfl rfl rfl hdX10_parseNumber ⟨Nat.le_of_ble_eq_true rfl, Nat.le_of_ble_eq_true rfl⟩) hK hP hD hS hA (q0 := 0) rfl rfl rfl hl.1 rfl (Nat.le_of_ble_eq_true rfl) dX10_parseTide_53 ⟨Nat.zero_le _, Nat.zero_le _⟩ (fun r53 u53 H locs h1 hP hD hS => ?_)
  refine kc_vV0 (b := h) (As := [.int 17, .int r53]) (rest := []) h1 ⟨hx, hb, hml, hown, hts⟩ (cX10_setM l D cy h a H.size u53 17 r53) (cwV 2 hts gX10_parseTide_X10_set rfl rfl rfl hdX10_set ⟨Nat.le_of_ble_eq_true rfl, Nat.le_of_ble_eq_true rfl⟩) hK hP hD hS hA (q0 := 0) rfl rfl rfl hl.1 rfl (Nat.le_of_ble_eq_true rfl) dX10_parseTide_56 ⟨Nat.zero_le _, Nat.zero_le _⟩ (fun u56 H locs h1 hP hD hS => ?_)
  refine lv_aload_n hx hb dX10_parseTide_59 rfl (lv_at hl 0 rfl) ?_
  refine lv_bipush (v := 15) hx hb dX10_parseTide_60 rfl ?_
  refine lv_iload_n hx hb dX10_parseTide_62 rfl (lv_at hl 1 rfl) ?_
  refine kc_vV0 (b := h) (As := [.int 15, .int x1]) (rest := []) h1 ⟨hx, hb, hml, hown, hts⟩ (cX10_setM l D cy h a H.size u56 15 x1) (cwV 2 hts gX10_parseTide_X10_set rfl rfl rfl hdX10_set ⟨Nat.le_of_ble_eq_true rfl, Nat.le_of_ble_eq_true rfl⟩) hK hP hD hS hA (q0 := 0) rfl rfl rfl hl.1 rfl (Nat.le_of_ble_eq_true rfl) dX10_parseTide_63 ⟨Nat.zero_le _, Nat.zero_le _⟩ (fun u63 H locs h1 hP hD hS => ?_)
  refine lv_aload_n hx hb dX10_parseTide_66 rfl (lv_at hl 0 rfl) ?_
  refine lv_bipush (v := 16) hx hb dX10_parseTide_67 rfl ?_
  refine lv_iload_n hx hb dX10_parseTide_69 rfl (lv_at hl 2 rfl) ?_
  refine kc_vV0 (b := h) (As := [.int 16, .int x2]) (rest := []) h1 ⟨hx, hb, hml, hown, hts⟩ (cX10_setM l D cy h a H.size u63 16 x2) (cwV 2 hts gX10_parseTide_X10_set rfl rfl rfl hdX10_set ⟨Nat.le_of_ble_eq_true rfl, Nat.le_of_ble_eq_true rfl⟩) hK hP hD hS hA (q0 := 0) rfl rfl rfl hl.1 rfl (Nat.le_of_ble_eq_true rfl) dX10_parseTide_70 ⟨Nat.zero_le _, Nat.zero_le _⟩ (fun u70 H locs h1 hP hD hS => ?_)
  exact kret_v hx hb hr hlocks hP hD hS h1 dX10_parseTide_73
def fX10_parseTide_b0 (u : RS) : Option (RS) :=
  bnd (fX10_passOnce 0 u) (fun u2 => bnd2 (fX10_parseHeight 500 u2) (fun r9 u9 => bnd2 (fX10_lookHeight 500 u9) (fun r17 u17 => (if r17 < r9 then fX10_parseTide_b32 r9 r17 0 u17 else fX10_parseTide_b32 r9 r17 1 u17))))
set_option maxHeartbeats 4000000 in
set_option maxRecDepth 100000 in
theorem tX10_parseTide_b0 {p : Program} {l : Launch} {e : Env} {s : State} {m : MethodId} {args : Array Value} {below : List Frame} {meth : Method} {c : Code} {D : va_G} {cy : Nat → ClassId} {A : Nat → Prop} {h : Nat} {a : Nat → Nat} {za zv : Nat → Nat} (K : RS → Prop) (E : mE D cy RX10 cX10_parseTide 3 none wsX10_parseTide A p s m args meth c) (hZ : mZ za zv A s s.heap)
     (u : RS) (H : Heap) (locs : List Loc) (ls : Array Slot) (hl : lv_has ls 3 [(0, .ref h)]) (hP : va_P D vwCl (wM cy h a u) H) (hD : va_D A (wM cy h a u)) (hS : va_S A s.heap H locs) (h1 : Ok (fX10_parseTide_b0 u) K) :
    kW p l e rmX10_parseTide s m args below meth c H locs (va_Qv K (fun q => kPost D A (wM cy h a q)) A) A 0 ls [] := by
  obtain ⟨hx, hb, hr, hml, hown, hts, hlocks, hK, hA⟩ := id E
  unfold fX10_parseTide_b0 at h1
  refine lv_aload_n hx hb dX10_parseTide_0 rfl (lv_at hl 0 rfl) ?_
  refine lv_iconst (v := 0) hx hb dX10_parseTide_1 rfl ?_
  refine kc_vV0 (b := h) (As := [.int 0]) (rest := []) h1 ⟨hx, hb, hml, hown, hts⟩ (cX10_passOnceM l D cy h a H.size u 0) (cwV 1 hts gX10_parseTide_X10_passOnce rfl rfl rfl hdX10_passOnce ⟨Nat.le_of_ble_eq_true rfl, Nat.le_of_ble_eq_true rfl⟩) hK hP hD hS hA (q0 := 0) rfl rfl rfl hl.1 rfl (Nat.le_of_ble_eq_true rfl) dX10_parseTide_2 ⟨Nat.zero_le _, Nat.zero_le _⟩ (fun u2 H locs h1 hP hD hS => ?_)
  refine lv_aload_n hx hb dX10_parseTide_5 rfl (lv_at hl 0 rfl) ?_
  refine lv_sipush (v := 500) hx hb dX10_parseTide_6 rfl ?_
  refine kc_iV0 (b := h) (As := [.int 500]) (rest := []) h1 ⟨hx, hb, hml, hown, hts⟩ (cX10_parseHeightM l D cy h a H.size u2 500) (cwV 1 hts gX10_parseTide_X10_parseHeight rfl rfl rfl hdX10_parseHeight ⟨Nat.le_of_ble_eq_true rfl, Nat.le_of_ble_eq_true rfl⟩) hK hP hD hS hA (q0 := 0) rfl rfl rfl hl.1 rfl (Nat.le_of_ble_eq_true rfl) dX10_parseTide_9 ⟨Nat.zero_le _, Nat.zero_le _⟩ (fun r9 u9 H locs h1 hP hD hS => ?_)
  refine lv_istore_n (lv' := [(1, .int r9), (0, .ref h)]) hx hb dX10_parseTide_12 rfl hl (by decide) rfl (fun ls hl => ?_)
  refine lv_aload_n hx hb dX10_parseTide_13 rfl (lv_at hl 1 rfl) ?_
  refine lv_sipush (v := 500) hx hb dX10_parseTide_14 rfl ?_
  refine kc_iV0 (b := h) (As := [.int 500]) (rest := []) h1 ⟨hx, hb, hml, hown, hts⟩ (cX10_lookHeightM l D cy h a H.size u9 500) (cwV 1 hts gX10_parseTide_X10_lookHeight rfl rfl rfl hdX10_lookHeight ⟨Nat.le_of_ble_eq_true rfl, Nat.le_of_ble_eq_true rfl⟩) hK hP hD hS hA (q0 := 0) rfl rfl rfl hl.1 rfl (Nat.le_of_ble_eq_true rfl) dX10_parseTide_17 ⟨Nat.zero_le _, Nat.zero_le _⟩ (fun r17 u17 H locs h1 hP hD hS => ?_)
  refine lv_istore_n (lv' := [(2, .int r17), (1, .int r9), (0, .ref h)]) hx hb dX10_parseTide_20 rfl hl (by decide) rfl (fun ls hl => ?_)
  refine lv_aload_n hx hb dX10_parseTide_21 rfl (lv_at hl 2 rfl) ?_
  refine lv_iload_n hx hb dX10_parseTide_22 rfl (lv_at hl 0 rfl) ?_
  refine lv_iload_n hx hb dX10_parseTide_23 rfl (lv_at hl 1 rfl) ?_
  refine lv_icmp_lt (tgt := 31) hx hb dX10_parseTide_24 (by decide) (fun c24 => ?_) (fun c24 => ?_)
  · replace h1 := Ok.pos c24 h1
    refine lv_iconst (v := 0) hx hb dX10_parseTide_31 rfl ?_
    exact tX10_parseTide_b32 K E hZ r9 r17 0 u17 H locs ls (lv_sub hl [2, 1, 0] rfl) hP hD hS h1
  · replace h1 := Ok.neg c24 h1
    refine lv_iconst (v := 1) hx hb dX10_parseTide_27 rfl ?_
    refine lv_goto (tgt := 32) hx hb dX10_parseTide_28 (by decide) ?_
    exact tX10_parseTide_b32 K E hZ r9 r17 1 u17 H locs ls (lv_sub hl [2, 1, 0] rfl) hP hD hS h1
def fX10_parseTide (u : RS) : Option (RS) := fX10_parseTide_b0 u
set_option maxHeartbeats 4000000 in
set_option maxRecDepth 100000 in
theorem cX10_parseTideM (l : Launch) (D : va_G) (cy : Nat → ClassId) (za zv : Nat → Nat) (h : Nat) (a : Nat → Nat) (sz : Nat) (u : RS) : ∀ (K : RS → Prop), Ok (fX10_parseTide u) K → Met l yX10_parseTide wsX10_parseTide rmX10_parseTide (va_Pc [.ref h] (kPreZ D cy za zv sz (wM cy h a u))) (va_Qv K (fun q => kPost D (va_A (wM cy h a u) sz) (wM cy h a q)) (va_A (wM cy h a u) sz)) 0 0 (va_A (wM cy h a u) sz) := by
  intro K h1
  refine Met.ofW (cc := cX10_parseTide) (maxL := 3) (ret := none) (by decide) rfl ?_
  intro p e s m args below meth c s₁ B hml hv
  obtain ⟨rfl, ⟨hsz, hP, hK, hD0⟩, hZ⟩ := hv
  subst hsz
  have E : mE D cy RX10 cX10_parseTide 3 none wsX10_parseTide (va_A (wM cy h a u) s.heap.size) p s m _ meth c := ⟨B.exec, B.bytes, B.returns, hml, findClass_of_methodNamed B.named, atoms_spec (ws := wsX10_parseTide) B.pre, B.notSynchronized, hK, fun q h => Or.inr h⟩
  have hl := lv_entry ([.ref h]) (n := 3) (Nat.le_of_ble_eq_true rfl)
  rw [lg_entry_eq]
  generalize (lg_sl ([.ref h]) ++ List.replicate (3 - (lg_sl ([.ref h])).length) Slot.unset).toArray = ls at hl ⊢
  exact tX10_parseTide_b0 K E hZ u _ _ _ hl hP hD0.self va_S.rf h1
-- X10_parseQuay
abbrev rmX10_parseQuay : Room := { frames := 5, cells := 0, slots := 0, locals := 126 }
def fX10_parseQuay_b0 (u : RS) : Option (RS) :=
  bnd (fX10_passOnce 1 u) (fun u2 => bnd2 (fX10_parseHeight 500 u2) (fun r12 u12 => bnd (fX10_set 18 r12 u12) (fun u15 => some u15)))
set_option maxHeartbeats 4000000 in
set_option maxRecDepth 100000 in
theorem tX10_parseQuay_b0 {p : Program} {l : Launch} {e : Env} {s : State} {m : MethodId} {args : Array Value} {below : List Frame} {meth : Method} {c : Code} {D : va_G} {cy : Nat → ClassId} {A : Nat → Prop} {h : Nat} {a : Nat → Nat} {za zv : Nat → Nat} (K : RS → Prop) (E : mE D cy RX10 cX10_parseQuay 1 none wsX10_parseQuay A p s m args meth c) (hZ : mZ za zv A s s.heap)
     (u : RS) (H : Heap) (locs : List Loc) (ls : Array Slot) (hl : lv_has ls 1 [(0, .ref h)]) (hP : va_P D vwCl (wM cy h a u) H) (hD : va_D A (wM cy h a u)) (hS : va_S A s.heap H locs) (h1 : Ok (fX10_parseQuay_b0 u) K) :
    kW p l e rmX10_parseQuay s m args below meth c H locs (va_Qv K (fun q => kPost D A (wM cy h a q)) A) A 0 ls [] := by
  obtain ⟨hx, hb, hr, hml, hown, hts, hlocks, hK, hA⟩ := id E
  unfold fX10_parseQuay_b0 at h1
  refine lv_aload_n hx hb dX10_parseQuay_0 rfl (lv_at hl 0 rfl) ?_
  refine lv_iconst (v := 1) hx hb dX10_parseQuay_1 rfl ?_
  refine kc_vV0 (b := h) (As := [.int 1]) (rest := []) h1 ⟨hx, hb, hml, hown, hts⟩ (cX10_passOnceM l D cy h a H.size u 1) (cwV 1 hts gX10_parseQuay_X10_passOnce rfl rfl rfl hdX10_passOnce ⟨Nat.le_of_ble_eq_true rfl, Nat.le_of_ble_eq_true rfl⟩) hK hP hD hS hA (q0 := 0) rfl rfl rfl hl.1 rfl (Nat.le_of_ble_eq_true rfl) dX10_parseQuay_2 ⟨Nat.zero_le _, Nat.zero_le _⟩ (fun u2 H locs h1 hP hD hS => ?_)
  refine lv_aload_n hx hb dX10_parseQuay_5 rfl (lv_at hl 0 rfl) ?_
  refine lv_bipush (v := 18) hx hb dX10_parseQuay_6 rfl ?_
  refine lv_aload_n hx hb dX10_parseQuay_8 rfl (lv_at hl 0 rfl) ?_
  refine lv_sipush (v := 500) hx hb dX10_parseQuay_9 rfl ?_
  refine kc_iV0 (b := h) (As := [.int 500]) (rest := [.int 18, .ref h]) h1 ⟨hx, hb, hml, hown, hts⟩ (cX10_parseHeightM l D cy h a H.size u2 500) (cwV 1 hts gX10_parseQuay_X10_parseHeight rfl rfl rfl hdX10_parseHeight ⟨Nat.le_of_ble_eq_true rfl, Nat.le_of_ble_eq_true rfl⟩) hK hP hD hS hA (q0 := 0) rfl rfl rfl hl.1 rfl (Nat.le_of_ble_eq_true rfl) dX10_parseQuay_12 ⟨Nat.zero_le _, Nat.zero_le _⟩ (fun r12 u12 H locs h1 hP hD hS => ?_)
  refine kc_vV0 (b := h) (As := [.int 18, .int r12]) (rest := []) h1 ⟨hx, hb, hml, hown, hts⟩ (cX10_setM l D cy h a H.size u12 18 r12) (cwV 2 hts gX10_parseQuay_X10_set rfl rfl rfl hdX10_set ⟨Nat.le_of_ble_eq_true rfl, Nat.le_of_ble_eq_true rfl⟩) hK hP hD hS hA (q0 := 0) rfl rfl rfl hl.1 rfl (Nat.le_of_ble_eq_true rfl) dX10_parseQuay_15 ⟨Nat.zero_le _, Nat.zero_le _⟩ (fun u15 H locs h1 hP hD hS => ?_)
  exact kret_v hx hb hr hlocks hP hD hS h1 dX10_parseQuay_18
def fX10_parseQuay (u : RS) : Option (RS) := fX10_parseQuay_b0 u
set_option maxHeartbeats 4000000 in
set_option maxRecDepth 100000 in
theorem cX10_parseQuayM (l : Launch) (D : va_G) (cy : Nat → ClassId) (za zv : Nat → Nat) (h : Nat) (a : Nat → Nat) (sz : Nat) (u : RS) : ∀ (K : RS → Prop), Ok (fX10_parseQuay u) K → Met l yX10_parseQuay wsX10_parseQuay rmX10_parseQuay (va_Pc [.ref h] (kPreZ D cy za zv sz (wM cy h a u))) (va_Qv K (fun q => kPost D (va_A (wM cy h a u) sz) (wM cy h a q)) (va_A (wM cy h a u) sz)) 0 0 (va_A (wM cy h a u) sz) := by
  intro K h1
  refine Met.ofW (cc := cX10_parseQuay) (maxL := 1) (ret := none) (by decide) rfl ?_
  intro p e s m args below meth c s₁ B hml hv
  obtain ⟨rfl, ⟨hsz, hP, hK, hD0⟩, hZ⟩ := hv
  subst hsz
  have E : mE D cy RX10 cX10_parseQuay 1 none wsX10_parseQuay (va_A (wM cy h a u) s.heap.size) p s m _ meth c := ⟨B.exec, B.bytes, B.returns, hml, findClass_of_methodNamed B.named, atoms_spec (ws := wsX10_parseQuay) B.pre, B.notSynchronized, hK, fun q h => Or.inr h⟩
  have hl := lv_entry ([.ref h]) (n := 1) (Nat.le_of_ble_eq_true rfl)
  rw [lg_entry_eq]
  generalize (lg_sl ([.ref h]) ++ List.replicate (1 - (lg_sl ([.ref h])).length) Slot.unset).toArray = ls at hl ⊢
  exact tX10_parseQuay_b0 K E hZ u _ _ _ hl hP hD0.self va_S.rf h1
-- X10_parseDeck
abbrev rmX10_parseDeck : Room := { frames := 6, cells := 0, slots := 0, locals := 129 }
def fX10_parseDeck_b0 (u : RS) : Option (RS) :=
  bnd (fX10_passOnce 2 u) (fun u2 => bnd2 (fX10_parseNumber 0 300 u2) (fun r13 u13 => bnd (fX10_set 19 r13 u13) (fun u16 => bnd (fX10_parseWord 41 u16) (fun u22 => bnd2 (fX10_parseNumber 1 999 u22) (fun r33 u33 => bnd (fX10_set 20 r33 u33) (fun u36 => some u36))))))
set_option maxHeartbeats 4000000 in
set_option maxRecDepth 100000 in
theorem tX10_parseDeck_b0 {p : Program} {l : Launch} {e : Env} {s : State} {m : MethodId} {args : Array Value} {below : List Frame} {meth : Method} {c : Code} {D : va_G} {cy : Nat → ClassId} {A : Nat → Prop} {h : Nat} {a : Nat → Nat} {za zv : Nat → Nat} (K : RS → Prop) (E : mE D cy RX10 cX10_parseDeck 1 none wsX10_parseDeck A p s m args meth c) (hZ : mZ za zv A s s.heap)
     (u : RS) (H : Heap) (locs : List Loc) (ls : Array Slot) (hl : lv_has ls 1 [(0, .ref h)]) (hP : va_P D vwCl (wM cy h a u) H) (hD : va_D A (wM cy h a u)) (hS : va_S A s.heap H locs) (h1 : Ok (fX10_parseDeck_b0 u) K) :
    kW p l e rmX10_parseDeck s m args below meth c H locs (va_Qv K (fun q => kPost D A (wM cy h a q)) A) A 0 ls [] := by
  obtain ⟨hx, hb, hr, hml, hown, hts, hlocks, hK, hA⟩ := id E
  unfold fX10_parseDeck_b0 at h1
  refine lv_aload_n hx hb dX10_parseDeck_0 rfl (lv_at hl 0 rfl) ?_
  refine lv_iconst (v := 2) hx hb dX10_parseDeck_1 rfl ?_
  refine kc_vV0 (b := h) (As := [.int 2]) (rest := []) h1 ⟨hx, hb, hml, hown, hts⟩ (cX10_passOnceM l D cy h a H.size u 2) (cwV 1 hts gX10_parseDeck_X10_passOnce rfl rfl rfl hdX10_passOnce ⟨Nat.le_of_ble_eq_true rfl, Nat.le_of_ble_eq_true rfl⟩) hK hP hD hS hA (q0 := 0) rfl rfl rfl hl.1 rfl (Nat.le_of_ble_eq_true rfl) dX10_parseDeck_2 ⟨Nat.zero_le _, Nat.zero_le _⟩ (fun u2 H locs h1 hP hD hS => ?_)
  refine lv_aload_n hx hb dX10_parseDeck_5 rfl (lv_at hl 0 rfl) ?_
  refine lv_bipush (v := 19) hx hb dX10_parseDeck_6 rfl ?_
  refine lv_aload_n hx hb dX10_parseDeck_8 rfl (lv_at hl 0 rfl) ?_
  refine lv_iconst (v := 0) hx hb dX10_parseDeck_9 rfl ?_
  refine lv_sipush (v := 300) hx hb dX10_parseDeck_10 rfl ?_
  refine kc_iV0 (b := h) (As := [.int 0, .int 300]) (rest := [.int 19, .ref h]) h1 ⟨hx, hb, hml, hown, hts⟩ (cX10_parseNumberM l D cy h a H.size u2 0 300) (cwV 2 hts gX10_parseDeck_X10_parseNumber rfl rfl rfl hdX10_parseNumber ⟨Nat.le_of_ble_eq_true rfl, Nat.le_of_ble_eq_true rfl⟩) hK hP hD hS hA (q0 := 0) rfl rfl rfl hl.1 rfl (Nat.le_of_ble_eq_true rfl) dX10_parseDeck_13 ⟨Nat.zero_le _, Nat.zero_le _⟩ (fun r13 u13 H locs h1 hP hD hS => ?_)
  refine kc_vV0 (b := h) (As := [.int 19, .int r13]) (rest := []) h1 ⟨hx, hb, hml, hown, hts⟩ (cX10_setM l D cy h a H.size u13 19 r13) (cwV 2 hts gX10_parseDeck_X10_set rfl rfl rfl hdX10_set ⟨Nat.le_of_ble_eq_true rfl, Nat.le_of_ble_eq_true rfl⟩) hK hP hD hS hA (q0 := 0) rfl rfl rfl hl.1 rfl (Nat.le_of_ble_eq_true rfl) dX10_parseDeck_16 ⟨Nat.zero_le _, Nat.zero_le _⟩ (fun u16 H locs h1 hP hD hS => ?_)
  refine lv_aload_n hx hb dX10_parseDeck_19 rfl (lv_at hl 0 rfl) ?_
  refine k_ldcS (tx := "sink") (q := za 41) hx hb hown (k_site hZ 41 (by decide)) dX10_parseDeck_20 ?_
  refine kz_vV0 (b := h) (As := [.ref (za 41)]) (rest := []) h1 ⟨hx, hb, hml, hown, hts⟩ (cX10_parseWordM l D cy za zv h a H.size 41 u16 (by decide)) (cwV 1 hts gX10_parseDeck_X10_parseWord rfl rfl rfl hdX10_parseWord ⟨Nat.le_of_ble_eq_true rfl, Nat.le_of_ble_eq_true rfl⟩) hZ hK hP hD hS hA (q0 := 0) rfl rfl rfl hl.1 rfl (Nat.le_of_ble_eq_true rfl) dX10_parseDeck_22 ⟨Nat.zero_le _, Nat.zero_le _⟩ (fun u22 H locs h1 hP hD hS => ?_)
  refine lv_aload_n hx hb dX10_parseDeck_25 rfl (lv_at hl 0 rfl) ?_
  refine lv_bipush (v := 20) hx hb dX10_parseDeck_26 rfl ?_
  refine lv_aload_n hx hb dX10_parseDeck_28 rfl (lv_at hl 0 rfl) ?_
  refine lv_iconst (v := 1) hx hb dX10_parseDeck_29 rfl ?_
  refine lv_sipush (v := 999) hx hb dX10_parseDeck_30 rfl ?_
  refine kc_iV0 (b := h) (As := [.int 1, .int 999]) (rest := [.int 20, .ref h]) h1 ⟨hx, hb, hml, hown, hts⟩ (cX10_parseNumberM l D cy h a H.size u22 1 999) (cwV 2 hts gX10_parseDeck_X10_parseNumber rfl rfl rfl hdX10_parseNumber ⟨Nat.le_of_ble_eq_true rfl, Nat.le_of_ble_eq_true rfl⟩) hK hP hD hS hA (q0 := 0) rfl rfl rfl hl.1 rfl (Nat.le_of_ble_eq_true rfl) dX10_parseDeck_33 ⟨Nat.zero_le _, Nat.zero_le _⟩ (fun r33 u33 H locs h1 hP hD hS => ?_)
  refine kc_vV0 (b := h) (As := [.int 20, .int r33]) (rest := []) h1 ⟨hx, hb, hml, hown, hts⟩ (cX10_setM l D cy h a H.size u33 20 r33) (cwV 2 hts gX10_parseDeck_X10_set rfl rfl rfl hdX10_set ⟨Nat.le_of_ble_eq_true rfl, Nat.le_of_ble_eq_true rfl⟩) hK hP hD hS hA (q0 := 0) rfl rfl rfl hl.1 rfl (Nat.le_of_ble_eq_true rfl) dX10_parseDeck_36 ⟨Nat.zero_le _, Nat.zero_le _⟩ (fun u36 H locs h1 hP hD hS => ?_)
  exact kret_v hx hb hr hlocks hP hD hS h1 dX10_parseDeck_39
def fX10_parseDeck (u : RS) : Option (RS) := fX10_parseDeck_b0 u
set_option maxHeartbeats 4000000 in
set_option maxRecDepth 100000 in
theorem cX10_parseDeckM (l : Launch) (D : va_G) (cy : Nat → ClassId) (za zv : Nat → Nat) (h : Nat) (a : Nat → Nat) (sz : Nat) (u : RS) : ∀ (K : RS → Prop), Ok (fX10_parseDeck u) K → Met l yX10_parseDeck wsX10_parseDeck rmX10_parseDeck (va_Pc [.ref h] (kPreZ D cy za zv sz (wM cy h a u))) (va_Qv K (fun q => kPost D (va_A (wM cy h a u) sz) (wM cy h a q)) (va_A (wM cy h a u) sz)) 0 0 (va_A (wM cy h a u) sz) := by
  intro K h1
  refine Met.ofW (cc := cX10_parseDeck) (maxL := 1) (ret := none) (by decide) rfl ?_
  intro p e s m args below meth c s₁ B hml hv
  obtain ⟨rfl, ⟨hsz, hP, hK, hD0⟩, hZ⟩ := hv
  subst hsz
  have E : mE D cy RX10 cX10_parseDeck 1 none wsX10_parseDeck (va_A (wM cy h a u) s.heap.size) p s m _ meth c := ⟨B.exec, B.bytes, B.returns, hml, findClass_of_methodNamed B.named, atoms_spec (ws := wsX10_parseDeck) B.pre, B.notSynchronized, hK, fun q h => Or.inr h⟩
  have hl := lv_entry ([.ref h]) (n := 1) (Nat.le_of_ble_eq_true rfl)
  rw [lg_entry_eq]
  generalize (lg_sl ([.ref h]) ++ List.replicate (1 - (lg_sl ([.ref h])).length) Slot.unset).toArray = ls at hl ⊢
  exact tX10_parseDeck_b0 K E hZ u _ _ _ hl hP hD0.self va_S.rf h1
-- X10_parseLanes
abbrev rmX10_parseLanes : Room := { frames := 6, cells := 0, slots := 0, locals := 129 }
def fX10_parseLanes_b0 (u : RS) : Option (RS) :=
  bnd (fX10_passOnce 3 u) (fun u2 => bnd2 (fX10_parseNumber 1 30 u2) (fun r12 u12 => bnd (fX10_set 21 r12 u12) (fun u15 => bnd (fX10_parseWord 42 u15) (fun u21 => bnd2 (fX10_parseNumber 1 9999 u21) (fun r32 u32 => bnd (fX10_set 22 r32 u32) (fun u35 => bnd (fX10_parseWord 43 u35) (fun u41 => bnd2 (fX10_parseNumber 0 9999 u41) (fun r52 u52 => bnd (fX10_set 23 r52 u52) (fun u55 => some u55)))))))))
set_option maxHeartbeats 4000000 in
set_option maxRecDepth 100000 in
theorem tX10_parseLanes_b0 {p : Program} {l : Launch} {e : Env} {s : State} {m : MethodId} {args : Array Value} {below : List Frame} {meth : Method} {c : Code} {D : va_G} {cy : Nat → ClassId} {A : Nat → Prop} {h : Nat} {a : Nat → Nat} {za zv : Nat → Nat} (K : RS → Prop) (E : mE D cy RX10 cX10_parseLanes 1 none wsX10_parseLanes A p s m args meth c) (hZ : mZ za zv A s s.heap)
     (u : RS) (H : Heap) (locs : List Loc) (ls : Array Slot) (hl : lv_has ls 1 [(0, .ref h)]) (hP : va_P D vwCl (wM cy h a u) H) (hD : va_D A (wM cy h a u)) (hS : va_S A s.heap H locs) (h1 : Ok (fX10_parseLanes_b0 u) K) :
    kW p l e rmX10_parseLanes s m args below meth c H locs (va_Qv K (fun q => kPost D A (wM cy h a q)) A) A 0 ls [] := by
  obtain ⟨hx, hb, hr, hml, hown, hts, hlocks, hK, hA⟩ := id E
  unfold fX10_parseLanes_b0 at h1
  refine lv_aload_n hx hb dX10_parseLanes_0 rfl (lv_at hl 0 rfl) ?_
  refine lv_iconst (v := 3) hx hb dX10_parseLanes_1 rfl ?_
  refine kc_vV0 (b := h) (As := [.int 3]) (rest := []) h1 ⟨hx, hb, hml, hown, hts⟩ (cX10_passOnceM l D cy h a H.size u 3) (cwV 1 hts gX10_parseLanes_X10_passOnce rfl rfl rfl hdX10_passOnce ⟨Nat.le_of_ble_eq_true rfl, Nat.le_of_ble_eq_true rfl⟩) hK hP hD hS hA (q0 := 0) rfl rfl rfl hl.1 rfl (Nat.le_of_ble_eq_true rfl) dX10_parseLanes_2 ⟨Nat.zero_le _, Nat.zero_le _⟩ (fun u2 H locs h1 hP hD hS => ?_)
  refine lv_aload_n hx hb dX10_parseLanes_5 rfl (lv_at hl 0 rfl) ?_
  refine lv_bipush (v := 21) hx hb dX10_parseLanes_6 rfl ?_
  refine lv_aload_n hx hb dX10_parseLanes_8 rfl (lv_at hl 0 rfl) ?_
  refine lv_iconst (v := 1) hx hb dX10_parseLanes_9 rfl ?_
  refine lv_bipush (v := 30) hx hb dX10_parseLanes_10 rfl ?_
  refine kc_iV0 (b := h) (As := [.int 1, .int 30]) (rest := [.int 21, .ref h]) h1 ⟨hx, hb, hml, hown, hts⟩ (cX10_parseNumberM l D cy h a H.size u2 1 30) (cwV 2 hts gX10_parseLanes_X10_parseNumber rfl rfl rfl hdX10_parseNumber ⟨Nat.le_of_ble_eq_true rfl, Nat.le_of_ble_eq_true rfl⟩) hK hP hD hS hA (q0 := 0) rfl rfl rfl hl.1 rfl (Nat.le_of_ble_eq_true rfl) dX10_parseLanes_12 ⟨Nat.zero_le _, Nat.zero_le _⟩ (fun r12 u12 H locs h1 hP hD hS => ?_)
  refine kc_vV0 (b := h) (As := [.int 21, .int r12]) (rest := []) h1 ⟨hx, hb, hml, hown, hts⟩ (cX10_setM l D cy h a H.size u12 21 r12) (cwV 2 hts gX10_parseLanes_X10_set rfl rfl rfl hdX10_set ⟨Nat.le_of_ble_eq_true rfl, Nat.le_of_ble_eq_true rfl⟩) hK hP hD hS hA (q0 := 0) rfl rfl rfl hl.1 rfl (Nat.le_of_ble_eq_true rfl) dX10_parseLanes_15 ⟨Nat.zero_le _, Nat.zero_le _⟩ (fun u15 H locs h1 hP hD hS => ?_)
  refine lv_aload_n hx hb dX10_parseLanes_18 rfl (lv_at hl 0 rfl) ?_
  refine k_ldcS (tx := "load") (q := za 42) hx hb hown (k_site hZ 42 (by decide)) dX10_parseLanes_19 ?_
  refine kz_vV0 (b := h) (As := [.ref (za 42)]) (rest := []) h1 ⟨hx, hb, hml, hown, hts⟩ (cX10_parseWordM l D cy za zv h a H.size 42 u15 (by decide)) (cwV 1 hts gX10_parseLanes_X10_parseWord rfl rfl rfl hdX10_parseWord ⟨Nat.le_of_ble_eq_true rfl, Nat.le_of_ble_eq_true rfl⟩) hZ hK hP hD hS hA (q0 := 0) rfl rfl rfl hl.1 rfl (Nat.le_of_ble_eq_true rfl) dX10_parseLanes_21 ⟨Nat.zero_le _, Nat.zero_le _⟩ (fun u21 H locs h1 hP hD hS => ?_)
  refine lv_aload_n hx hb dX10_parseLanes_24 rfl (lv_at hl 0 rfl) ?_
  refine lv_bipush (v := 22) hx hb dX10_parseLanes_25 rfl ?_
  refine lv_aload_n hx hb dX10_parseLanes_27 rfl (lv_at hl 0 rfl) ?_
  refine lv_iconst (v := 1) hx hb dX10_parseLanes_28 rfl ?_
  refine lv_sipush (v := 9999) hx hb dX10_parseLanes_29 rfl ?_
  refine kc_iV0 (b := h) (As := [.int 1, .int 9999]) (rest := [.int 22, .ref h]) h1 ⟨hx, hb, hml, hown, hts⟩ (cX10_parseNumberM l D cy h a H.size u21 1 9999) (cwV 2 hts gX10_parseLanes_X10_parseNumber rfl rfl rfl hdX10_parseNumber ⟨Nat.le_of_ble_eq_true rfl, Nat.le_of_ble_eq_true rfl⟩) hK hP hD hS hA (q0 := 0) rfl rfl rfl hl.1 rfl (Nat.le_of_ble_eq_true rfl) dX10_parseLanes_32 ⟨Nat.zero_le _, Nat.zero_le _⟩ (fun r32 u32 H locs h1 hP hD hS => ?_)
  refine kc_vV0 (b := h) (As := [.int 22, .int r32]) (rest := []) h1 ⟨hx, hb, hml, hown, hts⟩ (cX10_setM l D cy h a H.size u32 22 r32) (cwV 2 hts gX10_parseLanes_X10_set rfl rfl rfl hdX10_set ⟨Nat.le_of_ble_eq_true rfl, Nat.le_of_ble_eq_true rfl⟩) hK hP hD hS hA (q0 := 0) rfl rfl rfl hl.1 rfl (Nat.le_of_ble_eq_true rfl) dX10_parseLanes_35 ⟨Nat.zero_le _, Nat.zero_le _⟩ (fun u35 H locs h1 hP hD hS => ?_)
  refine lv_aload_n hx hb dX10_parseLanes_38 rfl (lv_at hl 0 rfl) ?_
  refine k_ldcS (tx := "list") (q := za 43) hx hb hown (k_site hZ 43 (by decide)) dX10_parseLanes_39 ?_
  refine kz_vV0 (b := h) (As := [.ref (za 43)]) (rest := []) h1 ⟨hx, hb, hml, hown, hts⟩ (cX10_parseWordM l D cy za zv h a H.size 43 u35 (by decide)) (cwV 1 hts gX10_parseLanes_X10_parseWord rfl rfl rfl hdX10_parseWord ⟨Nat.le_of_ble_eq_true rfl, Nat.le_of_ble_eq_true rfl⟩) hZ hK hP hD hS hA (q0 := 0) rfl rfl rfl hl.1 rfl (Nat.le_of_ble_eq_true rfl) dX10_parseLanes_41 ⟨Nat.zero_le _, Nat.zero_le _⟩ (fun u41 H locs h1 hP hD hS => ?_)
  refine lv_aload_n hx hb dX10_parseLanes_44 rfl (lv_at hl 0 rfl) ?_
  refine lv_bipush (v := 23) hx hb dX10_parseLanes_45 rfl ?_
  refine lv_aload_n hx hb dX10_parseLanes_47 rfl (lv_at hl 0 rfl) ?_
  refine lv_iconst (v := 0) hx hb dX10_parseLanes_48 rfl ?_
  refine lv_sipush (v := 9999) hx hb dX10_parseLanes_49 rfl ?_
  refine kc_iV0 (b := h) (As := [.int 0, .int 9999]) (rest := [.int 23, .ref h]) h1 ⟨hx, hb, hml, hown, hts⟩ (cX10_parseNumberM l D cy h a H.size u41 0 9999) (cwV 2 hts gX10_parseLanes_X10_parseNumber rfl rfl rfl hdX10_parseNumber ⟨Nat.le_of_ble_eq_true rfl, Nat.le_of_ble_eq_true rfl⟩) hK hP hD hS hA (q0 := 0) rfl rfl rfl hl.1 rfl (Nat.le_of_ble_eq_true rfl) dX10_parseLanes_52 ⟨Nat.zero_le _, Nat.zero_le _⟩ (fun r52 u52 H locs h1 hP hD hS => ?_)
  refine kc_vV0 (b := h) (As := [.int 23, .int r52]) (rest := []) h1 ⟨hx, hb, hml, hown, hts⟩ (cX10_setM l D cy h a H.size u52 23 r52) (cwV 2 hts gX10_parseLanes_X10_set rfl rfl rfl hdX10_set ⟨Nat.le_of_ble_eq_true rfl, Nat.le_of_ble_eq_true rfl⟩) hK hP hD hS hA (q0 := 0) rfl rfl rfl hl.1 rfl (Nat.le_of_ble_eq_true rfl) dX10_parseLanes_55 ⟨Nat.zero_le _, Nat.zero_le _⟩ (fun u55 H locs h1 hP hD hS => ?_)
  exact kret_v hx hb hr hlocks hP hD hS h1 dX10_parseLanes_58
def fX10_parseLanes (u : RS) : Option (RS) := fX10_parseLanes_b0 u
set_option maxHeartbeats 4000000 in
set_option maxRecDepth 100000 in
theorem cX10_parseLanesM (l : Launch) (D : va_G) (cy : Nat → ClassId) (za zv : Nat → Nat) (h : Nat) (a : Nat → Nat) (sz : Nat) (u : RS) : ∀ (K : RS → Prop), Ok (fX10_parseLanes u) K → Met l yX10_parseLanes wsX10_parseLanes rmX10_parseLanes (va_Pc [.ref h] (kPreZ D cy za zv sz (wM cy h a u))) (va_Qv K (fun q => kPost D (va_A (wM cy h a u) sz) (wM cy h a q)) (va_A (wM cy h a u) sz)) 0 0 (va_A (wM cy h a u) sz) := by
  intro K h1
  refine Met.ofW (cc := cX10_parseLanes) (maxL := 1) (ret := none) (by decide) rfl ?_
  intro p e s m args below meth c s₁ B hml hv
  obtain ⟨rfl, ⟨hsz, hP, hK, hD0⟩, hZ⟩ := hv
  subst hsz
  have E : mE D cy RX10 cX10_parseLanes 1 none wsX10_parseLanes (va_A (wM cy h a u) s.heap.size) p s m _ meth c := ⟨B.exec, B.bytes, B.returns, hml, findClass_of_methodNamed B.named, atoms_spec (ws := wsX10_parseLanes) B.pre, B.notSynchronized, hK, fun q h => Or.inr h⟩
  have hl := lv_entry ([.ref h]) (n := 1) (Nat.le_of_ble_eq_true rfl)
  rw [lg_entry_eq]
  generalize (lg_sl ([.ref h]) ++ List.replicate (1 - (lg_sl ([.ref h])).length) Slot.unset).toArray = ls at hl ⊢
  exact tX10_parseLanes_b0 K E hZ u _ _ _ hl hP hD0.self va_S.rf h1
-- X10_parseKind
theorem inX10_parseKind_X10 : ∀ w ∈ u_ws RX10 TX10 23, w ∈ wsX10_parseKind := k_lays 58 rfl
theorem lkX10_parseKind_228 : Cond.fieldLink RX10 228 "FerryRampModel" "toldKinds" "I" ∈ wsX10_parseKind := List.mem_of_getElem? (i := 1) rfl
abbrev rmX10_parseKind : Room := { frames := 4, cells := 0, slots := 0, locals := 104 }
def fX10_parseKind_b28 (x1 : Int32) (s1 : Int32) (u : RS) : Option (RS) :=
  bnd (fX10_require s1 3 u) (fun u29 => bnd (fX10_proceed (nTk u29 ((mTk u29) ||| (1 <<< (x1 &&& 31))))) (fun u45 => bnd2 (fX10_parseNumber 0 500 u45) (fun r53 u53 => bnd2 (fX10_parseNumber 0 99 u53) (fun r61 u61 => bnd2 (fX10_parseNumber 1 9 u61) (fun r69 u69 => bnd (fX10_isFine u69) (fun r75 => (if r75 = 0 then some u69 else bnd (fX10_layKind x1 r53 r61 r69 (mSt u69)) (fun u87 => some (nStA u69 u87)))))))))
set_option maxHeartbeats 4000000 in
set_option maxRecDepth 100000 in
theorem tX10_parseKind_b28 {p : Program} {l : Launch} {e : Env} {s : State} {m : MethodId} {args : Array Value} {below : List Frame} {meth : Method} {c : Code} {D : va_G} {cy : Nat → ClassId} {A : Nat → Prop} {h : Nat} {a : Nat → Nat} {za zv : Nat → Nat} (K : RS → Prop) (E : mE D cy RX10 cX10_parseKind 5 none wsX10_parseKind A p s m args meth c) (hZ : mZ za zv A s s.heap)
     (x1 : Int32) (s1 : Int32) (u : RS) (H : Heap) (locs : List Loc) (ls : Array Slot) (hl : lv_has ls 5 [(0, .ref h), (1, .int x1)]) (hP : va_P D vwCl (wM cy h a u) H) (hD : va_D A (wM cy h a u)) (hS : va_S A s.heap H locs) (h1 : Ok (fX10_parseKind_b28 x1 s1 u) K) :
    kW p l e rmX10_parseKind s m args below meth c H locs (va_Qv K (fun q => kPost D A (wM cy h a q)) A) A 28 ls [.int s1, .ref h] := by
  obtain ⟨hx, hb, hr, hml, hown, hts, hlocks, hK, hA⟩ := id E
  unfold fX10_parseKind_b28 at h1
  refine lv_iconst (v := 3) hx hb dX10_parseKind_28 rfl ?_
  refine kc_vV0 (b := h) (As := [.int s1, .int 3]) (rest := []) h1 ⟨hx, hb, hml, hown, hts⟩ (cX10_requireM l D cy h a H.size u s1 3) (cwV 2 hts gX10_parseKind_X10_require rfl rfl rfl hdX10_require ⟨Nat.le_of_ble_eq_true rfl, Nat.le_of_ble_eq_true rfl⟩) hK hP hD hS hA (q0 := 0) rfl rfl rfl hl.1 rfl (Nat.le_of_ble_eq_true rfl) dX10_parseKind_29 ⟨Nat.zero_le _, Nat.zero_le _⟩ (fun u29 H locs h1 hP hD hS => ?_)
  refine lv_aload_n hx hb dX10_parseKind_32 rfl (lv_at hl 0 rfl) ?_
  refine lv_dup hx hb dX10_parseKind_33 rfl ?_
  refine k_get (v := .int (mTk u29)) (C := RX10) (T := TX10) (N := 23) hx hb hts inX10_parseKind_X10 hown hK hP 0 (wM_a0 _ _ _ _) rfl 20 (by decide) lkX10_parseKind_228 (mFs_20 _ _) dX10_parseKind_34 ?_
  refine lv_iconst (v := 1) hx hb dX10_parseKind_37 rfl ?_
  refine lv_iload_n hx hb dX10_parseKind_38 rfl (lv_at hl 1 rfl) ?_
  refine lv_ishl hx hb dX10_parseKind_39 ?_
  refine lv_ior hx hb dX10_parseKind_40 ?_
  refine k_put (v := .int ((mTk u29) ||| (1 <<< (x1 &&& 31)))) (ty := .int) (C := RX10) (T := TX10) (N := 23) hx hb hts inX10_parseKind_X10 tyX10 tyX10_ok nmX10 hown hK hP hD hS 0 (wM_a0 _ _ _ _) rfl 20 (by decide) lkX10_parseKind_228 rfl (by decide +kernel) rfl rfl (Nat.le_of_ble_eq_true rfl) (ws' := wM cy h a (nTk u29 ((mTk u29) ||| (1 <<< (x1 &&& 31))))) (wM_nTk _ _ _ _ _) dX10_parseKind_41 (fun H locs hP hD hS => ?_)
  refine lv_aload_n hx hb dX10_parseKind_44 rfl (lv_at hl 0 rfl) ?_
  refine kc_vV0 (b := h) (As := []) (rest := []) h1 ⟨hx, hb, hml, hown, hts⟩ (cX10_proceedM l D cy h a H.size (nTk u29 ((mTk u29) ||| (1 <<< (x1 &&& 31))))) (cwV 0 hts gX10_parseKind_X10_proceed rfl rfl rfl hdX10_proceed ⟨Nat.le_of_ble_eq_true rfl, Nat.le_of_ble_eq_true rfl⟩) hK hP hD hS hA (q0 := 0) rfl rfl rfl hl.1 rfl (Nat.le_of_ble_eq_true rfl) dX10_parseKind_45 ⟨Nat.zero_le _, Nat.zero_le _⟩ (fun u45 H locs h1 hP hD hS => ?_)
  refine lv_aload_n hx hb dX10_parseKind_48 rfl (lv_at hl 0 rfl) ?_
  refine lv_iconst (v := 0) hx hb dX10_parseKind_49 rfl ?_
  refine lv_sipush (v := 500) hx hb dX10_parseKind_50 rfl ?_
  refine kc_iV0 (b := h) (As := [.int 0, .int 500]) (rest := []) h1 ⟨hx, hb, hml, hown, hts⟩ (cX10_parseNumberM l D cy h a H.size u45 0 500) (cwV 2 hts gX10_parseKind_X10_parseNumber rfl rfl rfl hdX10_parseNumber ⟨Nat.le_of_ble_eq_true rfl, Nat.le_of_ble_eq_true rfl⟩) hK hP hD hS hA (q0 := 0) rfl rfl rfl hl.1 rfl (Nat.le_of_ble_eq_true rfl) dX10_parseKind_53 ⟨Nat.zero_le _, Nat.zero_le _⟩ (fun r53 u53 H locs h1 hP hD hS => ?_)
  refine lv_istore_n (lv' := [(2, .int r53), (0, .ref h), (1, .int x1)]) hx hb dX10_parseKind_56 rfl hl (by decide) rfl (fun ls hl => ?_)
  refine lv_aload_n hx hb dX10_parseKind_57 rfl (lv_at hl 1 rfl) ?_
  refine lv_iconst (v := 0) hx hb dX10_parseKind_58 rfl ?_
  refine lv_bipush (v := 99) hx hb dX10_parseKind_59 rfl ?_
  refine kc_iV0 (b := h) (As := [.int 0, .int 99]) (rest := []) h1 ⟨hx, hb, hml, hown, hts⟩ (cX10_parseNumberM l D cy h a H.size u53 0 99) (cwV 2 hts gX10_parseKind_X10_parseNumber rfl rfl rfl hdX10_parseNumber ⟨Nat.le_of_ble_eq_true rfl, Nat.le_of_ble_eq_true rfl⟩) hK hP hD hS hA (q0 := 0) rfl rfl rfl hl.1 rfl (Nat.le_of_ble_eq_true rfl) dX10_parseKind_61 ⟨Nat.zero_le _, Nat.zero_le _⟩ (fun r61 u61 H locs h1 hP hD hS => ?_)
  refine lv_istore_n (lv' := [(3, .int r61), (2, .int r53), (0, .ref h), (1, .int x1)]) hx hb dX10_parseKind_64 rfl hl (by decide) rfl (fun ls hl => ?_)
  refine lv_aload_n hx hb dX10_parseKind_65 rfl (lv_at hl 2 rfl) ?_
  refine lv_iconst (v := 1) hx hb dX10_parseKind_66 rfl ?_
  refine lv_bipush (v := 9) hx hb dX10_parseKind_67 rfl ?_
  refine kc_iV0 (b := h) (As := [.int 1, .int 9]) (rest := []) h1 ⟨hx, hb, hml, hown, hts⟩ (cX10_parseNumberM l D cy h a H.size u61 1 9) (cwV 2 hts gX10_parseKind_X10_parseNumber rfl rfl rfl hdX10_parseNumber ⟨Nat.le_of_ble_eq_true rfl, Nat.le_of_ble_eq_true rfl⟩) hK hP hD hS hA (q0 := 0) rfl rfl rfl hl.1 rfl (Nat.le_of_ble_eq_true rfl) dX10_parseKind_69 ⟨Nat.zero_le _, Nat.zero_le _⟩ (fun r69 u69 H locs h1 hP hD hS => ?_)
  refine lv_istore (lv' := [(4, .int r69), (3, .int r61), (2, .int r53), (0, .ref h), (1, .int x1)]) hx hb dX10_parseKind_72 hl (by decide) rfl (fun ls hl => ?_)
  refine lv_aload_n hx hb dX10_parseKind_74 rfl (lv_at hl 3 rfl) ?_
  refine kc_rV0 (b := h) (As := []) (rest := []) h1 ⟨hx, hb, hml, hown, hts⟩ (cX10_isFineM l D cy h a H.size u69) (cwV 0 hts gX10_parseKind_X10_isFine rfl rfl rfl hdX10_isFine ⟨Nat.le_of_ble_eq_true rfl, Nat.le_of_ble_eq_true rfl⟩) hK hP hD hS hA (q0 := 0) rfl rfl rfl hl.1 rfl (Nat.le_of_ble_eq_true rfl) dX10_parseKind_75 ⟨Nat.zero_le _, Nat.zero_le _⟩ (fun r75 H locs h1 hP hS => ?_)
  refine lv_if_eq (tgt := 90) hx hb dX10_parseKind_78 (by decide) (fun c78 => ?_) (fun c78 => ?_)
  · replace h1 := Ok.pos c78 h1
    exact kret_v hx hb hr hlocks hP hD hS h1 dX10_parseKind_90
  · replace h1 := Ok.neg c78 h1
    refine lv_aload_n hx hb dX10_parseKind_81 rfl (lv_at hl 3 rfl) ?_
    refine lv_iload_n hx hb dX10_parseKind_82 rfl (lv_at hl 4 rfl) ?_
    refine lv_iload_n hx hb dX10_parseKind_83 rfl (lv_at hl 2 rfl) ?_
    refine lv_iload_n hx hb dX10_parseKind_84 rfl (lv_at hl 1 rfl) ?_
    refine lv_iload hx hb dX10_parseKind_85 (lv_at hl 0 rfl) ?_
    refine kc_vV (b := h) (As := [.int x1, .int r53, .int r61, .int r69]) (rest := []) h1 ⟨hx, hb, hml, hown, hts⟩ (cX10_layKindM l D cy h (a 0) (mRest a u69) H.size (mSt u69) x1 r53 r61 r69) (cwV 4 hts gX10_parseKind_X10_layKind rfl rfl rfl hdX10_layKind ⟨Nat.le_of_ble_eq_true rfl, Nat.le_of_ble_eq_true rfl⟩) hK (wM_split _ _ _ _) hP hD hS hA (q0 := 0) rfl rfl rfl hl.1 rfl (Nat.le_of_ble_eq_true rfl) dX10_parseKind_87 ⟨Nat.zero_le _, Nat.zero_le _⟩ (fun u87 H locs h1 hP hD hS => ?_)
    rw [wM_back] at hP hD
    exact kret_v hx hb hr hlocks hP hD hS h1 dX10_parseKind_90
def fX10_parseKind_b0 (u : RS) : Option (RS) :=
  bnd (fX10_proceed u) (fun u1 => bnd2 (fX10_look 0 3 u1) (fun r7 u7 => (if (((mTk u7) >>> (r7 &&& 31)) &&& 1) = 0 then fX10_parseKind_b28 r7 1 u7 else fX10_parseKind_b28 r7 0 u7)))
set_option maxHeartbeats 4000000 in
set_option maxRecDepth 100000 in
theorem tX10_parseKind_b0 {p : Program} {l : Launch} {e : Env} {s : State} {m : MethodId} {args : Array Value} {below : List Frame} {meth : Method} {c : Code} {D : va_G} {cy : Nat → ClassId} {A : Nat → Prop} {h : Nat} {a : Nat → Nat} {za zv : Nat → Nat} (K : RS → Prop) (E : mE D cy RX10 cX10_parseKind 5 none wsX10_parseKind A p s m args meth c) (hZ : mZ za zv A s s.heap)
     (u : RS) (H : Heap) (locs : List Loc) (ls : Array Slot) (hl : lv_has ls 5 [(0, .ref h)]) (hP : va_P D vwCl (wM cy h a u) H) (hD : va_D A (wM cy h a u)) (hS : va_S A s.heap H locs) (h1 : Ok (fX10_parseKind_b0 u) K) :
    kW p l e rmX10_parseKind s m args below meth c H locs (va_Qv K (fun q => kPost D A (wM cy h a q)) A) A 0 ls [] := by
  obtain ⟨hx, hb, hr, hml, hown, hts, hlocks, hK, hA⟩ := id E
  unfold fX10_parseKind_b0 at h1
  refine lv_aload_n hx hb dX10_parseKind_0 rfl (lv_at hl 0 rfl) ?_
  refine kc_vV0 (b := h) (As := []) (rest := []) h1 ⟨hx, hb, hml, hown, hts⟩ (cX10_proceedM l D cy h a H.size u) (cwV 0 hts gX10_parseKind_X10_proceed rfl rfl rfl hdX10_proceed ⟨Nat.le_of_ble_eq_true rfl, Nat.le_of_ble_eq_true rfl⟩) hK hP hD hS hA (q0 := 0) rfl rfl rfl hl.1 rfl (Nat.le_of_ble_eq_true rfl) dX10_parseKind_1 ⟨Nat.zero_le _, Nat.zero_le _⟩ (fun u1 H locs h1 hP hD hS => ?_)
  refine lv_aload_n hx hb dX10_parseKind_4 rfl (lv_at hl 0 rfl) ?_
  refine lv_iconst (v := 0) hx hb dX10_parseKind_5 rfl ?_
  refine lv_iconst (v := 3) hx hb dX10_parseKind_6 rfl ?_
  refine kc_iV0 (b := h) (As := [.int 0, .int 3]) (rest := []) h1 ⟨hx, hb, hml, hown, hts⟩ (cX10_lookM l D cy h a H.size u1 0 3) (cwV 2 hts gX10_parseKind_X10_look rfl rfl rfl hdX10_look ⟨Nat.le_of_ble_eq_true rfl, Nat.le_of_ble_eq_true rfl⟩) hK hP hD hS hA (q0 := 0) rfl rfl rfl hl.1 rfl (Nat.le_of_ble_eq_true rfl) dX10_parseKind_7 ⟨Nat.zero_le _, Nat.zero_le _⟩ (fun r7 u7 H locs h1 hP hD hS => ?_)
  refine lv_istore_n (lv' := [(1, .int r7), (0, .ref h)]) hx hb dX10_parseKind_10 rfl hl (by decide) rfl (fun ls hl => ?_)
  refine lv_aload_n hx hb dX10_parseKind_11 rfl (lv_at hl 1 rfl) ?_
  refine lv_aload_n hx hb dX10_parseKind_12 rfl (lv_at hl 1 rfl) ?_
  refine k_get (v := .int (mTk u7)) (C := RX10) (T := TX10) (N := 23) hx hb hts inX10_parseKind_X10 hown hK hP 0 (wM_a0 _ _ _ _) rfl 20 (by decide) lkX10_parseKind_228 (mFs_20 _ _) dX10_parseKind_13 ?_
  refine lv_iload_n hx hb dX10_parseKind_16 rfl (lv_at hl 0 rfl) ?_
  refine lv_ishr hx hb dX10_parseKind_17 ?_
  refine lv_iconst (v := 1) hx hb dX10_parseKind_18 rfl ?_
  refine lv_iand hx hb dX10_parseKind_19 ?_
  refine lv_if_ne (tgt := 27) hx hb dX10_parseKind_20 (by decide) (fun c20 => ?_) (fun c20 => ?_)
  · replace h1 := Ok.neg c20 h1
    refine lv_iconst (v := 0) hx hb dX10_parseKind_27 rfl ?_
    exact tX10_parseKind_b28 K E hZ r7 0 u7 H locs ls (lv_sub hl [1, 0] rfl) hP hD hS h1
  · replace h1 := Ok.pos c20 h1
    refine lv_iconst (v := 1) hx hb dX10_parseKind_23 rfl ?_
    refine lv_goto (tgt := 28) hx hb dX10_parseKind_24 (by decide) ?_
    exact tX10_parseKind_b28 K E hZ r7 1 u7 H locs ls (lv_sub hl [1, 0] rfl) hP hD hS h1
def fX10_parseKind (u : RS) : Option (RS) := fX10_parseKind_b0 u
set_option maxHeartbeats 4000000 in
set_option maxRecDepth 100000 in
theorem cX10_parseKindM (l : Launch) (D : va_G) (cy : Nat → ClassId) (za zv : Nat → Nat) (h : Nat) (a : Nat → Nat) (sz : Nat) (u : RS) : ∀ (K : RS → Prop), Ok (fX10_parseKind u) K → Met l yX10_parseKind wsX10_parseKind rmX10_parseKind (va_Pc [.ref h] (kPreZ D cy za zv sz (wM cy h a u))) (va_Qv K (fun q => kPost D (va_A (wM cy h a u) sz) (wM cy h a q)) (va_A (wM cy h a u) sz)) 0 0 (va_A (wM cy h a u) sz) := by
  intro K h1
  refine Met.ofW (cc := cX10_parseKind) (maxL := 5) (ret := none) (by decide) rfl ?_
  intro p e s m args below meth c s₁ B hml hv
  obtain ⟨rfl, ⟨hsz, hP, hK, hD0⟩, hZ⟩ := hv
  subst hsz
  have E : mE D cy RX10 cX10_parseKind 5 none wsX10_parseKind (va_A (wM cy h a u) s.heap.size) p s m _ meth c := ⟨B.exec, B.bytes, B.returns, hml, findClass_of_methodNamed B.named, atoms_spec (ws := wsX10_parseKind) B.pre, B.notSynchronized, hK, fun q h => Or.inr h⟩
  have hl := lv_entry ([.ref h]) (n := 5) (Nat.le_of_ble_eq_true rfl)
  rw [lg_entry_eq]
  generalize (lg_sl ([.ref h]) ++ List.replicate (5 - (lg_sl ([.ref h])).length) Slot.unset).toArray = ls at hl ⊢
  exact tX10_parseKind_b0 K E hZ u _ _ _ hl hP hD0.self va_S.rf h1
-- X10_parseWinch
abbrev rmX10_parseWinch : Room := { frames := 4, cells := 0, slots := 0, locals := 104 }
def fX10_parseWinch_b0 (u : RS) : Option (RS) :=
  bnd (fX10_passOnce 4 u) (fun u2 => bnd2 (fX10_parseNumber 1 20 u2) (fun r12 u12 => bnd (fX10_set 24 r12 u12) (fun u15 => bnd2 (fX10_parseNumber 0 50 u15) (fun r25 u25 => bnd (fX10_set 25 r25 u25) (fun u28 => bnd2 (fX10_parseNumber 0 20 u28) (fun r38 u38 => bnd (fX10_set 26 r38 u38) (fun u41 => some u41)))))))
set_option maxHeartbeats 4000000 in
set_option maxRecDepth 100000 in
theorem tX10_parseWinch_b0 {p : Program} {l : Launch} {e : Env} {s : State} {m : MethodId} {args : Array Value} {below : List Frame} {meth : Method} {c : Code} {D : va_G} {cy : Nat → ClassId} {A : Nat → Prop} {h : Nat} {a : Nat → Nat} {za zv : Nat → Nat} (K : RS → Prop) (E : mE D cy RX10 cX10_parseWinch 1 none wsX10_parseWinch A p s m args meth c) (hZ : mZ za zv A s s.heap)
     (u : RS) (H : Heap) (locs : List Loc) (ls : Array Slot) (hl : lv_has ls 1 [(0, .ref h)]) (hP : va_P D vwCl (wM cy h a u) H) (hD : va_D A (wM cy h a u)) (hS : va_S A s.heap H locs) (h1 : Ok (fX10_parseWinch_b0 u) K) :
    kW p l e rmX10_parseWinch s m args below meth c H locs (va_Qv K (fun q => kPost D A (wM cy h a q)) A) A 0 ls [] := by
  obtain ⟨hx, hb, hr, hml, hown, hts, hlocks, hK, hA⟩ := id E
  unfold fX10_parseWinch_b0 at h1
  refine lv_aload_n hx hb dX10_parseWinch_0 rfl (lv_at hl 0 rfl) ?_
  refine lv_iconst (v := 4) hx hb dX10_parseWinch_1 rfl ?_
  refine kc_vV0 (b := h) (As := [.int 4]) (rest := []) h1 ⟨hx, hb, hml, hown, hts⟩ (cX10_passOnceM l D cy h a H.size u 4) (cwV 1 hts gX10_parseWinch_X10_passOnce rfl rfl rfl hdX10_passOnce ⟨Nat.le_of_ble_eq_true rfl, Nat.le_of_ble_eq_true rfl⟩) hK hP hD hS hA (q0 := 0) rfl rfl rfl hl.1 rfl (Nat.le_of_ble_eq_true rfl) dX10_parseWinch_2 ⟨Nat.zero_le _, Nat.zero_le _⟩ (fun u2 H locs h1 hP hD hS => ?_)
  refine lv_aload_n hx hb dX10_parseWinch_5 rfl (lv_at hl 0 rfl) ?_
  refine lv_bipush (v := 24) hx hb dX10_parseWinch_6 rfl ?_
  refine lv_aload_n hx hb dX10_parseWinch_8 rfl (lv_at hl 0 rfl) ?_
  refine lv_iconst (v := 1) hx hb dX10_parseWinch_9 rfl ?_
  refine lv_bipush (v := 20) hx hb dX10_parseWinch_10 rfl ?_
  refine kc_iV0 (b := h) (As := [.int 1, .int 20]) (rest := [.int 24, .ref h]) h1 ⟨hx, hb, hml, hown, hts⟩ (cX10_parseNumberM l D cy h a H.size u2 1 20) (cwV 2 hts gX10_parseWinch_X10_parseNumber rfl rfl rfl hdX10_parseNumber ⟨Nat.le_of_ble_eq_true rfl, Nat.le_of_ble_eq_true rfl⟩) hK hP hD hS hA (q0 := 0) rfl rfl rfl hl.1 rfl (Nat.le_of_ble_eq_true rfl) dX10_parseWinch_12 ⟨Nat.zero_le _, Nat.zero_le _⟩ (fun r12 u12 H locs h1 hP hD hS => ?_)
  refine kc_vV0 (b := h) (As := [.int 24, .int r12]) (rest := []) h1 ⟨hx, hb, hml, hown, hts⟩ (cX10_setM l D cy h a H.size u12 24 r12) (cwV 2 hts gX10_parseWinch_X10_set rfl rfl rfl hdX10_set ⟨Nat.le_of_ble_eq_true rfl, Nat.le_of_ble_eq_true rfl⟩) hK hP hD hS hA (q0 := 0) rfl rfl rfl hl.1 rfl (Nat.le_of_ble_eq_true rfl) dX10_parseWinch_15 ⟨Nat.zero_le _, Nat.zero_le _⟩ (fun u15 H locs h1 hP hD hS => ?_)
  refine lv_aload_n hx hb dX10_parseWinch_18 rfl (lv_at hl 0 rfl) ?_
  refine lv_bipush (v := 25) hx hb dX10_parseWinch_19 rfl ?_
  refine lv_aload_n hx hb dX10_parseWinch_21 rfl (lv_at hl 0 rfl) ?_
  refine lv_iconst (v := 0) hx hb dX10_parseWinch_22 rfl ?_
  refine lv_bipush (v := 50) hx hb dX10_parseWinch_23 rfl ?_
  refine kc_iV0 (b := h) (As := [.int 0, .int 50]) (rest := [.int 25, .ref h]) h1 ⟨hx, hb, hml, hown, hts⟩ (cX10_parseNumberM l D cy h a H.size u15 0 50) (cwV 2 hts gX10_parseWinch_X10_parseNumber rfl rfl rfl hdX10_parseNumber ⟨Nat.le_of_ble_eq_true rfl, Nat.le_of_ble_eq_true rfl⟩) hK hP hD hS hA (q0 := 0) rfl rfl rfl hl.1 rfl (Nat.le_of_ble_eq_true rfl) dX10_parseWinch_25 ⟨Nat.zero_le _, Nat.zero_le _⟩ (fun r25 u25 H locs h1 hP hD hS => ?_)
  refine kc_vV0 (b := h) (As := [.int 25, .int r25]) (rest := []) h1 ⟨hx, hb, hml, hown, hts⟩ (cX10_setM l D cy h a H.size u25 25 r25) (cwV 2 hts gX10_parseWinch_X10_set rfl rfl rfl hdX10_set ⟨Nat.le_of_ble_eq_true rfl, Nat.le_of_ble_eq_true rfl⟩) hK hP hD hS hA (q0 := 0) rfl rfl rfl hl.1 rfl (Nat.le_of_ble_eq_true rfl) dX10_parseWinch_28 ⟨Nat.zero_le _, Nat.zero_le _⟩ (fun u28 H locs h1 hP hD hS => ?_)
  refine lv_aload_n hx hb dX10_parseWinch_31 rfl (lv_at hl 0 rfl) ?_
  refine lv_bipush (v := 26) hx hb dX10_parseWinch_32 rfl ?_
  refine lv_aload_n hx hb dX10_parseWinch_34 rfl (lv_at hl 0 rfl) ?_
  refine lv_iconst (v := 0) hx hb dX10_parseWinch_35 rfl ?_
  refine lv_bipush (v := 20) hx hb dX10_parseWinch_36 rfl ?_
  refine kc_iV0 (b := h) (As := [.int 0, .int 20]) (rest := [.int 26, .ref h]) h1 ⟨hx, hb, hml, hown, hts⟩ (cX10_parseNumberM l D cy h a H.size u28 0 20) (cwV 2 hts gX10_parseWinch_X10_parseNumber rfl rfl rfl hdX10_parseNumber ⟨Nat.le_of_ble_eq_true rfl, Nat.le_of_ble_eq_true rfl⟩) hK hP hD hS hA (q0 := 0) rfl rfl rfl hl.1 rfl (Nat.le_of_ble_eq_true rfl) dX10_parseWinch_38 ⟨Nat.zero_le _, Nat.zero_le _⟩ (fun r38 u38 H locs h1 hP hD hS => ?_)
  refine kc_vV0 (b := h) (As := [.int 26, .int r38]) (rest := []) h1 ⟨hx, hb, hml, hown, hts⟩ (cX10_setM l D cy h a H.size u38 26 r38) (cwV 2 hts gX10_parseWinch_X10_set rfl rfl rfl hdX10_set ⟨Nat.le_of_ble_eq_true rfl, Nat.le_of_ble_eq_true rfl⟩) hK hP hD hS hA (q0 := 0) rfl rfl rfl hl.1 rfl (Nat.le_of_ble_eq_true rfl) dX10_parseWinch_41 ⟨Nat.zero_le _, Nat.zero_le _⟩ (fun u41 H locs h1 hP hD hS => ?_)
  exact kret_v hx hb hr hlocks hP hD hS h1 dX10_parseWinch_44
def fX10_parseWinch (u : RS) : Option (RS) := fX10_parseWinch_b0 u
set_option maxHeartbeats 4000000 in
set_option maxRecDepth 100000 in
theorem cX10_parseWinchM (l : Launch) (D : va_G) (cy : Nat → ClassId) (za zv : Nat → Nat) (h : Nat) (a : Nat → Nat) (sz : Nat) (u : RS) : ∀ (K : RS → Prop), Ok (fX10_parseWinch u) K → Met l yX10_parseWinch wsX10_parseWinch rmX10_parseWinch (va_Pc [.ref h] (kPreZ D cy za zv sz (wM cy h a u))) (va_Qv K (fun q => kPost D (va_A (wM cy h a u) sz) (wM cy h a q)) (va_A (wM cy h a u) sz)) 0 0 (va_A (wM cy h a u) sz) := by
  intro K h1
  refine Met.ofW (cc := cX10_parseWinch) (maxL := 1) (ret := none) (by decide) rfl ?_
  intro p e s m args below meth c s₁ B hml hv
  obtain ⟨rfl, ⟨hsz, hP, hK, hD0⟩, hZ⟩ := hv
  subst hsz
  have E : mE D cy RX10 cX10_parseWinch 1 none wsX10_parseWinch (va_A (wM cy h a u) s.heap.size) p s m _ meth c := ⟨B.exec, B.bytes, B.returns, hml, findClass_of_methodNamed B.named, atoms_spec (ws := wsX10_parseWinch) B.pre, B.notSynchronized, hK, fun q h => Or.inr h⟩
  have hl := lv_entry ([.ref h]) (n := 1) (Nat.le_of_ble_eq_true rfl)
  rw [lg_entry_eq]
  generalize (lg_sl ([.ref h]) ++ List.replicate (1 - (lg_sl ([.ref h])).length) Slot.unset).toArray = ls at hl ⊢
  exact tX10_parseWinch_b0 K E hZ u _ _ _ hl hP hD0.self va_S.rf h1
-- X10_parseCross
abbrev rmX10_parseCross : Room := { frames := 6, cells := 0, slots := 0, locals := 129 }
def fX10_parseCross_b0 (u : RS) : Option (RS) :=
  bnd (fX10_passOnce 5 u) (fun u2 => bnd2 (fX10_parseNumber 1 20 u2) (fun r12 u12 => bnd (fX10_set 27 r12 u12) (fun u15 => bnd (fX10_parseWord 44 u15) (fun u22 => bnd2 (fX10_parseNumber 1 50 u22) (fun r32 u32 => bnd (fX10_set 28 r32 u32) (fun u35 => some u35))))))
set_option maxHeartbeats 4000000 in
set_option maxRecDepth 100000 in
theorem tX10_parseCross_b0 {p : Program} {l : Launch} {e : Env} {s : State} {m : MethodId} {args : Array Value} {below : List Frame} {meth : Method} {c : Code} {D : va_G} {cy : Nat → ClassId} {A : Nat → Prop} {h : Nat} {a : Nat → Nat} {za zv : Nat → Nat} (K : RS → Prop) (E : mE D cy RX10 cX10_parseCross 1 none wsX10_parseCross A p s m args meth c) (hZ : mZ za zv A s s.heap)
     (u : RS) (H : Heap) (locs : List Loc) (ls : Array Slot) (hl : lv_has ls 1 [(0, .ref h)]) (hP : va_P D vwCl (wM cy h a u) H) (hD : va_D A (wM cy h a u)) (hS : va_S A s.heap H locs) (h1 : Ok (fX10_parseCross_b0 u) K) :
    kW p l e rmX10_parseCross s m args below meth c H locs (va_Qv K (fun q => kPost D A (wM cy h a q)) A) A 0 ls [] := by
  obtain ⟨hx, hb, hr, hml, hown, hts, hlocks, hK, hA⟩ := id E
  unfold fX10_parseCross_b0 at h1
  refine lv_aload_n hx hb dX10_parseCross_0 rfl (lv_at hl 0 rfl) ?_
  refine lv_iconst (v := 5) hx hb dX10_parseCross_1 rfl ?_
  refine kc_vV0 (b := h) (As := [.int 5]) (rest := []) h1 ⟨hx, hb, hml, hown, hts⟩ (cX10_passOnceM l D cy h a H.size u 5) (cwV 1 hts gX10_parseCross_X10_passOnce rfl rfl rfl hdX10_passOnce ⟨Nat.le_of_ble_eq_true rfl, Nat.le_of_ble_eq_true rfl⟩) hK hP hD hS hA (q0 := 0) rfl rfl rfl hl.1 rfl (Nat.le_of_ble_eq_true rfl) dX10_parseCross_2 ⟨Nat.zero_le _, Nat.zero_le _⟩ (fun u2 H locs h1 hP hD hS => ?_)
  refine lv_aload_n hx hb dX10_parseCross_5 rfl (lv_at hl 0 rfl) ?_
  refine lv_bipush (v := 27) hx hb dX10_parseCross_6 rfl ?_
  refine lv_aload_n hx hb dX10_parseCross_8 rfl (lv_at hl 0 rfl) ?_
  refine lv_iconst (v := 1) hx hb dX10_parseCross_9 rfl ?_
  refine lv_bipush (v := 20) hx hb dX10_parseCross_10 rfl ?_
  refine kc_iV0 (b := h) (As := [.int 1, .int 20]) (rest := [.int 27, .ref h]) h1 ⟨hx, hb, hml, hown, hts⟩ (cX10_parseNumberM l D cy h a H.size u2 1 20) (cwV 2 hts gX10_parseCross_X10_parseNumber rfl rfl rfl hdX10_parseNumber ⟨Nat.le_of_ble_eq_true rfl, Nat.le_of_ble_eq_true rfl⟩) hK hP hD hS hA (q0 := 0) rfl rfl rfl hl.1 rfl (Nat.le_of_ble_eq_true rfl) dX10_parseCross_12 ⟨Nat.zero_le _, Nat.zero_le _⟩ (fun r12 u12 H locs h1 hP hD hS => ?_)
  refine kc_vV0 (b := h) (As := [.int 27, .int r12]) (rest := []) h1 ⟨hx, hb, hml, hown, hts⟩ (cX10_setM l D cy h a H.size u12 27 r12) (cwV 2 hts gX10_parseCross_X10_set rfl rfl rfl hdX10_set ⟨Nat.le_of_ble_eq_true rfl, Nat.le_of_ble_eq_true rfl⟩) hK hP hD hS hA (q0 := 0) rfl rfl rfl hl.1 rfl (Nat.le_of_ble_eq_true rfl) dX10_parseCross_15 ⟨Nat.zero_le _, Nat.zero_le _⟩ (fun u15 H locs h1 hP hD hS => ?_)
  refine lv_aload_n hx hb dX10_parseCross_18 rfl (lv_at hl 0 rfl) ?_
  refine k_ldcSW (tx := "patience") (q := za 44) hx hb hown (k_site hZ 44 (by decide)) dX10_parseCross_19 ?_
  refine kz_vV0 (b := h) (As := [.ref (za 44)]) (rest := []) h1 ⟨hx, hb, hml, hown, hts⟩ (cX10_parseWordM l D cy za zv h a H.size 44 u15 (by decide)) (cwV 1 hts gX10_parseCross_X10_parseWord rfl rfl rfl hdX10_parseWord ⟨Nat.le_of_ble_eq_true rfl, Nat.le_of_ble_eq_true rfl⟩) hZ hK hP hD hS hA (q0 := 0) rfl rfl rfl hl.1 rfl (Nat.le_of_ble_eq_true rfl) dX10_parseCross_22 ⟨Nat.zero_le _, Nat.zero_le _⟩ (fun u22 H locs h1 hP hD hS => ?_)
  refine lv_aload_n hx hb dX10_parseCross_25 rfl (lv_at hl 0 rfl) ?_
  refine lv_bipush (v := 28) hx hb dX10_parseCross_26 rfl ?_
  refine lv_aload_n hx hb dX10_parseCross_28 rfl (lv_at hl 0 rfl) ?_
  refine lv_iconst (v := 1) hx hb dX10_parseCross_29 rfl ?_
  refine lv_bipush (v := 50) hx hb dX10_parseCross_30 rfl ?_
  refine kc_iV0 (b := h) (As := [.int 1, .int 50]) (rest := [.int 28, .ref h]) h1 ⟨hx, hb, hml, hown, hts⟩ (cX10_parseNumberM l D cy h a H.size u22 1 50) (cwV 2 hts gX10_parseCross_X10_parseNumber rfl rfl rfl hdX10_parseNumber ⟨Nat.le_of_ble_eq_true rfl, Nat.le_of_ble_eq_true rfl⟩) hK hP hD hS hA (q0 := 0) rfl rfl rfl hl.1 rfl (Nat.le_of_ble_eq_true rfl) dX10_parseCross_32 ⟨Nat.zero_le _, Nat.zero_le _⟩ (fun r32 u32 H locs h1 hP hD hS => ?_)
  refine kc_vV0 (b := h) (As := [.int 28, .int r32]) (rest := []) h1 ⟨hx, hb, hml, hown, hts⟩ (cX10_setM l D cy h a H.size u32 28 r32) (cwV 2 hts gX10_parseCross_X10_set rfl rfl rfl hdX10_set ⟨Nat.le_of_ble_eq_true rfl, Nat.le_of_ble_eq_true rfl⟩) hK hP hD hS hA (q0 := 0) rfl rfl rfl hl.1 rfl (Nat.le_of_ble_eq_true rfl) dX10_parseCross_35 ⟨Nat.zero_le _, Nat.zero_le _⟩ (fun u35 H locs h1 hP hD hS => ?_)
  exact kret_v hx hb hr hlocks hP hD hS h1 dX10_parseCross_38
def fX10_parseCross (u : RS) : Option (RS) := fX10_parseCross_b0 u
set_option maxHeartbeats 4000000 in
set_option maxRecDepth 100000 in
theorem cX10_parseCrossM (l : Launch) (D : va_G) (cy : Nat → ClassId) (za zv : Nat → Nat) (h : Nat) (a : Nat → Nat) (sz : Nat) (u : RS) : ∀ (K : RS → Prop), Ok (fX10_parseCross u) K → Met l yX10_parseCross wsX10_parseCross rmX10_parseCross (va_Pc [.ref h] (kPreZ D cy za zv sz (wM cy h a u))) (va_Qv K (fun q => kPost D (va_A (wM cy h a u) sz) (wM cy h a q)) (va_A (wM cy h a u) sz)) 0 0 (va_A (wM cy h a u) sz) := by
  intro K h1
  refine Met.ofW (cc := cX10_parseCross) (maxL := 1) (ret := none) (by decide) rfl ?_
  intro p e s m args below meth c s₁ B hml hv
  obtain ⟨rfl, ⟨hsz, hP, hK, hD0⟩, hZ⟩ := hv
  subst hsz
  have E : mE D cy RX10 cX10_parseCross 1 none wsX10_parseCross (va_A (wM cy h a u) s.heap.size) p s m _ meth c := ⟨B.exec, B.bytes, B.returns, hml, findClass_of_methodNamed B.named, atoms_spec (ws := wsX10_parseCross) B.pre, B.notSynchronized, hK, fun q h => Or.inr h⟩
  have hl := lv_entry ([.ref h]) (n := 1) (Nat.le_of_ble_eq_true rfl)
  rw [lg_entry_eq]
  generalize (lg_sl ([.ref h]) ++ List.replicate (1 - (lg_sl ([.ref h])).length) Slot.unset).toArray = ls at hl ⊢
  exact tX10_parseCross_b0 K E hZ u _ _ _ hl hP hD0.self va_S.rf h1
-- X10_parseCar
theorem inX10_parseCar_X10 : ∀ w ∈ u_ws RX10 TX10 23, w ∈ wsX10_parseCar := k_lays 61 rfl
theorem lkX10_parseCar_7 : Cond.fieldLink RX10 7 "FerryRampModel" "state" "[I" ∈ wsX10_parseCar := List.mem_of_getElem? (i := 1) rfl
abbrev rmX10_parseCar : Room := { frames := 4, cells := 0, slots := 0, locals := 104 }
def fX10_parseCar_b18 (s1 : Int32) (u : RS) : Option (RS) :=
  bnd (fX10_require s1 4 u) (fun u19 => bnd (fX10_proceed u19) (fun u23 => bnd2 (fX10_parseNumber 0 3 u23) (fun r29 u29 => bnd2 (fX10_parseNumber 1 999 u29) (fun r38 u38 => bnd (fX10_isFine u38) (fun r43 => (if r43 = 0 then some u38 else bnd2 (fX10_addCar r29 r38 (mSt u38)) (fun r52 u52 => some (nStA u38 u52))))))))
set_option maxHeartbeats 4000000 in
set_option maxRecDepth 100000 in
theorem tX10_parseCar_b18 {p : Program} {l : Launch} {e : Env} {s : State} {m : MethodId} {args : Array Value} {below : List Frame} {meth : Method} {c : Code} {D : va_G} {cy : Nat → ClassId} {A : Nat → Prop} {h : Nat} {a : Nat → Nat} {za zv : Nat → Nat} (K : RS → Prop) (E : mE D cy RX10 cX10_parseCar 4 none wsX10_parseCar A p s m args meth c) (hZ : mZ za zv A s s.heap)
     (s1 : Int32) (u : RS) (H : Heap) (locs : List Loc) (ls : Array Slot) (hl : lv_has ls 4 [(0, .ref h)]) (hP : va_P D vwCl (wM cy h a u) H) (hD : va_D A (wM cy h a u)) (hS : va_S A s.heap H locs) (h1 : Ok (fX10_parseCar_b18 s1 u) K) :
    kW p l e rmX10_parseCar s m args below meth c H locs (va_Qv K (fun q => kPost D A (wM cy h a q)) A) A 18 ls [.int s1, .ref h] := by
  obtain ⟨hx, hb, hr, hml, hown, hts, hlocks, hK, hA⟩ := id E
  unfold fX10_parseCar_b18 at h1
  refine lv_iconst (v := 4) hx hb dX10_parseCar_18 rfl ?_
  refine kc_vV0 (b := h) (As := [.int s1, .int 4]) (rest := []) h1 ⟨hx, hb, hml, hown, hts⟩ (cX10_requireM l D cy h a H.size u s1 4) (cwV 2 hts gX10_parseCar_X10_require rfl rfl rfl hdX10_require ⟨Nat.le_of_ble_eq_true rfl, Nat.le_of_ble_eq_true rfl⟩) hK hP hD hS hA (q0 := 0) rfl rfl rfl hl.1 rfl (Nat.le_of_ble_eq_true rfl) dX10_parseCar_19 ⟨Nat.zero_le _, Nat.zero_le _⟩ (fun u19 H locs h1 hP hD hS => ?_)
  refine lv_aload_n hx hb dX10_parseCar_22 rfl (lv_at hl 0 rfl) ?_
  refine kc_vV0 (b := h) (As := []) (rest := []) h1 ⟨hx, hb, hml, hown, hts⟩ (cX10_proceedM l D cy h a H.size u19) (cwV 0 hts gX10_parseCar_X10_proceed rfl rfl rfl hdX10_proceed ⟨Nat.le_of_ble_eq_true rfl, Nat.le_of_ble_eq_true rfl⟩) hK hP hD hS hA (q0 := 0) rfl rfl rfl hl.1 rfl (Nat.le_of_ble_eq_true rfl) dX10_parseCar_23 ⟨Nat.zero_le _, Nat.zero_le _⟩ (fun u23 H locs h1 hP hD hS => ?_)
  refine lv_aload_n hx hb dX10_parseCar_26 rfl (lv_at hl 0 rfl) ?_
  refine lv_iconst (v := 0) hx hb dX10_parseCar_27 rfl ?_
  refine lv_iconst (v := 3) hx hb dX10_parseCar_28 rfl ?_
  refine kc_iV0 (b := h) (As := [.int 0, .int 3]) (rest := []) h1 ⟨hx, hb, hml, hown, hts⟩ (cX10_parseNumberM l D cy h a H.size u23 0 3) (cwV 2 hts gX10_parseCar_X10_parseNumber rfl rfl rfl hdX10_parseNumber ⟨Nat.le_of_ble_eq_true rfl, Nat.le_of_ble_eq_true rfl⟩) hK hP hD hS hA (q0 := 0) rfl rfl rfl hl.1 rfl (Nat.le_of_ble_eq_true rfl) dX10_parseCar_29 ⟨Nat.zero_le _, Nat.zero_le _⟩ (fun r29 u29 H locs h1 hP hD hS => ?_)
  refine lv_istore_n (lv' := [(1, .int r29), (0, .ref h)]) hx hb dX10_parseCar_32 rfl hl (by decide) rfl (fun ls hl => ?_)
  refine lv_aload_n hx hb dX10_parseCar_33 rfl (lv_at hl 1 rfl) ?_
  refine lv_iconst (v := 1) hx hb dX10_parseCar_34 rfl ?_
  refine lv_sipush (v := 999) hx hb dX10_parseCar_35 rfl ?_
  refine kc_iV0 (b := h) (As := [.int 1, .int 999]) (rest := []) h1 ⟨hx, hb, hml, hown, hts⟩ (cX10_parseNumberM l D cy h a H.size u29 1 999) (cwV 2 hts gX10_parseCar_X10_parseNumber rfl rfl rfl hdX10_parseNumber ⟨Nat.le_of_ble_eq_true rfl, Nat.le_of_ble_eq_true rfl⟩) hK hP hD hS hA (q0 := 0) rfl rfl rfl hl.1 rfl (Nat.le_of_ble_eq_true rfl) dX10_parseCar_38 ⟨Nat.zero_le _, Nat.zero_le _⟩ (fun r38 u38 H locs h1 hP hD hS => ?_)
  refine lv_istore_n (lv' := [(2, .int r38), (1, .int r29), (0, .ref h)]) hx hb dX10_parseCar_41 rfl hl (by decide) rfl (fun ls hl => ?_)
  refine lv_aload_n hx hb dX10_parseCar_42 rfl (lv_at hl 2 rfl) ?_
  refine kc_rV0 (b := h) (As := []) (rest := []) h1 ⟨hx, hb, hml, hown, hts⟩ (cX10_isFineM l D cy h a H.size u38) (cwV 0 hts gX10_parseCar_X10_isFine rfl rfl rfl hdX10_isFine ⟨Nat.le_of_ble_eq_true rfl, Nat.le_of_ble_eq_true rfl⟩) hK hP hD hS hA (q0 := 0) rfl rfl rfl hl.1 rfl (Nat.le_of_ble_eq_true rfl) dX10_parseCar_43 ⟨Nat.zero_le _, Nat.zero_le _⟩ (fun r43 H locs h1 hP hS => ?_)
  refine lv_if_eq (tgt := 56) hx hb dX10_parseCar_46 (by decide) (fun c46 => ?_) (fun c46 => ?_)
  · replace h1 := Ok.pos c46 h1
    exact kret_v hx hb hr hlocks hP hD hS h1 dX10_parseCar_56
  · replace h1 := Ok.neg c46 h1
    refine lv_aload_n hx hb dX10_parseCar_49 rfl (lv_at hl 2 rfl) ?_
    refine lv_iload_n hx hb dX10_parseCar_50 rfl (lv_at hl 1 rfl) ?_
    refine lv_iload_n hx hb dX10_parseCar_51 rfl (lv_at hl 0 rfl) ?_
    refine kc_iV (b := h) (As := [.int r29, .int r38]) (rest := []) h1 ⟨hx, hb, hml, hown, hts⟩ (cX10_addCarM l D cy h (a 0) (mRest a u38) H.size (mSt u38) r29 r38) (cwV 2 hts gX10_parseCar_X10_addCar rfl rfl rfl hdX10_addCar ⟨Nat.le_of_ble_eq_true rfl, Nat.le_of_ble_eq_true rfl⟩) hK (wM_split _ _ _ _) hP hD hS hA (q0 := 0) rfl rfl rfl hl.1 rfl (Nat.le_of_ble_eq_true rfl) dX10_parseCar_52 ⟨Nat.zero_le _, Nat.zero_le _⟩ (fun r52 u52 H locs h1 hP hD hS => ?_)
    rw [wM_back] at hP hD
    refine lv_istore_n (lv' := [(3, .int r52), (2, .int r38), (1, .int r29), (0, .ref h)]) hx hb dX10_parseCar_55 rfl hl (by decide) rfl (fun ls hl => ?_)
    exact kret_v hx hb hr hlocks hP hD hS h1 dX10_parseCar_56
def fX10_parseCar_b0 (u : RS) : Option (RS) :=
  (if 20 ≤ (mSt u 14) then fX10_parseCar_b18 0 u else fX10_parseCar_b18 1 u)
set_option maxHeartbeats 4000000 in
set_option maxRecDepth 100000 in
theorem tX10_parseCar_b0 {p : Program} {l : Launch} {e : Env} {s : State} {m : MethodId} {args : Array Value} {below : List Frame} {meth : Method} {c : Code} {D : va_G} {cy : Nat → ClassId} {A : Nat → Prop} {h : Nat} {a : Nat → Nat} {za zv : Nat → Nat} (K : RS → Prop) (E : mE D cy RX10 cX10_parseCar 4 none wsX10_parseCar A p s m args meth c) (hZ : mZ za zv A s s.heap)
     (u : RS) (H : Heap) (locs : List Loc) (ls : Array Slot) (hl : lv_has ls 4 [(0, .ref h)]) (hP : va_P D vwCl (wM cy h a u) H) (hD : va_D A (wM cy h a u)) (hS : va_S A s.heap H locs) (h1 : Ok (fX10_parseCar_b0 u) K) :
    kW p l e rmX10_parseCar s m args below meth c H locs (va_Qv K (fun q => kPost D A (wM cy h a q)) A) A 0 ls [] := by
  obtain ⟨hx, hb, hr, hml, hown, hts, hlocks, hK, hA⟩ := id E
  unfold fX10_parseCar_b0 at h1
  refine lv_aload_n hx hb dX10_parseCar_0 rfl (lv_at hl 0 rfl) ?_
  refine lv_aload_n hx hb dX10_parseCar_1 rfl (lv_at hl 0 rfl) ?_
  refine k_get (v := .ref (a 0)) (C := RX10) (T := TX10) (N := 23) hx hb hts inX10_parseCar_X10 hown hK hP 0 (wM_a0 _ _ _ _) rfl 0 (by decide) lkX10_parseCar_7 (mFs_0 _ _) dX10_parseCar_2 ?_
  refine lv_bipush (v := 14) hx hb dX10_parseCar_5 rfl ?_
  refine k_iald (k := 14) hx hb hK hP 1 (wM_a1 _ _ _ _) rfl rfl dX10_parseCar_7 ?_
  refine lv_bipush (v := 20) hx hb dX10_parseCar_8 rfl ?_
  refine lv_icmp_ge (tgt := 17) hx hb dX10_parseCar_10 (by decide) (fun c10 => ?_) (fun c10 => ?_)
  · replace h1 := Ok.pos c10 h1
    refine lv_iconst (v := 0) hx hb dX10_parseCar_17 rfl ?_
    exact tX10_parseCar_b18 K E hZ 0 u H locs ls (lv_sub hl [0] rfl) hP hD hS h1
  · replace h1 := Ok.neg c10 h1
    refine lv_iconst (v := 1) hx hb dX10_parseCar_13 rfl ?_
    refine lv_goto (tgt := 18) hx hb dX10_parseCar_14 (by decide) ?_
    exact tX10_parseCar_b18 K E hZ 1 u H locs ls (lv_sub hl [0] rfl) hP hD hS h1
def fX10_parseCar (u : RS) : Option (RS) := fX10_parseCar_b0 u
set_option maxHeartbeats 4000000 in
set_option maxRecDepth 100000 in
theorem cX10_parseCarM (l : Launch) (D : va_G) (cy : Nat → ClassId) (za zv : Nat → Nat) (h : Nat) (a : Nat → Nat) (sz : Nat) (u : RS) : ∀ (K : RS → Prop), Ok (fX10_parseCar u) K → Met l yX10_parseCar wsX10_parseCar rmX10_parseCar (va_Pc [.ref h] (kPreZ D cy za zv sz (wM cy h a u))) (va_Qv K (fun q => kPost D (va_A (wM cy h a u) sz) (wM cy h a q)) (va_A (wM cy h a u) sz)) 0 0 (va_A (wM cy h a u) sz) := by
  intro K h1
  refine Met.ofW (cc := cX10_parseCar) (maxL := 4) (ret := none) (by decide) rfl ?_
  intro p e s m args below meth c s₁ B hml hv
  obtain ⟨rfl, ⟨hsz, hP, hK, hD0⟩, hZ⟩ := hv
  subst hsz
  have E : mE D cy RX10 cX10_parseCar 4 none wsX10_parseCar (va_A (wM cy h a u) s.heap.size) p s m _ meth c := ⟨B.exec, B.bytes, B.returns, hml, findClass_of_methodNamed B.named, atoms_spec (ws := wsX10_parseCar) B.pre, B.notSynchronized, hK, fun q h => Or.inr h⟩
  have hl := lv_entry ([.ref h]) (n := 4) (Nat.le_of_ble_eq_true rfl)
  rw [lg_entry_eq]
  generalize (lg_sl ([.ref h]) ++ List.replicate (4 - (lg_sl ([.ref h])).length) Slot.unset).toArray = ls at hl ⊢
  exact tX10_parseCar_b0 K E hZ u _ _ _ hl hP hD0.self va_S.rf h1
-- X10_parseStatement
theorem hdX10_parseCar : yX10_parseCar.cls = RX10 ∧ yX10_parseCar.cls ≠ "java/lang/invoke/MethodHandle" ∧ yX10_parseCar.cls ≠ "java/lang/invoke/VarHandle" ∧ (parseMethodDescriptor yX10_parseCar.desc).map (fun d => d.parameters.length) = some 0 := by decide +kernel
theorem hdX10_parseEnd : yX10_parseEnd.cls = RX10 ∧ yX10_parseEnd.cls ≠ "java/lang/invoke/MethodHandle" ∧ yX10_parseEnd.cls ≠ "java/lang/invoke/VarHandle" ∧ (parseMethodDescriptor yX10_parseEnd.desc).map (fun d => d.parameters.length) = some 0 := by decide +kernel
theorem hdX10_parseCross : yX10_parseCross.cls = RX10 ∧ yX10_parseCross.cls ≠ "java/lang/invoke/MethodHandle" ∧ yX10_parseCross.cls ≠ "java/lang/invoke/VarHandle" ∧ (parseMethodDescriptor yX10_parseCross.desc).map (fun d => d.parameters.length) = some 0 := by decide +kernel
theorem hdX10_parseWinch : yX10_parseWinch.cls = RX10 ∧ yX10_parseWinch.cls ≠ "java/lang/invoke/MethodHandle" ∧ yX10_parseWinch.cls ≠ "java/lang/invoke/VarHandle" ∧ (parseMethodDescriptor yX10_parseWinch.desc).map (fun d => d.parameters.length) = some 0 := by decide +kernel
theorem hdX10_parseKind : yX10_parseKind.cls = RX10 ∧ yX10_parseKind.cls ≠ "java/lang/invoke/MethodHandle" ∧ yX10_parseKind.cls ≠ "java/lang/invoke/VarHandle" ∧ (parseMethodDescriptor yX10_parseKind.desc).map (fun d => d.parameters.length) = some 0 := by decide +kernel
theorem hdX10_parseLanes : yX10_parseLanes.cls = RX10 ∧ yX10_parseLanes.cls ≠ "java/lang/invoke/MethodHandle" ∧ yX10_parseLanes.cls ≠ "java/lang/invoke/VarHandle" ∧ (parseMethodDescriptor yX10_parseLanes.desc).map (fun d => d.parameters.length) = some 0 := by decide +kernel
theorem hdX10_parseDeck : yX10_parseDeck.cls = RX10 ∧ yX10_parseDeck.cls ≠ "java/lang/invoke/MethodHandle" ∧ yX10_parseDeck.cls ≠ "java/lang/invoke/VarHandle" ∧ (parseMethodDescriptor yX10_parseDeck.desc).map (fun d => d.parameters.length) = some 0 := by decide +kernel
theorem hdX10_parseQuay : yX10_parseQuay.cls = RX10 ∧ yX10_parseQuay.cls ≠ "java/lang/invoke/MethodHandle" ∧ yX10_parseQuay.cls ≠ "java/lang/invoke/VarHandle" ∧ (parseMethodDescriptor yX10_parseQuay.desc).map (fun d => d.parameters.length) = some 0 := by decide +kernel
theorem hdX10_parseTide : yX10_parseTide.cls = RX10 ∧ yX10_parseTide.cls ≠ "java/lang/invoke/MethodHandle" ∧ yX10_parseTide.cls ≠ "java/lang/invoke/VarHandle" ∧ (parseMethodDescriptor yX10_parseTide.desc).map (fun d => d.parameters.length) = some 0 := by decide +kernel
abbrev rmX10_parseStatement : Room := { frames := 7, cells := 0, slots := 0, locals := 151 }
def fX10_parseStatement_b135 (u : RS) : Option (RS) :=
  bnd (fX10_parseEnd u) (fun u136 => some u136)
set_option maxHeartbeats 4000000 in
set_option maxRecDepth 100000 in
theorem tX10_parseStatement_b135 {p : Program} {l : Launch} {e : Env} {s : State} {m : MethodId} {args : Array Value} {below : List Frame} {meth : Method} {c : Code} {D : va_G} {cy : Nat → ClassId} {A : Nat → Prop} {h : Nat} {a : Nat → Nat} {za zv : Nat → Nat} (K : RS → Prop) (E : mE D cy RX10 cX10_parseStatement 1 none wsX10_parseStatement A p s m args meth c) (hZ : mZ za zv A s s.heap)
     (u : RS) (H : Heap) (locs : List Loc) (ls : Array Slot) (hl : lv_has ls 1 [(0, .ref h)]) (hP : va_P D vwCl (wM cy h a u) H) (hD : va_D A (wM cy h a u)) (hS : va_S A s.heap H locs) (h1 : Ok (fX10_parseStatement_b135 u) K) :
    kW p l e rmX10_parseStatement s m args below meth c H locs (va_Qv K (fun q => kPost D A (wM cy h a q)) A) A 135 ls [] := by
  obtain ⟨hx, hb, hr, hml, hown, hts, hlocks, hK, hA⟩ := id E
  unfold fX10_parseStatement_b135 at h1
  refine lv_aload_n hx hb dX10_parseStatement_135 rfl (lv_at hl 0 rfl) ?_
  refine kc_vV0 (b := h) (As := []) (rest := []) h1 ⟨hx, hb, hml, hown, hts⟩ (cX10_parseEndM l D cy h a H.size u) (cwV 0 hts gX10_parseStatement_X10_parseEnd rfl rfl rfl hdX10_parseEnd ⟨Nat.le_of_ble_eq_true rfl, Nat.le_of_ble_eq_true rfl⟩) hK hP hD hS hA (q0 := 0) rfl rfl rfl hl.1 rfl (Nat.le_of_ble_eq_true rfl) dX10_parseStatement_136 ⟨Nat.zero_le _, Nat.zero_le _⟩ (fun u136 H locs h1 hP hD hS => ?_)
  exact kret_v hx hb hr hlocks hP hD hS h1 dX10_parseStatement_139
def fX10_parseStatement_b0 (u : RS) : Option (RS) :=
  bnd (fX10_isWord 45 u) (fun r4 => (if r4 = 0 then bnd (fX10_isWord 46 u) (fun r21 => (if r21 = 0 then bnd (fX10_isWord 47 u) (fun r38 => (if r38 = 0 then bnd (fX10_isWord 48 u) (fun r55 => (if r55 = 0 then bnd (fX10_isWord 49 u) (fun r72 => (if r72 = 0 then bnd (fX10_isWord 50 u) (fun r89 => (if r89 = 0 then bnd (fX10_isWord 51 u) (fun r106 => (if r106 = 0 then bnd (fX10_isWord 52 u) (fun r124 => bnd (fX10_require r124 1 u) (fun u128 => bnd (fX10_parseCar u128) (fun u132 => fX10_parseStatement_b135 u132))) else bnd (fX10_parseCross u) (fun u113 => fX10_parseStatement_b135 u113))) else bnd (fX10_parseWinch u) (fun u96 => fX10_parseStatement_b135 u96))) else bnd (fX10_parseKind u) (fun u79 => fX10_parseStatement_b135 u79))) else bnd (fX10_parseLanes u) (fun u62 => fX10_parseStatement_b135 u62))) else bnd (fX10_parseDeck u) (fun u45 => fX10_parseStatement_b135 u45))) else bnd (fX10_parseQuay u) (fun u28 => fX10_parseStatement_b135 u28))) else bnd (fX10_parseTide u) (fun u11 => fX10_parseStatement_b135 u11)))
set_option maxHeartbeats 4000000 in
set_option maxRecDepth 100000 in
theorem tX10_parseStatement_b0 {p : Program} {l : Launch} {e : Env} {s : State} {m : MethodId} {args : Array Value} {below : List Frame} {meth : Method} {c : Code} {D : va_G} {cy : Nat → ClassId} {A : Nat → Prop} {h : Nat} {a : Nat → Nat} {za zv : Nat → Nat} (K : RS → Prop) (E : mE D cy RX10 cX10_parseStatement 1 none wsX10_parseStatement A p s m args meth c) (hZ : mZ za zv A s s.heap)
     (u : RS) (H : Heap) (locs : List Loc) (ls : Array Slot) (hl : lv_has ls 1 [(0, .ref h)]) (hP : va_P D vwCl (wM cy h a u) H) (hD : va_D A (wM cy h a u)) (hS : va_S A s.heap H locs) (h1 : Ok (fX10_parseStatement_b0 u) K) :
    kW p l e rmX10_parseStatement s m args below meth c H locs (va_Qv K (fun q => kPost D A (wM cy h a q)) A) A 0 ls [] := by
  obtain ⟨hx, hb, hr, hml, hown, hts, hlocks, hK, hA⟩ := id E
  unfold fX10_parseStatement_b0 at h1
  refine lv_aload_n hx hb dX10_parseStatement_0 rfl (lv_at hl 0 rfl) ?_
  refine k_ldcSW (tx := "tide") (q := za 45) hx hb hown (k_site hZ 45 (by decide)) dX10_parseStatement_1 ?_
  refine kz_rV0 (b := h) (As := [.ref (za 45)]) (rest := []) h1 ⟨hx, hb, hml, hown, hts⟩ (cX10_isWordM l D cy za zv h a H.size 45 u (by decide)) (cwV 1 hts gX10_parseStatement_X10_isWord rfl rfl rfl hdX10_isWord ⟨Nat.le_of_ble_eq_true rfl, Nat.le_of_ble_eq_true rfl⟩) hZ hK hP hD hS hA (q0 := 0) rfl rfl rfl hl.1 rfl (Nat.le_of_ble_eq_true rfl) dX10_parseStatement_4 ⟨Nat.zero_le _, Nat.zero_le _⟩ (fun r4 H locs h1 hP hS => ?_)
  refine lv_if_eq (tgt := 17) hx hb dX10_parseStatement_7 (by decide) (fun c7 => ?_) (fun c7 => ?_)
  · replace h1 := Ok.pos c7 h1
    refine lv_aload_n hx hb dX10_parseStatement_17 rfl (lv_at hl 0 rfl) ?_
    refine k_ldcSW (tx := "quay") (q := za 46) hx hb hown (k_site hZ 46 (by decide)) dX10_parseStatement_18 ?_
    refine kz_rV0 (b := h) (As := [.ref (za 46)]) (rest := []) h1 ⟨hx, hb, hml, hown, hts⟩ (cX10_isWordM l D cy za zv h a H.size 46 u (by decide)) (cwV 1 hts gX10_parseStatement_X10_isWord rfl rfl rfl hdX10_isWord ⟨Nat.le_of_ble_eq_true rfl, Nat.le_of_ble_eq_true rfl⟩) hZ hK hP hD hS hA (q0 := 0) rfl rfl rfl hl.1 rfl (Nat.le_of_ble_eq_true rfl) dX10_parseStatement_21 ⟨Nat.zero_le _, Nat.zero_le _⟩ (fun r21 H locs h1 hP hS => ?_)
    refine lv_if_eq (tgt := 34) hx hb dX10_parseStatement_24 (by decide) (fun c24 => ?_) (fun c24 => ?_)
    · replace h1 := Ok.pos c24 h1
      refine lv_aload_n hx hb dX10_parseStatement_34 rfl (lv_at hl 0 rfl) ?_
      refine k_ldcSW (tx := "deck") (q := za 47) hx hb hown (k_site hZ 47 (by decide)) dX10_parseStatement_35 ?_
      refine kz_rV0 (b := h) (As := [.ref (za 47)]) (rest := []) h1 ⟨hx, hb, hml, hown, hts⟩ (cX10_isWordM l D cy za zv h a H.size 47 u (by decide)) (cwV 1 hts gX10_parseStatement_X10_isWord rfl rfl rfl hdX10_isWord ⟨Nat.le_of_ble_eq_true rfl, Nat.le_of_ble_eq_true rfl⟩) hZ hK hP hD hS hA (q0 := 0) rfl rfl rfl hl.1 rfl (Nat.le_of_ble_eq_true rfl) dX10_parseStatement_38 ⟨Nat.zero_le _, Nat.zero_le _⟩ (fun r38 H locs h1 hP hS => ?_)
      refine lv_if_eq (tgt := 51) hx hb dX10_parseStatement_41 (by decide) (fun c41 => ?_) (fun c41 => ?_)
      · replace h1 := Ok.pos c41 h1
        refine lv_aload_n hx hb dX10_parseStatement_51 rfl (lv_at hl 0 rfl) ?_
        refine k_ldcSW (tx := "lanes") (q := za 48) hx hb hown (k_site hZ 48 (by decide)) dX10_parseStatement_52 ?_
        refine kz_rV0 (b := h) (As := [.ref (za 48)]) (rest := []) h1 ⟨hx, hb, hml, hown, hts⟩ (cX10_isWordM l D cy za zv h a H.size 48 u (by decide)) (cwV 1 hts gX10_parseStatement_X10_isWord rfl rfl rfl hdX10_isWord ⟨Nat.le_of_ble_eq_true rfl, Nat.le_of_ble_eq_true rfl⟩) hZ hK hP hD hS hA (q0 := 0) rfl rfl rfl hl.1 rfl (Nat.le_of_ble_eq_true rfl) dX10_parseStatement_55 ⟨Nat.zero_le _, Nat.zero_le _⟩ (fun r55 H locs h1 hP hS => ?_)
        refine lv_if_eq (tgt := 68) hx hb dX10_parseStatement_58 (by decide) (fun c58 => ?_) (fun c58 => ?_)
        · replace h1 := Ok.pos c58 h1
          refine lv_aload_n hx hb dX10_parseStatement_68 rfl (lv_at hl 0 rfl) ?_
          refine k_ldcSW (tx := "kind") (q := za 49) hx hb hown (k_site hZ 49 (by decide)) dX10_parseStatement_69 ?_
          refine kz_rV0 (b := h) (As := [.ref (za 49)]) (rest := []) h1 ⟨hx, hb, hml, hown, hts⟩ (cX10_isWordM l D cy za zv h a H.size 49 u (by decide)) (cwV 1 hts gX10_parseStatement_X10_isWord rfl rfl rfl hdX10_isWord ⟨Nat.le_of_ble_eq_true rfl, Nat.le_of_ble_eq_true rfl⟩) hZ hK hP hD hS hA (q0 := 0) rfl rfl rfl hl.1 rfl (Nat.le_of_ble_eq_true rfl) dX10_parseStatement_72 ⟨Nat.zero_le _, Nat.zero_le _⟩ (fun r72 H locs h1 hP hS => ?_)
          refine lv_if_eq (tgt := 85) hx hb dX10_parseStatement_75 (by decide) (fun c75 => ?_) (fun c75 => ?_)
          · replace h1 := Ok.pos c75 h1
            refine lv_aload_n hx hb dX10_parseStatement_85 rfl (lv_at hl 0 rfl) ?_
            refine k_ldcSW (tx := "winch") (q := za 50) hx hb hown (k_site hZ 50 (by decide)) dX10_parseStatement_86 ?_
            refine kz_rV0 (b := h) (As := [.ref (za 50)]) (rest := []) h1 ⟨hx, hb, hml, hown, hts⟩ (cX10_isWordM l D cy za zv h a H.size 50 u (by decide)) (cwV 1 hts gX10_parseStatement_X10_isWord rfl rfl rfl hdX10_isWord ⟨Nat.le_of_ble_eq_true rfl, Nat.le_of_ble_eq_true rfl⟩) hZ hK hP hD hS hA (q0 := 0) rfl rfl rfl hl.1 rfl (Nat.le_of_ble_eq_true rfl) dX10_parseStatement_89 ⟨Nat.zero_le _, Nat.zero_le _⟩ (fun r89 H locs h1 hP hS => ?_)
            refine lv_if_eq (tgt := 102) hx hb dX10_parseStatement_92 (by decide) (fun c92 => ?_) (fun c92 => ?_)
            · replace h1 := Ok.pos c92 h1
              refine lv_aload_n hx hb dX10_parseStatement_102 rfl (lv_at hl 0 rfl) ?_
              refine k_ldcSW (tx := "cross") (q := za 51) hx hb hown (k_site hZ 51 (by decide)) dX10_parseStatement_103 ?_
              refine kz_rV0 (b := h) (As := [.ref (za 51)]) (rest := []) h1 ⟨hx, hb, hml, hown, hts⟩ (cX10_isWordM l D cy za zv h a H.size 51 u (by decide)) (cwV 1 hts gX10_parseStatement_X10_isWord rfl rfl rfl hdX10_isWord ⟨Nat.le_of_ble_eq_true rfl, Nat.le_of_ble_eq_true rfl⟩) hZ hK hP hD hS hA (q0 := 0) rfl rfl rfl hl.1 rfl (Nat.le_of_ble_eq_true rfl) dX10_parseStatement_106 ⟨Nat.zero_le _, Nat.zero_le _⟩ (fun r106 H locs h1 hP hS => ?_)
              refine lv_if_eq (tgt := 119) hx hb dX10_parseStatement_109 (by decide) (fun c109 => ?_) (fun c109 => ?_)
              · replace h1 := Ok.pos c109 h1
                refine lv_aload_n hx hb dX10_parseStatement_119 rfl (lv_at hl 0 rfl) ?_
                refine lv_aload_n hx hb dX10_parseStatement_120 rfl (lv_at hl 0 rfl) ?_
                refine k_ldcSW (tx := "car") (q := za 52) hx hb hown (k_site hZ 52 (by decide)) dX10_parseStatement_121 ?_
                refine kz_rV0 (b := h) (As := [.ref (za 52)]) (rest := [.ref h]) h1 ⟨hx, hb, hml, hown, hts⟩ (cX10_isWordM l D cy za zv h a H.size 52 u (by decide)) (cwV 1 hts gX10_parseStatement_X10_isWord rfl rfl rfl hdX10_isWord ⟨Nat.le_of_ble_eq_true rfl, Nat.le_of_ble_eq_true rfl⟩) hZ hK hP hD hS hA (q0 := 0) rfl rfl rfl hl.1 rfl (Nat.le_of_ble_eq_true rfl) dX10_parseStatement_124 ⟨Nat.zero_le _, Nat.zero_le _⟩ (fun r124 H locs h1 hP hS => ?_)
                refine lv_iconst (v := 1) hx hb dX10_parseStatement_127 rfl ?_
                refine kc_vV0 (b := h) (As := [.int r124, .int 1]) (rest := []) h1 ⟨hx, hb, hml, hown, hts⟩ (cX10_requireM l D cy h a H.size u r124 1) (cwV 2 hts gX10_parseStatement_X10_require rfl rfl rfl hdX10_require ⟨Nat.le_of_ble_eq_true rfl, Nat.le_of_ble_eq_true rfl⟩) hK hP hD hS hA (q0 := 0) rfl rfl rfl hl.1 rfl (Nat.le_of_ble_eq_true rfl) dX10_parseStatement_128 ⟨Nat.zero_le _, Nat.zero_le _⟩ (fun u128 H locs h1 hP hD hS => ?_)
                refine lv_aload_n hx hb dX10_parseStatement_131 rfl (lv_at hl 0 rfl) ?_
                refine kz_vV0 (b := h) (As := []) (rest := []) h1 ⟨hx, hb, hml, hown, hts⟩ (cX10_parseCarM l D cy za zv h a H.size u128) (cwV 0 hts gX10_parseStatement_X10_parseCar rfl rfl rfl hdX10_parseCar ⟨Nat.le_of_ble_eq_true rfl, Nat.le_of_ble_eq_true rfl⟩) hZ hK hP hD hS hA (q0 := 0) rfl rfl rfl hl.1 rfl (Nat.le_of_ble_eq_true rfl) dX10_parseStatement_132 ⟨Nat.zero_le _, Nat.zero_le _⟩ (fun u132 H locs h1 hP hD hS => ?_)
                exact tX10_parseStatement_b135 K E hZ u132 H locs ls (lv_sub hl [0] rfl) hP hD hS h1
              · replace h1 := Ok.neg c109 h1
                refine lv_aload_n hx hb dX10_parseStatement_112 rfl (lv_at hl 0 rfl) ?_
                refine kz_vV0 (b := h) (As := []) (rest := []) h1 ⟨hx, hb, hml, hown, hts⟩ (cX10_parseCrossM l D cy za zv h a H.size u) (cwV 0 hts gX10_parseStatement_X10_parseCross rfl rfl rfl hdX10_parseCross ⟨Nat.le_of_ble_eq_true rfl, Nat.le_of_ble_eq_true rfl⟩) hZ hK hP hD hS hA (q0 := 0) rfl rfl rfl hl.1 rfl (Nat.le_of_ble_eq_true rfl) dX10_parseStatement_113 ⟨Nat.zero_le _, Nat.zero_le _⟩ (fun u113 H locs h1 hP hD hS => ?_)
                refine lv_goto (tgt := 135) hx hb dX10_parseStatement_116 (by decide) ?_
                exact tX10_parseStatement_b135 K E hZ u113 H locs ls (lv_sub hl [0] rfl) hP hD hS h1
            · replace h1 := Ok.neg c92 h1
              refine lv_aload_n hx hb dX10_parseStatement_95 rfl (lv_at hl 0 rfl) ?_
              refine kz_vV0 (b := h) (As := []) (rest := []) h1 ⟨hx, hb, hml, hown, hts⟩ (cX10_parseWinchM l D cy za zv h a H.size u) (cwV 0 hts gX10_parseStatement_X10_parseWinch rfl rfl rfl hdX10_parseWinch ⟨Nat.le_of_ble_eq_true rfl, Nat.le_of_ble_eq_true rfl⟩) hZ hK hP hD hS hA (q0 := 0) rfl rfl rfl hl.1 rfl (Nat.le_of_ble_eq_true rfl) dX10_parseStatement_96 ⟨Nat.zero_le _, Nat.zero_le _⟩ (fun u96 H locs h1 hP hD hS => ?_)
              refine lv_goto (tgt := 135) hx hb dX10_parseStatement_99 (by decide) ?_
              exact tX10_parseStatement_b135 K E hZ u96 H locs ls (lv_sub hl [0] rfl) hP hD hS h1
          · replace h1 := Ok.neg c75 h1
            refine lv_aload_n hx hb dX10_parseStatement_78 rfl (lv_at hl 0 rfl) ?_
            refine kz_vV0 (b := h) (As := []) (rest := []) h1 ⟨hx, hb, hml, hown, hts⟩ (cX10_parseKindM l D cy za zv h a H.size u) (cwV 0 hts gX10_parseStatement_X10_parseKind rfl rfl rfl hdX10_parseKind ⟨Nat.le_of_ble_eq_true rfl, Nat.le_of_ble_eq_true rfl⟩) hZ hK hP hD hS hA (q0 := 0) rfl rfl rfl hl.1 rfl (Nat.le_of_ble_eq_true rfl) dX10_parseStatement_79 ⟨Nat.zero_le _, Nat.zero_le _⟩ (fun u79 H locs h1 hP hD hS => ?_)
            refine lv_goto (tgt := 135) hx hb dX10_parseStatement_82 (by decide) ?_
            exact tX10_parseStatement_b135 K E hZ u79 H locs ls (lv_sub hl [0] rfl) hP hD hS h1
        · replace h1 := Ok.neg c58 h1
          refine lv_aload_n hx hb dX10_parseStatement_61 rfl (lv_at hl 0 rfl) ?_
          refine kz_vV0 (b := h) (As := []) (rest := []) h1 ⟨hx, hb, hml, hown, hts⟩ (cX10_parseLanesM l D cy za zv h a H.size u) (cwV 0 hts gX10_parseStatement_X10_parseLanes rfl rfl rfl hdX10_parseLanes ⟨Nat.le_of_ble_eq_true rfl, Nat.le_of_ble_eq_true rfl⟩) hZ hK hP hD hS hA (q0 := 0) rfl rfl rfl hl.1 rfl (Nat.le_of_ble_eq_true rfl) dX10_parseStatement_62 ⟨Nat.zero_le _, Nat.zero_le _⟩ (fun u62 H locs h1 hP hD hS => ?_)
          refine lv_goto (tgt := 135) hx hb dX10_parseStatement_65 (by decide) ?_
          exact tX10_parseStatement_b135 K E hZ u62 H locs ls (lv_sub hl [0] rfl) hP hD hS h1
      · replace h1 := Ok.neg c41 h1
        refine lv_aload_n hx hb dX10_parseStatement_44 rfl (lv_at hl 0 rfl) ?_
        refine kz_vV0 (b := h) (As := []) (rest := []) h1 ⟨hx, hb, hml, hown, hts⟩ (cX10_parseDeckM l D cy za zv h a H.size u) (cwV 0 hts gX10_parseStatement_X10_parseDeck rfl rfl rfl hdX10_parseDeck ⟨Nat.le_of_ble_eq_true rfl, Nat.le_of_ble_eq_true rfl⟩) hZ hK hP hD hS hA (q0 := 0) rfl rfl rfl hl.1 rfl (Nat.le_of_ble_eq_true rfl) dX10_parseStatement_45 ⟨Nat.zero_le _, Nat.zero_le _⟩ (fun u45 H locs h1 hP hD hS => ?_)
        refine lv_goto (tgt := 135) hx hb dX10_parseStatement_48 (by decide) ?_
        exact tX10_parseStatement_b135 K E hZ u45 H locs ls (lv_sub hl [0] rfl) hP hD hS h1
    · replace h1 := Ok.neg c24 h1
      refine lv_aload_n hx hb dX10_parseStatement_27 rfl (lv_at hl 0 rfl) ?_
      refine kz_vV0 (b := h) (As := []) (rest := []) h1 ⟨hx, hb, hml, hown, hts⟩ (cX10_parseQuayM l D cy za zv h a H.size u) (cwV 0 hts gX10_parseStatement_X10_parseQuay rfl rfl rfl hdX10_parseQuay ⟨Nat.le_of_ble_eq_true rfl, Nat.le_of_ble_eq_true rfl⟩) hZ hK hP hD hS hA (q0 := 0) rfl rfl rfl hl.1 rfl (Nat.le_of_ble_eq_true rfl) dX10_parseStatement_28 ⟨Nat.zero_le _, Nat.zero_le _⟩ (fun u28 H locs h1 hP hD hS => ?_)
      refine lv_goto (tgt := 135) hx hb dX10_parseStatement_31 (by decide) ?_
      exact tX10_parseStatement_b135 K E hZ u28 H locs ls (lv_sub hl [0] rfl) hP hD hS h1
  · replace h1 := Ok.neg c7 h1
    refine lv_aload_n hx hb dX10_parseStatement_10 rfl (lv_at hl 0 rfl) ?_
    refine kz_vV0 (b := h) (As := []) (rest := []) h1 ⟨hx, hb, hml, hown, hts⟩ (cX10_parseTideM l D cy za zv h a H.size u) (cwV 0 hts gX10_parseStatement_X10_parseTide rfl rfl rfl hdX10_parseTide ⟨Nat.le_of_ble_eq_true rfl, Nat.le_of_ble_eq_true rfl⟩) hZ hK hP hD hS hA (q0 := 0) rfl rfl rfl hl.1 rfl (Nat.le_of_ble_eq_true rfl) dX10_parseStatement_11 ⟨Nat.zero_le _, Nat.zero_le _⟩ (fun u11 H locs h1 hP hD hS => ?_)
    refine lv_goto (tgt := 135) hx hb dX10_parseStatement_14 (by decide) ?_
    exact tX10_parseStatement_b135 K E hZ u11 H locs ls (lv_sub hl [0] rfl) hP hD hS h1
def fX10_parseStatement (u : RS) : Option (RS) := fX10_parseStatement_b0 u
set_option maxHeartbeats 4000000 in
set_option maxRecDepth 100000 in
theorem cX10_parseStatementM (l : Launch) (D : va_G) (cy : Nat → ClassId) (za zv : Nat → Nat) (h : Nat) (a : Nat → Nat) (sz : Nat) (u : RS) : ∀ (K : RS → Prop), Ok (fX10_parseStatement u) K → Met l yX10_parseStatement wsX10_parseStatement rmX10_parseStatement (va_Pc [.ref h] (kPreZ D cy za zv sz (wM cy h a u))) (va_Qv K (fun q => kPost D (va_A (wM cy h a u) sz) (wM cy h a q)) (va_A (wM cy h a u) sz)) 0 0 (va_A (wM cy h a u) sz) := by
  intro K h1
  refine Met.ofW (cc := cX10_parseStatement) (maxL := 1) (ret := none) (by decide) rfl ?_
  intro p e s m args below meth c s₁ B hml hv
  obtain ⟨rfl, ⟨hsz, hP, hK, hD0⟩, hZ⟩ := hv
  subst hsz
  have E : mE D cy RX10 cX10_parseStatement 1 none wsX10_parseStatement (va_A (wM cy h a u) s.heap.size) p s m _ meth c := ⟨B.exec, B.bytes, B.returns, hml, findClass_of_methodNamed B.named, atoms_spec (ws := wsX10_parseStatement) B.pre, B.notSynchronized, hK, fun q h => Or.inr h⟩
  have hl := lv_entry ([.ref h]) (n := 1) (Nat.le_of_ble_eq_true rfl)
  rw [lg_entry_eq]
  generalize (lg_sl ([.ref h]) ++ List.replicate (1 - (lg_sl ([.ref h])).length) Slot.unset).toArray = ls at hl ⊢
  exact tX10_parseStatement_b0 K E hZ u _ _ _ hl hP hD0.self va_S.rf h1
-- X10_load
theorem inX10_load_X10 : ∀ w ∈ u_ws RX10 TX10 23, w ∈ wsX10_load := k_lays 211 rfl
theorem lkX10_load_48 : Cond.fieldLink RX10 48 "FerryRampModel" "thrown" "I" ∈ wsX10_load := List.mem_of_getElem? (i := 1) rfl
theorem lkX10_load_7 : Cond.fieldLink RX10 7 "FerryRampModel" "state" "[I" ∈ wsX10_load := List.mem_of_getElem? (i := 2) rfl
theorem lkX10_load_13 : Cond.fieldLink RX10 13 "FerryRampModel" "aside" "[I" ∈ wsX10_load := List.mem_of_getElem? (i := 3) rfl
theorem hdX10_begin : yX10_begin.cls = RX10 ∧ yX10_begin.cls ≠ "java/lang/invoke/MethodHandle" ∧ yX10_begin.cls ≠ "java/lang/invoke/VarHandle" ∧ (parseMethodDescriptor yX10_begin.desc).map (fun d => d.parameters.length) = some 0 := by decide +kernel
theorem hdX10_startText : yX10_startText.cls = RX10 ∧ yX10_startText.cls ≠ "java/lang/invoke/MethodHandle" ∧ yX10_startText.cls ≠ "java/lang/invoke/VarHandle" ∧ (parseMethodDescriptor yX10_startText.desc).map (fun d => d.parameters.length) = some 0 := by decide +kernel
theorem lkX10_load_158 : Cond.fieldLink RX10 158 "FerryRampModel" "textLength" "I" ∈ wsX10_load := List.mem_of_getElem? (i := 5) rfl
theorem lkX10_load_313 : Cond.fieldLink RX10 313 "FerryRampModel" "acts" "I" ∈ wsX10_load := List.mem_of_getElem? (i := 6) rfl
theorem lkX10_load_176 : Cond.fieldLink RX10 176 "FerryRampModel" "token" "I" ∈ wsX10_load := List.mem_of_getElem? (i := 4) rfl
theorem hdX10_parseStatement : yX10_parseStatement.cls = RX10 ∧ yX10_parseStatement.cls ≠ "java/lang/invoke/MethodHandle" ∧ yX10_parseStatement.cls ≠ "java/lang/invoke/VarHandle" ∧ (parseMethodDescriptor yX10_parseStatement.desc).map (fun d => d.parameters.length) = some 0 := by decide +kernel
abbrev rmX10_load : Room := { frames := 8, cells := 0, slots := 0, locals := 171 }
def fX10_load_b47 (u : RS) : Option (Int32 × RS) :=
  bnd (fX10_isFine (nTl u 0)) (fun r53 => (if r53 = 0 then bnd (fX10_copy 0 0 561 (mAs (nTl u 0)) 561 (mSt (nTl u 0))) (fun u69 => some ((-1), nStA (nTl u 0) u69)) else bnd (fX10_deckAt 0 (mSt (nTl u 0))) (fun r81 => some (mSt (nAc (nSt (nTl u 0) 1 r81) 0) 14, nAc (nSt (nTl u 0) 1 r81) 0))))
set_option maxHeartbeats 4000000 in
set_option maxRecDepth 100000 in
theorem tX10_load_b47 {p : Program} {l : Launch} {e : Env} {s : State} {m : MethodId} {args : Array Value} {below : List Frame} {meth : Method} {c : Code} {D : va_G} {cy : Nat → ClassId} {A : Nat → Prop} {h : Nat} {a : Nat → Nat} {za zv : Nat → Nat} (K : Int32 × RS → Prop) (E : mE D cy RX10 cX10_load 1 (some .int) wsX10_load A p s m args meth c) (hZ : mZ za zv A s s.heap)
     (u : RS) (H : Heap) (locs : List Loc) (ls : Array Slot) (hl : lv_has ls 1 [(0, .ref h)]) (hP : va_P D vwCl (wM cy h a u) H) (hD : va_D A (wM cy h a u)) (hS : va_S A s.heap H locs) (h1 : Ok (fX10_load_b47 u) K) :
    kW p l e rmX10_load s m args below meth c H locs (va_Qi (fun r q => K (r, q)) (fun q => kPost D A (wM cy h a q)) A) A 47 ls [] := by
  obtain ⟨hx, hb, hr, hml, hown, hts, hlocks, hK, hA⟩ := id E
  unfold fX10_load_b47 at h1
  refine lv_aload_n hx hb dX10_load_47 rfl (lv_at hl 0 rfl) ?_
  refine lv_iconst (v := 0) hx hb dX10_load_48 rfl ?_
  refine k_put (v := .int 0) (ty := .int) (C := RX10) (T := TX10) (N := 23) hx hb hts inX10_load_X10 tyX10 tyX10_ok nmX10 hown hK hP hD hS 0 (wM_a0 _ _ _ _) rfl 12 (by decide) lkX10_load_158 rfl (by decide +kernel) rfl rfl (Nat.le_of_ble_eq_true rfl) (ws' := wM cy h a (nTl u 0)) (wM_nTl _ _ _ _ _) dX10_load_49 (fun H locs hP hD hS => ?_)
  refine lv_aload_n hx hb dX10_load_52 rfl (lv_at hl 0 rfl) ?_
  refine kc_rV0 (b := h) (As := []) (rest := []) h1 ⟨hx, hb, hml, hown, hts⟩ (cX10_isFineM l D cy h a H.size (nTl u 0)) (cwV 0 hts gX10_load_X10_isFine rfl rfl rfl hdX10_isFine ⟨Nat.le_of_ble_eq_true rfl, Nat.le_of_ble_eq_true rfl⟩) hK hP hD hS hA (q0 := 0) rfl rfl rfl hl.1 rfl (Nat.le_of_ble_eq_true rfl) dX10_load_53 ⟨Nat.zero_le _, Nat.zero_le _⟩ (fun r53 H locs h1 hP hS => ?_)
  refine lv_if_ne (tgt := 74) hx hb dX10_load_56 (by decide) (fun c56 => ?_) (fun c56 => ?_)
  · replace h1 := Ok.neg c56 h1
    refine lv_aload_n hx hb dX10_load_74 rfl (lv_at hl 0 rfl) ?_
    refine k_get (v := .ref (a 0)) (C := RX10) (T := TX10) (N := 23) hx hb hts inX10_load_X10 hown hK hP 0 (wM_a0 _ _ _ _) rfl 0 (by decide) lkX10_load_7 (mFs_0 _ _) dX10_load_75 ?_
    refine lv_iconst (v := 1) hx hb dX10_load_78 rfl ?_
    refine lv_aload_n hx hb dX10_load_79 rfl (lv_at hl 0 rfl) ?_
    refine lv_iconst (v := 0) hx hb dX10_load_80 rfl ?_
    refine kc_rV (b := h) (As := [.int 0]) (rest := [.int 1, .ref (a 0)]) h1 ⟨hx, hb, hml, hown, hts⟩ (cX10_deckAtM l D cy h (a 0) (mRest a (nTl u 0)) H.size (mSt (nTl u 0)) 0) (cwV 1 hts gX10_load_X10_deckAt rfl rfl rfl hdX10_deckAt ⟨Nat.le_of_ble_eq_true rfl, Nat.le_of_ble_eq_true rfl⟩) hK (wM_split _ _ _ _) hP hD hS hA (q0 := 0) rfl rfl rfl hl.1 rfl (Nat.le_of_ble_eq_true rfl) dX10_load_81 ⟨Nat.zero_le _, Nat.zero_le _⟩ (fun r81 H locs h1 hP hS => ?_)
    refine k_iast (k := 1) (ws' := wM cy h a (nSt (nTl u 0) 1 r81)) hx hb hK hP hD hS 1 (wM_a1 _ _ _ _) rfl rfl (wM_nSt _ _ _ _ _ _) dX10_load_84 (fun H locs hP hD hS => ?_)
    refine lv_aload_n hx hb dX10_load_85 rfl (lv_at hl 0 rfl) ?_
    refine lv_iconst (v := 0) hx hb dX10_load_86 rfl ?_
    refine k_put (v := .int 0) (ty := .int) (C := RX10) (T := TX10) (N := 23) hx hb hts inX10_load_X10 tyX10 tyX10_ok nmX10 hown hK hP hD hS 0 (wM_a0 _ _ _ _) rfl 7 (by decide) lkX10_load_313 rfl (by decide +kernel) rfl rfl (Nat.le_of_ble_eq_true rfl) (ws' := wM cy h a (nAc (nSt (nTl u 0) 1 r81) 0)) (wM_nAc _ _ _ _ _) dX10_load_87 (fun H locs hP hD hS => ?_)
    refine lv_aload_n hx hb dX10_load_90 rfl (lv_at hl 0 rfl) ?_
    refine k_get (v := .ref (a 0)) (C := RX10) (T := TX10) (N := 23) hx hb hts inX10_load_X10 hown hK hP 0 (wM_a0 _ _ _ _) rfl 0 (by decide) lkX10_load_7 (mFs_0 _ _) dX10_load_91 ?_
    refine lv_bipush (v := 14) hx hb dX10_load_94 rfl ?_
    refine k_iald (k := 14) hx hb hK hP 1 (wM_a1 _ _ _ _) rfl rfl dX10_load_96 ?_
    exact kret_i hx hb hr hlocks hP hD hS h1 dX10_load_97
  · replace h1 := Ok.pos c56 h1
    refine lv_aload_n hx hb dX10_load_59 rfl (lv_at hl 0 rfl) ?_
    refine k_get (v := .ref (a 1)) (C := RX10) (T := TX10) (N := 23) hx hb hts inX10_load_X10 hown hK hP 0 (wM_a0 _ _ _ _) rfl 1 (by decide) lkX10_load_13 (mFs_1 _ _) dX10_load_60 ?_
    refine lv_iconst (v := 0) hx hb dX10_load_63 rfl ?_
    refine lv_aload_n hx hb dX10_load_64 rfl (lv_at hl 0 rfl) ?_
    refine k_get (v := .ref (a 0)) (C := RX10) (T := TX10) (N := 23) hx hb hts inX10_load_X10 hown hK hP 0 (wM_a0 _ _ _ _) rfl 0 (by decide) lkX10_load_7 (mFs_0 _ _) dX10_load_65 ?_
    refine lv_iconst (v := 0) hx hb dX10_load_68 rfl ?_
    refine kc_vS (As := [.ref (a 1), .int 0, .ref (a 0), .int 0]) (rest := []) h1 ⟨hx, hb, hml, hown, hts⟩ (cX10_copyM l D cy (a 1) (a 0) H.size 561 (mAs (nTl u 0)) 561 (mSt (nTl u 0)) 0 0) (va_cwS 4 hts gX10_load_X10_copy rfl rfl rfl heX10_copy ⟨Nat.le_of_ble_eq_true rfl, Nat.le_of_ble_eq_true rfl⟩) hK (k_pick2 (i := 2) (j := 1) rfl rfl) hP hD hS hA rfl hl.1 rfl (Nat.le_of_ble_eq_true rfl) dX10_load_69 ⟨Nat.zero_le _, Nat.zero_le _⟩ (fun u69 H locs h1 hP hD hS => ?_)
    replace hP := kP_perm (k_pick2 (l := wM cy h a (nStA (nTl u 0) u69)) (i := 2) (j := 1) rfl rfl).symm hP
    replace hD := kD_perm (k_pick2 (l := wM cy h a (nStA (nTl u 0) u69)) (i := 2) (j := 1) rfl rfl).symm hD
    refine lv_iconst (v := (-1)) hx hb dX10_load_72 rfl ?_
    exact kret_i hx hb hr hlocks hP hD hS h1 dX10_load_73
def fX10_load_b26 (k26 : RS → Option (Int32 × RS)) (u : RS) : Option (Int32 × RS) :=
  bnd (fX10_isFine u) (fun r27 => (if r27 = 0 then fX10_load_b47 u else (if (mTo u) = 0 then fX10_load_b47 u else bnd (fX10_parseStatement u) (fun u41 => k26 u41))))
set_option maxHeartbeats 4000000 in
set_option maxRecDepth 100000 in
theorem tX10_load_b26 {p : Program} {l : Launch} {e : Env} {s : State} {m : MethodId} {args : Array Value} {below : List Frame} {meth : Method} {c : Code} {D : va_G} {cy : Nat → ClassId} {A : Nat → Prop} {h : Nat} {a : Nat → Nat} {za zv : Nat → Nat} (K : Int32 × RS → Prop) (E : mE D cy RX10 cX10_load 1 (some .int) wsX10_load A p s m args meth c) (hZ : mZ za zv A s s.heap)
    (k26 : RS → Option (Int32 × RS)) (hk26 : ∀ (u : RS) (H : Heap) (locs : List Loc) (ls : Array Slot), lv_has ls 1 [(0, .ref h)] → va_P D vwCl (wM cy h a u) H → va_D A (wM cy h a u) → va_S A s.heap H locs → Ok (k26 u) K → kW p l e rmX10_load s m args below meth c H locs (va_Qi (fun r q => K (r, q)) (fun q => kPost D A (wM cy h a q)) A) A 26 ls [])
     (u : RS) (H : Heap) (locs : List Loc) (ls : Array Slot) (hl : lv_has ls 1 [(0, .ref h)]) (hP : va_P D vwCl (wM cy h a u) H) (hD : va_D A (wM cy h a u)) (hS : va_S A s.heap H locs) (h1 : Ok (fX10_load_b26 k26 u) K) :
    kW p l e rmX10_load s m args below meth c H locs (va_Qi (fun r q => K (r, q)) (fun q => kPost D A (wM cy h a q)) A) A 26 ls [] := by
  obtain ⟨hx, hb, hr, hml, hown, hts, hlocks, hK, hA⟩ := id E
  unfold fX10_load_b26 at h1
  refine lv_aload_n hx hb dX10_load_26 rfl (lv_at hl 0 rfl) ?_
  refine kc_rV0 (b := h) (As := []) (rest := []) h1 ⟨hx, hb, hml, hown, hts⟩ (cX10_isFineM l D cy h a H.size u) (cwV 0 hts gX10_load_X10_isFine rfl rfl rfl hdX10_isFine ⟨Nat.le_of_ble_eq_true rfl, Nat.le_of_ble_eq_true rfl⟩) hK hP hD hS hA (q0 := 0) rfl rfl rfl hl.1 rfl (Nat.le_of_ble_eq_true rfl) dX10_load_27 ⟨Nat.zero_le _, Nat.zero_le _⟩ (fun r27 H locs h1 hP hS => ?_)
  refine lv_if_eq (tgt := 47) hx hb dX10_load_30 (by decide) (fun c30 => ?_) (fun c30 => ?_)
  · replace h1 := Ok.pos c30 h1
    exact tX10_load_b47 K E hZ u H locs ls (lv_sub hl [0] rfl) hP hD hS h1
  · replace h1 := Ok.neg c30 h1
    refine lv_aload_n hx hb dX10_load_33 rfl (lv_at hl 0 rfl) ?_
    refine k_get (v := .int (mTo u)) (C := RX10) (T := TX10) (N := 23) hx hb hts inX10_load_X10 hown hK hP 0 (wM_a0 _ _ _ _) rfl 15 (by decide) lkX10_load_176 (mFs_15 _ _) dX10_load_34 ?_
    refine lv_if_eq (tgt := 47) hx hb dX10_load_37 (by decide) (fun c37 => ?_) (fun c37 => ?_)
    · replace h1 := Ok.pos c37 h1
      exact tX10_load_b47 K E hZ u H locs ls (lv_sub hl [0] rfl) hP hD hS h1
    · replace h1 := Ok.neg c37 h1
      refine lv_aload_n hx hb dX10_load_40 rfl (lv_at hl 0 rfl) ?_
      refine kz_vV0 (b := h) (As := []) (rest := []) h1 ⟨hx, hb, hml, hown, hts⟩ (cX10_parseStatementM l D cy za zv h a H.size u) (cwV 0 hts gX10_load_X10_parseStatement rfl rfl rfl hdX10_parseStatement ⟨Nat.le_of_ble_eq_true rfl, Nat.le_of_ble_eq_true rfl⟩) hZ hK hP hD hS hA (q0 := 0) rfl rfl rfl hl.1 rfl (Nat.le_of_ble_eq_true rfl) dX10_load_41 ⟨Nat.zero_le _, Nat.zero_le _⟩ (fun u41 H locs h1 hP hD hS => ?_)
      refine lv_goto (tgt := 26) hx hb dX10_load_44 (by decide) ?_
      exact hk26 u41 H locs ls (lv_sub hl [0] rfl) hP hD hS h1
theorem tX10_load_l26 {p : Program} {l : Launch} {e : Env} {s : State} {m : MethodId} {args : Array Value} {below : List Frame} {meth : Method} {c : Code} {D : va_G} {cy : Nat → ClassId} {A : Nat → Prop} {h : Nat} {a : Nat → Nat} {za zv : Nat → Nat} (K : Int32 × RS → Prop) (E : mE D cy RX10 cX10_load 1 (some .int) wsX10_load A p s m args meth c) (hZ : mZ za zv A s s.heap) : ∀ (n9 : Nat) (u : RS) (H : Heap) (locs : List Loc) (ls : Array Slot), lv_has ls 1 [(0, .ref h)] → va_P D vwCl (wM cy h a u) H → va_D A (wM cy h a u) → va_S A s.heap H locs → Ok (lop (fun y z => fX10_load_b26 y z) n9 u) K → kW p l e rmX10_load s m args below meth c H locs (va_Qi (fun r q => K (r, q)) (fun q => kPost D A (wM cy h a q)) A) A 26 ls [] := by
  intro n9
  induction n9 with
  | zero =>
    intro u H locs ls hl hP hD hS h1
    exact h1.no
  | succ n9 ih =>
    intro u H locs ls hl hP hD hS h1
    exact tX10_load_b26 K E hZ (lop (fun y z => fX10_load_b26 y z) n9) (fun u H locs ls hl hP hD hS h1 => ih u H locs ls hl hP hD hS h1) u H locs ls hl hP hD hS h1
def fX10_load_b0 (u : RS) : Option (Int32 × RS) :=
  bnd (fX10_copy 0 0 561 (mSt (nTh u 0)) 561 (mAs (nTh u 0))) (fun u15 => bnd (fX10_begin (mSt (nAsA (nTh u 0) u15))) (fun u19 => bnd (fX10_startText (nStA (nAsA (nTh u 0) u15) u19)) (fun u23 => lop (fun y z => fX10_load_b26 y z) LF u23)))
set_option maxHeartbeats 4000000 in
set_option maxRecDepth 100000 in
theorem tX10_load_b0 {p : Program} {l : Launch} {e : Env} {s : State} {m : MethodId} {args : Array Value} {below : List Frame} {meth : Method} {c : Code} {D : va_G} {cy : Nat → ClassId} {A : Nat → Prop} {h : Nat} {a : Nat → Nat} {za zv : Nat → Nat} (K : Int32 × RS → Prop) (E : mE D cy RX10 cX10_load 1 (some .int) wsX10_load A p s m args meth c) (hZ : mZ za zv A s s.heap)
     (u : RS) (H : Heap) (locs : List Loc) (ls : Array Slot) (hl : lv_has ls 1 [(0, .ref h)]) (hP : va_P D vwCl (wM cy h a u) H) (hD : va_D A (wM cy h a u)) (hS : va_S A s.heap H locs) (h1 : Ok (fX10_load_b0 u) K) :
    kW p l e rmX10_load s m args below meth c H locs (va_Qi (fun r q => K (r, q)) (fun q => kPost D A (wM cy h a q)) A) A 0 ls [] := by
  obtain ⟨hx, hb, hr, hml, hown, hts, hlocks, hK, hA⟩ := id E
  unfold fX10_load_b0 at h1
  refine lv_aload_n hx hb dX10_load_0 rfl (lv_at hl 0 rfl) ?_
  refine lv_iconst (v := 0) hx hb dX10_load_1 rfl ?_
  refine k_put (v := .int 0) (ty := .int) (C := RX10) (T := TX10) (N := 23) hx hb hts inX10_load_X10 tyX10 tyX10_ok nmX10 hown hK hP hD hS 0 (wM_a0 _ _ _ _) rfl 8 (by decide) lkX10_load_48 rfl (by decide +kernel) rfl rfl (Nat.le_of_ble_eq_true rfl) (ws' := wM cy h a (nTh u 0)) (wM_nTh _ _ _ _ _) dX10_load_2 (fun H locs hP hD hS => ?_)
  refine lv_aload_n hx hb dX10_load_5 rfl (lv_at hl 0 rfl) ?_
  refine k_get (v := .ref (a 0)) (C := RX10) (T := TX10) (N := 23) hx hb hts inX10_load_X10 hown hK hP 0 (wM_a0 _ _ _ _) rfl 0 (by decide) lkX10_load_7 (mFs_0 _ _) dX10_load_6 ?_
  refine lv_iconst (v := 0) hx hb dX10_load_9 rfl ?_
  refine lv_aload_n hx hb dX10_load_10 rfl (lv_at hl 0 rfl) ?_
  refine k_get (v := .ref (a 1)) (C := RX10) (T := TX10) (N := 23) hx hb hts inX10_load_X10 hown hK hP 0 (wM_a0 _ _ _ _) rfl 1 (by decide) lkX10_load_13 (mFs_1 _ _) dX10_load_11 ?_
  refine lv_iconst (v := 0) hx hb dX10_load_14 rfl ?_
  refine kc_vS (As := [.ref (a 0), .int 0, .ref (a 1), .int 0]) (rest := []) h1 ⟨hx, hb, hml, hown, hts⟩ (cX10_copyM l D cy (a 0) (a 1) H.size 561 (mSt (nTh u 0)) 561 (mAs (nTh u 0)) 0 0) (va_cwS 4 hts gX10_load_X10_copy rfl rfl rfl heX10_copy ⟨Nat.le_of_ble_eq_true rfl, Nat.le_of_ble_eq_true rfl⟩) hK (k_pick2 (i := 1) (j := 1) rfl rfl) hP hD hS hA rfl hl.1 rfl (Nat.le_of_ble_eq_true rfl) dX10_load_15 ⟨Nat.zero_le _, Nat.zero_le _⟩ (fun u15 H locs h1 hP hD hS => ?_)
  replace hP := kP_perm (k_pick2 (l := wM cy h a (nAsA (nTh u 0) u15)) (i := 1) (j := 1) rfl rfl).symm hP
  replace hD := kD_perm (k_pick2 (l := wM cy h a (nAsA (nTh u 0) u15)) (i := 1) (j := 1) rfl rfl).symm hD
  refine lv_aload_n hx hb dX10_load_18 rfl (lv_at hl 0 rfl) ?_
  refine kc_vV (b := h) (As := []) (rest := []) h1 ⟨hx, hb, hml, hown, hts⟩ (cX10_beginM l D cy h (a 0) (mRest a (nAsA (nTh u 0) u15)) H.size (mSt (nAsA (nTh u 0) u15))) (cwV 0 hts gX10_load_X10_begin rfl rfl rfl hdX10_begin ⟨Nat.le_of_ble_eq_true rfl, Nat.le_of_ble_eq_true rfl⟩) hK (wM_split _ _ _ _) hP hD hS hA (q0 := 0) rfl rfl rfl hl.1 rfl (Nat.le_of_ble_eq_true rfl) dX10_load_19 ⟨Nat.zero_le _, Nat.zero_le _⟩ (fun u19 H locs h1 hP hD hS => ?_)
  rw [wM_back] at hP hD
  refine lv_aload_n hx hb dX10_load_22 rfl (lv_at hl 0 rfl) ?_
  refine kc_vV0 (b := h) (As := []) (rest := []) h1 ⟨hx, hb, hml, hown, hts⟩ (cX10_startTextM l D cy h a H.size (nStA (nAsA (nTh u 0) u15) u19)) (cwV 0 hts gX10_load_X10_startText rfl rfl rfl hdX10_startText ⟨Nat.le_of_ble_eq_true rfl, Nat.le_of_ble_eq_true rfl⟩) hK hP hD hS hA (q0 := 0) rfl rfl rfl hl.1 rfl (Nat.le_of_ble_eq_true rfl) dX10_load_23 ⟨Nat.zero_le _, Nat.zero_le _⟩ (fun u23 H locs h1 hP hD hS => ?_)
  exact tX10_load_l26 K E hZ LF u23 H locs ls (lv_sub hl [0] rfl) hP hD hS h1
def fX10_load (u : RS) : Option (Int32 × RS) := fX10_load_b0 u
set_option maxHeartbeats 4000000 in
set_option maxRecDepth 100000 in
theorem cX10_loadM (l : Launch) (D : va_G) (cy : Nat → ClassId) (za zv : Nat → Nat) (h : Nat) (a : Nat → Nat) (sz : Nat) (u : RS) : ∀ (K : Int32 → RS → Prop), Ok (fX10_load u) (fun q => K q.1 q.2) → Met l yX10_load wsX10_load rmX10_load (va_Pc [.ref h] (kPreZ D cy za zv sz (wM cy h a u))) (va_Qi K (fun q => kPost D (va_A (wM cy h a u) sz) (wM cy h a q)) (va_A (wM cy h a u) sz)) 0 0 (va_A (wM cy h a u) sz) := by
  intro K h1
  refine Met.ofW (cc := cX10_load) (maxL := 1) (ret := (some .int)) (by decide) rfl ?_
  intro p e s m args below meth c s₁ B hml hv
  obtain ⟨rfl, ⟨hsz, hP, hK, hD0⟩, hZ⟩ := hv
  subst hsz
  have E : mE D cy RX10 cX10_load 1 (some .int) wsX10_load (va_A (wM cy h a u) s.heap.size) p s m _ meth c := ⟨B.exec, B.bytes, B.returns, hml, findClass_of_methodNamed B.named, atoms_spec (ws := wsX10_load) B.pre, B.notSynchronized, hK, fun q h => Or.inr h⟩
  have hl := lv_entry ([.ref h]) (n := 1) (Nat.le_of_ble_eq_true rfl)
  rw [lg_entry_eq]
  generalize (lg_sl ([.ref h]) ++ List.replicate (1 - (lg_sl ([.ref h])).length) Slot.unset).toArray = ls at hl ⊢
  exact tX10_load_b0 (fun q => K q.1 q.2) E hZ u _ _ _ hl hP hD0.self va_S.rf h1
-- X10_commandHere
abbrev rmX10_commandHere : Room := { frames := 5, cells := 0, slots := 0, locals := 108 }
def fX10_commandHere_b0 (u : RS) : Option (Int32) :=
  bnd (fX10_isWord 53 u) (fun r4 => (if r4 = 0 then bnd (fX10_isWord 52 u) (fun r16 => (if r16 = 0 then bnd (fX10_isWord 54 u) (fun r28 => (if r28 = 0 then bnd (fX10_isWord 55 u) (fun r40 => (if r40 = 0 then bnd (fX10_isWord 56 u) (fun r52 => (if r52 = 0 then bnd (fX10_isWord 57 u) (fun r64 => (if r64 = 0 then bnd (fX10_isWord 58 u) (fun r76 => (if r76 = 0 then bnd (fX10_isWord 50 u) (fun r89 => (if r89 = 0 then bnd (fX10_isWord 51 u) (fun r102 => (if r102 = 0 then some (-1) else some 8)) else some 7)) else some 6)) else some 5)) else some 4)) else some 3)) else some 2)) else some 1)) else some 0))
set_option maxHeartbeats 4000000 in
set_option maxRecDepth 100000 in
theorem tX10_commandHere_b0 {p : Program} {l : Launch} {e : Env} {s : State} {m : MethodId} {args : Array Value} {below : List Frame} {meth : Method} {c : Code} {D : va_G} {cy : Nat → ClassId} {A : Nat → Prop} {h : Nat} {a : Nat → Nat} {za zv : Nat → Nat} (K : Int32 → Prop) (E : mE D cy RX10 cX10_commandHere 1 (some .int) wsX10_commandHere A p s m args meth c) (hZ : mZ za zv A s s.heap) (u : RS)
     (H : Heap) (locs : List Loc) (ls : Array Slot) (hl : lv_has ls 1 [(0, .ref h)]) (hP : va_P D vwCl (wM cy h a u) H) (hD : va_D A (wM cy h a u)) (hS : va_S A s.heap H locs) (h1 : Ok (fX10_commandHere_b0 u) K) :
    kW p l e rmX10_commandHere s m args below meth c H locs (va_Qi (fun r (_ : Unit) => K r) (fun _ => kPost D A (wM cy h a u)) A) A 0 ls [] := by
  obtain ⟨hx, hb, hr, hml, hown, hts, hlocks, hK, hA⟩ := id E
  unfold fX10_commandHere_b0 at h1
  refine lv_aload_n hx hb dX10_commandHere_0 rfl (lv_at hl 0 rfl) ?_
  refine k_ldcSW (tx := "tick") (q := za 53) hx hb hown (k_site hZ 53 (by decide)) dX10_commandHere_1 ?_
  refine kz_rV0 (b := h) (As := [.ref (za 53)]) (rest := []) h1 ⟨hx, hb, hml, hown, hts⟩ (cX10_isWordM l D cy za zv h a H.size 53 u (by decide)) (cwV 1 hts gX10_commandHere_X10_isWord rfl rfl rfl hdX10_isWord ⟨Nat.le_of_ble_eq_true rfl, Nat.le_of_ble_eq_true rfl⟩) hZ hK hP hD hS hA (q0 := 0) rfl rfl rfl hl.1 rfl (Nat.le_of_ble_eq_true rfl) dX10_commandHere_4 ⟨Nat.zero_le _, Nat.zero_le _⟩ (fun r4 H locs h1 hP hS => ?_)
  refine lv_if_eq (tgt := 12) hx hb dX10_commandHere_7 (by decide) (fun c7 => ?_) (fun c7 => ?_)
  · replace h1 := Ok.pos c7 h1
    refine lv_aload_n hx hb dX10_commandHere_12 rfl (lv_at hl 0 rfl) ?_
    refine k_ldcSW (tx := "car") (q := za 52) hx hb hown (k_site hZ 52 (by decide)) dX10_commandHere_13 ?_
    refine kz_rV0 (b := h) (As := [.ref (za 52)]) (rest := []) h1 ⟨hx, hb, hml, hown, hts⟩ (cX10_isWordM l D cy za zv h a H.size 52 u (by decide)) (cwV 1 hts gX10_commandHere_X10_isWord rfl rfl rfl hdX10_isWord ⟨Nat.le_of_ble_eq_true rfl, Nat.le_of_ble_eq_true rfl⟩) hZ hK hP hD hS hA (q0 := 0) rfl rfl rfl hl.1 rfl (Nat.le_of_ble_eq_true rfl) dX10_commandHere_16 ⟨Nat.zero_le _, Nat.zero_le _⟩ (fun r16 H locs h1 hP hS => ?_)
    refine lv_if_eq (tgt := 24) hx hb dX10_commandHere_19 (by decide) (fun c19 => ?_) (fun c19 => ?_)
    · replace h1 := Ok.pos c19 h1
      refine lv_aload_n hx hb dX10_commandHere_24 rfl (lv_at hl 0 rfl) ?_
      refine k_ldcSW (tx := "wave") (q := za 54) hx hb hown (k_site hZ 54 (by decide)) dX10_commandHere_25 ?_
      refine kz_rV0 (b := h) (As := [.ref (za 54)]) (rest := []) h1 ⟨hx, hb, hml, hown, hts⟩ (cX10_isWordM l D cy za zv h a H.size 54 u (by decide)) (cwV 1 hts gX10_commandHere_X10_isWord rfl rfl rfl hdX10_isWord ⟨Nat.le_of_ble_eq_true rfl, Nat.le_of_ble_eq_true rfl⟩) hZ hK hP hD hS hA (q0 := 0) rfl rfl rfl hl.1 rfl (Nat.le_of_ble_eq_true rfl) dX10_commandHere_28 ⟨Nat.zero_le _, Nat.zero_le _⟩ (fun r28 H locs h1 hP hS => ?_)
      refine lv_if_eq (tgt := 36) hx hb dX10_commandHere_31 (by decide) (fun c31 => ?_) (fun c31 => ?_)
      · replace h1 := Ok.pos c31 h1
        refine lv_aload_n hx hb dX10_commandHere_36 rfl (lv_at hl 0 rfl) ?_
        refine k_ldcSW (tx := "dismiss") (q := za 55) hx hb hown (k_site hZ 55 (by decide)) dX10_commandHere_37 ?_
        refine kz_rV0 (b := h) (As := [.ref (za 55)]) (rest := []) h1 ⟨hx, hb, hml, hown, hts⟩ (cX10_isWordM l D cy za zv h a H.size 55 u (by decide)) (cwV 1 hts gX10_commandHere_X10_isWord rfl rfl rfl hdX10_isWord ⟨Nat.le_of_ble_eq_true rfl, Nat.le_of_ble_eq_true rfl⟩) hZ hK hP hD hS hA (q0 := 0) rfl rfl rfl hl.1 rfl (Nat.le_of_ble_eq_true rfl) dX10_commandHere_40 ⟨Nat.zero_le _, Nat.zero_le _⟩ (fun r40 H locs h1 hP hS => ?_)
        refine lv_if_eq (tgt := 48) hx hb dX10_commandHere_43 (by decide) (fun c43 => ?_) (fun c43 => ?_)
        · replace h1 := Ok.pos c43 h1
          refine lv_aload_n hx hb dX10_commandHere_48 rfl (lv_at hl 0 rfl) ?_
          refine k_ldcSW (tx := "unload") (q := za 56) hx hb hown (k_site hZ 56 (by decide)) dX10_commandHere_49 ?_
          refine kz_rV0 (b := h) (As := [.ref (za 56)]) (rest := []) h1 ⟨hx, hb, hml, hown, hts⟩ (cX10_isWordM l D cy za zv h a H.size 56 u (by decide)) (cwV 1 hts gX10_commandHere_X10_isWord rfl rfl rfl hdX10_isWord ⟨Nat.le_of_ble_eq_true rfl, Nat.le_of_ble_eq_true rfl⟩) hZ hK hP hD hS hA (q0 := 0) rfl rfl rfl hl.1 rfl (Nat.le_of_ble_eq_true rfl) dX10_commandHere_52 ⟨Nat.zero_le _, Nat.zero_le _⟩ (fun r52 H locs h1 hP hS => ?_)
          refine lv_if_eq (tgt := 60) hx hb dX10_commandHere_55 (by decide) (fun c55 => ?_) (fun c55 => ?_)
          · replace h1 := Ok.pos c55 h1
            refine lv_aload_n hx hb dX10_commandHere_60 rfl (lv_at hl 0 rfl) ?_
            refine k_ldcSW (tx := "gate") (q := za 57) hx hb hown (k_site hZ 57 (by decide)) dX10_commandHere_61 ?_
            refine kz_rV0 (b := h) (As := [.ref (za 57)]) (rest := []) h1 ⟨hx, hb, hml, hown, hts⟩ (cX10_isWordM l D cy za zv h a H.size 57 u (by decide)) (cwV 1 hts gX10_commandHere_X10_isWord rfl rfl rfl hdX10_isWord ⟨Nat.le_of_ble_eq_true rfl, Nat.le_of_ble_eq_true rfl⟩) hZ hK hP hD hS hA (q0 := 0) rfl rfl rfl hl.1 rfl (Nat.le_of_ble_eq_true rfl) dX10_commandHere_64 ⟨Nat.zero_le _, Nat.zero_le _⟩ (fun r64 H locs h1 hP hS => ?_)
            refine lv_if_eq (tgt := 72) hx hb dX10_commandHere_67 (by decide) (fun c67 => ?_) (fun c67 => ?_)
            · replace h1 := Ok.pos c67 h1
              refine lv_aload_n hx hb dX10_commandHere_72 rfl (lv_at hl 0 rfl) ?_
              refine k_ldcSW (tx := "crank") (q := za 58) hx hb hown (k_site hZ 58 (by decide)) dX10_commandHere_73 ?_
              refine kz_rV0 (b := h) (As := [.ref (za 58)]) (rest := []) h1 ⟨hx, hb, hml, hown, hts⟩ (cX10_isWordM l D cy za zv h a H.size 58 u (by decide)) (cwV 1 hts gX10_commandHere_X10_isWord rfl rfl rfl hdX10_isWord ⟨Nat.le_of_ble_eq_true rfl, Nat.le_of_ble_eq_true rfl⟩) hZ hK hP hD hS hA (q0 := 0) rfl rfl rfl hl.1 rfl (Nat.le_of_ble_eq_true rfl) dX10_commandHere_76 ⟨Nat.zero_le _, Nat.zero_le _⟩ (fun r76 H locs h1 hP hS => ?_)
              refine lv_if_eq (tgt := 85) hx hb dX10_commandHere_79 (by decide) (fun c79 => ?_) (fun c79 => ?_)
              · replace h1 := Ok.pos c79 h1
                refine lv_aload_n hx hb dX10_commandHere_85 rfl (lv_at hl 0 rfl) ?_
                refine k_ldcSW (tx := "winch") (q := za 50) hx hb hown (k_site hZ 50 (by decide)) dX10_commandHere_86 ?_
                refine kz_rV0 (b := h) (As := [.ref (za 50)]) (rest := []) h1 ⟨hx, hb, hml, hown, hts⟩ (cX10_isWordM l D cy za zv h a H.size 50 u (by decide)) (cwV 1 hts gX10_commandHere_X10_isWord rfl rfl rfl hdX10_isWord ⟨Nat.le_of_ble_eq_true rfl, Nat.le_of_ble_eq_true rfl⟩) hZ hK hP hD hS hA (q0 := 0) rfl rfl rfl hl.1 rfl (Nat.le_of_ble_eq_true rfl) dX10_commandHere_89 ⟨Nat.zero_le _, Nat.zero_le _⟩ (fun r89 H locs h1 hP hS => ?_)
                refine lv_if_eq (tgt := 98) hx hb dX10_commandHere_92 (by decide) (fun c92 => ?_) (fun c92 => ?_)
                · replace h1 := Ok.pos c92 h1
                  refine lv_aload_n hx hb dX10_commandHere_98 rfl (lv_at hl 0 rfl) ?_
                  refine k_ldcSW (tx := "cross") (q := za 51) hx hb hown (k_site hZ 51 (by decide)) dX10_commandHere_99 ?_
                  refine kz_rV0 (b := h) (As := [.ref (za 51)]) (rest := []) h1 ⟨hx, hb, hml, hown, hts⟩ (cX10_isWordM l D cy za zv h a H.size 51 u (by decide)) (cwV 1 hts gX10_commandHere_X10_isWord rfl rfl rfl hdX10_isWord ⟨Nat.le_of_ble_eq_true rfl, Nat.le_of_ble_eq_true rfl⟩) hZ hK hP hD hS hA (q0 := 0) rfl rfl rfl hl.1 rfl (Nat.le_of_ble_eq_true rfl) dX10_commandHere_102 ⟨Nat.zero_le _, Nat.zero_le _⟩ (fun r102 H locs h1 hP hS => ?_)
                  refine lv_if_eq (tgt := 113) hx hb dX10_commandHere_105 (by decide) (fun c105 => ?_) (fun c105 => ?_)
                  · replace h1 := Ok.pos c105 h1
                    refine lv_iconst (v := (-1)) hx hb dX10_commandHere_113 rfl ?_
                    exact kret_r hx hb hr hlocks hP hD hS h1 dX10_commandHere_114
                  · replace h1 := Ok.neg c105 h1
                    refine lv_bipush (v := 8) hx hb dX10_commandHere_108 rfl ?_
                    refine lv_goto (tgt := 114) hx hb dX10_commandHere_110 (by decide) ?_
                    exact kret_r hx hb hr hlocks hP hD hS h1 dX10_commandHere_114
                · replace h1 := Ok.neg c92 h1
                  refine lv_bipush (v := 7) hx hb dX10_commandHere_95 rfl ?_
                  exact kret_r hx hb hr hlocks hP hD hS h1 dX10_commandHere_97
              · replace h1 := Ok.neg c79 h1
                refine lv_bipush (v := 6) hx hb dX10_commandHere_82 rfl ?_
                exact kret_r hx hb hr hlocks hP hD hS h1 dX10_commandHere_84
            · replace h1 := Ok.neg c67 h1
              refine lv_iconst (v := 5) hx hb dX10_commandHere_70 rfl ?_
              exact kret_r hx hb hr hlocks hP hD hS h1 dX10_commandHere_71
          · replace h1 := Ok.neg c55 h1
            refine lv_iconst (v := 4) hx hb dX10_commandHere_58 rfl ?_
            exact kret_r hx hb hr hlocks hP hD hS h1 dX10_commandHere_59
        · replace h1 := Ok.neg c43 h1
          refine lv_iconst (v := 3) hx hb dX10_commandHere_46 rfl ?_
          exact kret_r hx hb hr hlocks hP hD hS h1 dX10_commandHere_47
      · replace h1 := Ok.neg c31 h1
        refine lv_iconst (v := 2) hx hb dX10_commandHere_34 rfl ?_
        exact kret_r hx hb hr hlocks hP hD hS h1 dX10_commandHere_35
    · replace h1 := Ok.neg c19 h1
      refine lv_iconst (v := 1) hx hb dX10_commandHere_22 rfl ?_
      exact kret_r hx hb hr hlocks hP hD hS h1 dX10_commandHere_23
  · replace h1 := Ok.neg c7 h1
    refine lv_iconst (v := 0) hx hb dX10_commandHere_10 rfl ?_
    exact kret_r hx hb hr hlocks hP hD hS h1 dX10_commandHere_11
def fX10_commandHere (u : RS) : Option (Int32) := fX10_commandHere_b0 u
set_option maxHeartbeats 4000000 in
set_option maxRecDepth 100000 in
theorem cX10_commandHereM (l : Launch) (D : va_G) (cy : Nat → ClassId) (za zv : Nat → Nat) (h : Nat) (a : Nat → Nat) (sz : Nat) (u : RS) : ∀ (K : Int32 → Prop), Ok (fX10_commandHere u) K → Met l yX10_commandHere wsX10_commandHere rmX10_commandHere (va_Pc [.ref h] (kPreZ D cy za zv sz (wM cy h a u))) (va_Qi (fun r (_ : Unit) => K r) (fun _ => kPost D (va_A (wM cy h a u) sz) (wM cy h a u)) (va_A (wM cy h a u) sz)) 0 0 (va_A (wM cy h a u) sz) := by
  intro K h1
  refine Met.ofW (cc := cX10_commandHere) (maxL := 1) (ret := (some .int)) (by decide) rfl ?_
  intro p e s m args below meth c s₁ B hml hv
  obtain ⟨rfl, ⟨hsz, hP, hK, hD0⟩, hZ⟩ := hv
  subst hsz
  have E : mE D cy RX10 cX10_commandHere 1 (some .int) wsX10_commandHere (va_A (wM cy h a u) s.heap.size) p s m _ meth c := ⟨B.exec, B.bytes, B.returns, hml, findClass_of_methodNamed B.named, atoms_spec (ws := wsX10_commandHere) B.pre, B.notSynchronized, hK, fun q h => Or.inr h⟩
  have hl := lv_entry ([.ref h]) (n := 1) (Nat.le_of_ble_eq_true rfl)
  rw [lg_entry_eq]
  generalize (lg_sl ([.ref h]) ++ List.replicate (1 - (lg_sl ([.ref h])).length) Slot.unset).toArray = ls at hl ⊢
  exact tX10_commandHere_b0 K E hZ u _ _ _ hl hP hD0.self va_S.rf h1
-- X10_parseGate
theorem hdX10_put : yX10_put.cls = RX10 ∧ yX10_put.cls ≠ "java/lang/invoke/MethodHandle" ∧ yX10_put.cls ≠ "java/lang/invoke/VarHandle" ∧ (parseMethodDescriptor yX10_put.desc).map (fun d => d.parameters.length) = some 2 := by decide +kernel
abbrev rmX10_parseGate : Room := { frames := 5, cells := 0, slots := 0, locals := 108 }
def fX10_parseGate_b43 (s1 : Int32) (s2 : Int32) (u : RS) : Option (RS) :=
  bnd (fX10_put s1 s2 u) (fun u43 => bnd (fX10_proceed u43) (fun u47 => some u47))
set_option maxHeartbeats 4000000 in
set_option maxRecDepth 100000 in
theorem tX10_parseGate_b43 {p : Program} {l : Launch} {e : Env} {s : State} {m : MethodId} {args : Array Value} {below : List Frame} {meth : Method} {c : Code} {D : va_G} {cy : Nat → ClassId} {A : Nat → Prop} {h : Nat} {a : Nat → Nat} {za zv : Nat → Nat} (K : RS → Prop) (E : mE D cy RX10 cX10_parseGate 2 none wsX10_parseGate A p s m args meth c) (hZ : mZ za zv A s s.heap)
     (s1 : Int32) (s2 : Int32) (u : RS) (H : Heap) (locs : List Loc) (ls : Array Slot) (hl : lv_has ls 2 [(0, .ref h)]) (hP : va_P D vwCl (wM cy h a u) H) (hD : va_D A (wM cy h a u)) (hS : va_S A s.heap H locs) (h1 : Ok (fX10_parseGate_b43 s1 s2 u) K) :
    kW p l e rmX10_parseGate s m args below meth c H locs (va_Qv K (fun q => kPost D A (wM cy h a q)) A) A 43 ls [.int s2, .int s1, .ref h] := by
  obtain ⟨hx, hb, hr, hml, hown, hts, hlocks, hK, hA⟩ := id E
  unfold fX10_parseGate_b43 at h1
  refine kc_vV0 (b := h) (As := [.int s1, .int s2]) (rest := []) h1 ⟨hx, hb, hml, hown, hts⟩ (cX10_putM l D cy h a H.size u s1 s2) (cwV 2 hts gX10_parseGate_X10_put rfl rfl rfl hdX10_put ⟨Nat.le_of_ble_eq_true rfl, Nat.le_of_ble_eq_true rfl⟩) hK hP hD hS hA (q0 := 0) rfl rfl rfl hl.1 rfl (Nat.le_of_ble_eq_true rfl) dX10_parseGate_43 ⟨Nat.zero_le _, Nat.zero_le _⟩ (fun u43 H locs h1 hP hD hS => ?_)
  refine lv_aload_n hx hb dX10_parseGate_46 rfl (lv_at hl 0 rfl) ?_
  refine kc_vV0 (b := h) (As := []) (rest := []) h1 ⟨hx, hb, hml, hown, hts⟩ (cX10_proceedM l D cy h a H.size u43) (cwV 0 hts gX10_parseGate_X10_proceed rfl rfl rfl hdX10_proceed ⟨Nat.le_of_ble_eq_true rfl, Nat.le_of_ble_eq_true rfl⟩) hK hP hD hS hA (q0 := 0) rfl rfl rfl hl.1 rfl (Nat.le_of_ble_eq_true rfl) dX10_parseGate_47 ⟨Nat.zero_le _, Nat.zero_le _⟩ (fun u47 H locs h1 hP hD hS => ?_)
  exact kret_v hx hb hr hlocks hP hD hS h1 dX10_parseGate_50
def fX10_parseGate_b28 (x1 : Int32) (s1 : Int32) (u : RS) : Option (RS) :=
  bnd (fX10_require s1 1 u) (fun u29 => (if x1 = 0 then fX10_parseGate_b43 1 0 u29 else fX10_parseGate_b43 1 1 u29))
set_option maxHeartbeats 4000000 in
set_option maxRecDepth 100000 in
theorem tX10_parseGate_b28 {p : Program} {l : Launch} {e : Env} {s : State} {m : MethodId} {args : Array Value} {below : List Frame} {meth : Method} {c : Code} {D : va_G} {cy : Nat → ClassId} {A : Nat → Prop} {h : Nat} {a : Nat → Nat} {za zv : Nat → Nat} (K : RS → Prop) (E : mE D cy RX10 cX10_parseGate 2 none wsX10_parseGate A p s m args meth c) (hZ : mZ za zv A s s.heap)
     (x1 : Int32) (s1 : Int32) (u : RS) (H : Heap) (locs : List Loc) (ls : Array Slot) (hl : lv_has ls 2 [(0, .ref h), (1, .int x1)]) (hP : va_P D vwCl (wM cy h a u) H) (hD : va_D A (wM cy h a u)) (hS : va_S A s.heap H locs) (h1 : Ok (fX10_parseGate_b28 x1 s1 u) K) :
    kW p l e rmX10_parseGate s m args below meth c H locs (va_Qv K (fun q => kPost D A (wM cy h a q)) A) A 28 ls [.int s1, .ref h] := by
  obtain ⟨hx, hb, hr, hml, hown, hts, hlocks, hK, hA⟩ := id E
  unfold fX10_parseGate_b28 at h1
  refine lv_iconst (v := 1) hx hb dX10_parseGate_28 rfl ?_
  refine kc_vV0 (b := h) (As := [.int s1, .int 1]) (rest := []) h1 ⟨hx, hb, hml, hown, hts⟩ (cX10_requireM l D cy h a H.size u s1 1) (cwV 2 hts gX10_parseGate_X10_require rfl rfl rfl hdX10_require ⟨Nat.le_of_ble_eq_true rfl, Nat.le_of_ble_eq_true rfl⟩) hK hP hD hS hA (q0 := 0) rfl rfl rfl hl.1 rfl (Nat.le_of_ble_eq_true rfl) dX10_parseGate_29 ⟨Nat.zero_le _, Nat.zero_le _⟩ (fun u29 H locs h1 hP hD hS => ?_)
  refine lv_aload_n hx hb dX10_parseGate_32 rfl (lv_at hl 0 rfl) ?_
  refine lv_iconst (v := 1) hx hb dX10_parseGate_33 rfl ?_
  refine lv_iload_n hx hb dX10_parseGate_34 rfl (lv_at hl 1 rfl) ?_
  refine lv_if_eq (tgt := 42) hx hb dX10_parseGate_35 (by decide) (fun c35 => ?_) (fun c35 => ?_)
  · replace h1 := Ok.pos c35 h1
    refine lv_iconst (v := 0) hx hb dX10_parseGate_42 rfl ?_
    exact tX10_parseGate_b43 K E hZ 1 0 u29 H locs ls (lv_sub hl [0] rfl) hP hD hS h1
  · replace h1 := Ok.neg c35 h1
    refine lv_iconst (v := 1) hx hb dX10_parseGate_38 rfl ?_
    refine lv_goto (tgt := 43) hx hb dX10_parseGate_39 (by decide) ?_
    exact tX10_parseGate_b43 K E hZ 1 1 u29 H locs ls (lv_sub hl [0] rfl) hP hD hS h1
def fX10_parseGate_b23 (x1 : Int32) (u : RS) : Option (RS) :=
  fX10_parseGate_b28 x1 1 u
set_option maxHeartbeats 4000000 in
set_option maxRecDepth 100000 in
theorem tX10_parseGate_b23 {p : Program} {l : Launch} {e : Env} {s : State} {m : MethodId} {args : Array Value} {below : List Frame} {meth : Method} {c : Code} {D : va_G} {cy : Nat → ClassId} {A : Nat → Prop} {h : Nat} {a : Nat → Nat} {za zv : Nat → Nat} (K : RS → Prop) (E : mE D cy RX10 cX10_parseGate 2 none wsX10_parseGate A p s m args meth c) (hZ : mZ za zv A s s.heap)
     (x1 : Int32) (u : RS) (H : Heap) (locs : List Loc) (ls : Array Slot) (hl : lv_has ls 2 [(0, .ref h), (1, .int x1)]) (hP : va_P D vwCl (wM cy h a u) H) (hD : va_D A (wM cy h a u)) (hS : va_S A s.heap H locs) (h1 : Ok (fX10_parseGate_b23 x1 u) K) :
    kW p l e rmX10_parseGate s m args below meth c H locs (va_Qv K (fun q => kPost D A (wM cy h a q)) A) A 23 ls [.ref h] := by
  obtain ⟨hx, hb, hr, hml, hown, hts, hlocks, hK, hA⟩ := id E
  unfold fX10_parseGate_b23 at h1
  refine lv_iconst (v := 1) hx hb dX10_parseGate_23 rfl ?_
  refine lv_goto (tgt := 28) hx hb dX10_parseGate_24 (by decide) ?_
  exact tX10_parseGate_b28 K E hZ x1 1 u H locs ls (lv_sub hl [0, 1] rfl) hP hD hS h1
def fX10_parseGate_b0 (u : RS) : Option (RS) :=
  bnd (fX10_isWord 59 u) (fun r4 => (if r4 = 0 then bnd (fX10_isWord 60 u) (fun r17 => (if r17 = 0 then fX10_parseGate_b28 r4 0 u else fX10_parseGate_b23 r4 u)) else fX10_parseGate_b23 r4 u))
set_option maxHeartbeats 4000000 in
set_option maxRecDepth 100000 in
theorem tX10_parseGate_b0 {p : Program} {l : Launch} {e : Env} {s : State} {m : MethodId} {args : Array Value} {below : List Frame} {meth : Method} {c : Code} {D : va_G} {cy : Nat → ClassId} {A : Nat → Prop} {h : Nat} {a : Nat → Nat} {za zv : Nat → Nat} (K : RS → Prop) (E : mE D cy RX10 cX10_parseGate 2 none wsX10_parseGate A p s m args meth c) (hZ : mZ za zv A s s.heap)
     (u : RS) (H : Heap) (locs : List Loc) (ls : Array Slot) (hl : lv_has ls 2 [(0, .ref h)]) (hP : va_P D vwCl (wM cy h a u) H) (hD : va_D A (wM cy h a u)) (hS : va_S A s.heap H locs) (h1 : Ok (fX10_parseGate_b0 u) K) :
    kW p l e rmX10_parseGate s m args below meth c H locs (va_Qv K (fun q => kPost D A (wM cy h a q)) A) A 0 ls [] := by
  obtain ⟨hx, hb, hr, hml, hown, hts, hlocks, hK, hA⟩ := id E
  unfold fX10_parseGate_b0 at h1
  refine lv_aload_n hx hb dX10_parseGate_0 rfl (lv_at hl 0 rfl) ?_
  refine k_ldcSW (tx := "open") (q := za 59) hx hb hown (k_site hZ 59 (by decide)) dX10_parseGate_1 ?_
  refine kz_rV0 (b := h) (As := [.ref (za 59)]) (rest := []) h1 ⟨hx, hb, hml, hown, hts⟩ (cX10_isWordM l D cy za zv h a H.size 59 u (by decide)) (cwV 1 hts gX10_parseGate_X10_isWord rfl rfl rfl hdX10_isWord ⟨Nat.le_of_ble_eq_true rfl, Nat.le_of_ble_eq_true rfl⟩) hZ hK hP hD hS hA (q0 := 0) rfl rfl rfl hl.1 rfl (Nat.le_of_ble_eq_true rfl) dX10_parseGate_4 ⟨Nat.zero_le _, Nat.zero_le _⟩ (fun r4 H locs h1 hP hS => ?_)
  refine lv_istore_n (lv' := [(1, .int r4), (0, .ref h)]) hx hb dX10_parseGate_7 rfl hl (by decide) rfl (fun ls hl => ?_)
  refine lv_aload_n hx hb dX10_parseGate_8 rfl (lv_at hl 1 rfl) ?_
  refine lv_iload_n hx hb dX10_parseGate_9 rfl (lv_at hl 0 rfl) ?_
  refine lv_if_ne (tgt := 23) hx hb dX10_parseGate_10 (by decide) (fun c10 => ?_) (fun c10 => ?_)
  · replace h1 := Ok.neg c10 h1
    exact tX10_parseGate_b23 K E hZ r4 u H locs ls (lv_sub hl [1, 0] rfl) hP hD hS h1
  · replace h1 := Ok.pos c10 h1
    refine lv_aload_n hx hb dX10_parseGate_13 rfl (lv_at hl 1 rfl) ?_
    refine k_ldcSW (tx := "closed") (q := za 60) hx hb hown (k_site hZ 60 (by decide)) dX10_parseGate_14 ?_
    refine kz_rV0 (b := h) (As := [.ref (za 60)]) (rest := [.ref h]) h1 ⟨hx, hb, hml, hown, hts⟩ (cX10_isWordM l D cy za zv h a H.size 60 u (by decide)) (cwV 1 hts gX10_parseGate_X10_isWord rfl rfl rfl hdX10_isWord ⟨Nat.le_of_ble_eq_true rfl, Nat.le_of_ble_eq_true rfl⟩) hZ hK hP hD hS hA (q0 := 0) rfl rfl rfl hl.1 rfl (Nat.le_of_ble_eq_true rfl) dX10_parseGate_17 ⟨Nat.zero_le _, Nat.zero_le _⟩ (fun r17 H locs h1 hP hS => ?_)
    refine lv_if_eq (tgt := 27) hx hb dX10_parseGate_20 (by decide) (fun c20 => ?_) (fun c20 => ?_)
    · replace h1 := Ok.pos c20 h1
      refine lv_iconst (v := 0) hx hb dX10_parseGate_27 rfl ?_
      exact tX10_parseGate_b28 K E hZ r4 0 u H locs ls (lv_sub hl [1, 0] rfl) hP hD hS h1
    · replace h1 := Ok.neg c20 h1
      exact tX10_parseGate_b23 K E hZ r4 u H locs ls (lv_sub hl [1, 0] rfl) hP hD hS h1
def fX10_parseGate (u : RS) : Option (RS) := fX10_parseGate_b0 u
set_option maxHeartbeats 4000000 in
set_option maxRecDepth 100000 in
theorem cX10_parseGateM (l : Launch) (D : va_G) (cy : Nat → ClassId) (za zv : Nat → Nat) (h : Nat) (a : Nat → Nat) (sz : Nat) (u : RS) : ∀ (K : RS → Prop), Ok (fX10_parseGate u) K → Met l yX10_parseGate wsX10_parseGate rmX10_parseGate (va_Pc [.ref h] (kPreZ D cy za zv sz (wM cy h a u))) (va_Qv K (fun q => kPost D (va_A (wM cy h a u) sz) (wM cy h a q)) (va_A (wM cy h a u) sz)) 0 0 (va_A (wM cy h a u) sz) := by
  intro K h1
  refine Met.ofW (cc := cX10_parseGate) (maxL := 2) (ret := none) (by decide) rfl ?_
  intro p e s m args below meth c s₁ B hml hv
  obtain ⟨rfl, ⟨hsz, hP, hK, hD0⟩, hZ⟩ := hv
  subst hsz
  have E : mE D cy RX10 cX10_parseGate 2 none wsX10_parseGate (va_A (wM cy h a u) s.heap.size) p s m _ meth c := ⟨B.exec, B.bytes, B.returns, hml, findClass_of_methodNamed B.named, atoms_spec (ws := wsX10_parseGate) B.pre, B.notSynchronized, hK, fun q h => Or.inr h⟩
  have hl := lv_entry ([.ref h]) (n := 2) (Nat.le_of_ble_eq_true rfl)
  rw [lg_entry_eq]
  generalize (lg_sl ([.ref h]) ++ List.replicate (2 - (lg_sl ([.ref h])).length) Slot.unset).toArray = ls at hl ⊢
  exact tX10_parseGate_b0 K E hZ u _ _ _ hl hP hD0.self va_S.rf h1
-- X10_parseArguments
theorem inX10_parseArguments_X10 : ∀ w ∈ u_ws RX10 TX10 23, w ∈ wsX10_parseArguments := k_lays 127 rfl
theorem lkX10_parseArguments_176 : Cond.fieldLink RX10 176 "FerryRampModel" "token" "I" ∈ wsX10_parseArguments := List.mem_of_getElem? (i := 1) rfl
theorem hdX10_parseGate : yX10_parseGate.cls = RX10 ∧ yX10_parseGate.cls ≠ "java/lang/invoke/MethodHandle" ∧ yX10_parseGate.cls ≠ "java/lang/invoke/VarHandle" ∧ (parseMethodDescriptor yX10_parseGate.desc).map (fun d => d.parameters.length) = some 0 := by decide +kernel
abbrev rmX10_parseArguments : Room := { frames := 6, cells := 0, slots := 0, locals := 129 }
def fX10_parseArguments_b69 (s1 : Int32) (s2 : Int32) (u : RS) : Option (RS) :=
  bnd (fX10_put s1 s2 u) (fun u69 => some u69)
set_option maxHeartbeats 4000000 in
set_option maxRecDepth 100000 in
theorem tX10_parseArguments_b69 {p : Program} {l : Launch} {e : Env} {s : State} {m : MethodId} {args : Array Value} {below : List Frame} {meth : Method} {c : Code} {D : va_G} {cy : Nat → ClassId} {A : Nat → Prop} {h : Nat} {a : Nat → Nat} {za zv : Nat → Nat} (K : RS → Prop) (E : mE D cy RX10 cX10_parseArguments 2 none wsX10_parseArguments A p s m args meth c) (hZ : mZ za zv A s s.heap)
     (s1 : Int32) (s2 : Int32) (u : RS) (H : Heap) (locs : List Loc) (ls : Array Slot) (hl : lv_has ls 2 []) (hP : va_P D vwCl (wM cy h a u) H) (hD : va_D A (wM cy h a u)) (hS : va_S A s.heap H locs) (h1 : Ok (fX10_parseArguments_b69 s1 s2 u) K) :
    kW p l e rmX10_parseArguments s m args below meth c H locs (va_Qv K (fun q => kPost D A (wM cy h a q)) A) A 69 ls [.int s2, .int s1, .ref h] := by
  obtain ⟨hx, hb, hr, hml, hown, hts, hlocks, hK, hA⟩ := id E
  unfold fX10_parseArguments_b69 at h1
  refine kc_vV0 (b := h) (As := [.int s1, .int s2]) (rest := []) h1 ⟨hx, hb, hml, hown, hts⟩ (cX10_putM l D cy h a H.size u s1 s2) (cwV 2 hts gX10_parseArguments_X10_put rfl rfl rfl hdX10_put ⟨Nat.le_of_ble_eq_true rfl, Nat.le_of_ble_eq_true rfl⟩) hK hP hD hS hA (q0 := 0) rfl rfl rfl hl.1 rfl (Nat.le_of_ble_eq_true rfl) dX10_parseArguments_69 ⟨Nat.zero_le _, Nat.zero_le _⟩ (fun u69 H locs h1 hP hD hS => ?_)
  refine lv_goto (tgt := 222) hx hb dX10_parseArguments_72 (by decide) ?_
  exact kret_v hx hb hr hlocks hP hD hS h1 dX10_parseArguments_222
def fX10_parseArguments_b0 (x1 : Int32) (u : RS) : Option (RS) :=
  (if x1 = 0 then (if (mTo u) = 2 then bnd2 (fX10_parseNumber 1 50 u) (fun r62 u62 => fX10_parseArguments_b69 1 r62 u62) else fX10_parseArguments_b69 1 1 u) else (if x1 = 1 then bnd2 (fX10_parseNumber 0 3 u) (fun r80 u80 => bnd (fX10_put 1 r80 u80) (fun u83 => bnd2 (fX10_parseNumber 1 999 u83) (fun r93 u93 => bnd (fX10_put 2 r93 u93) (fun u96 => some u96)))) else (if x1 = 2 then bnd2 (fX10_parseNumber 0 59 u) (fun r108 u108 => bnd (fX10_put 1 r108 u108) (fun u111 => some u111)) else (if x1 = 3 then bnd2 (fX10_parseNumber 0 59 u) (fun r108 u108 => bnd (fX10_put 1 r108 u108) (fun u111 => some u111)) else (if x1 = 4 then bnd2 (fX10_parseNumber 0 2 u) (fun r122 u122 => bnd (fX10_put 1 r122 u122) (fun u125 => some u125)) else (if x1 = 5 then bnd (fX10_parseGate u) (fun u132 => some u132) else (if x1 = 6 then bnd2 (fX10_parseHeight 20 u) (fun r143 u143 => bnd (fX10_put 1 r143 u143) (fun u146 => some u146)) else (if x1 = 7 then bnd2 (fX10_parseNumber 1 20 u) (fun r158 u158 => bnd (fX10_put 1 r158 u158) (fun u161 => bnd2 (fX10_parseNumber 0 50 u161) (fun r170 u170 => bnd (fX10_put 2 r170 u170) (fun u173 => bnd2 (fX10_parseNumber 0 20 u173) (fun r182 u182 => bnd (fX10_put 3 r182 u182) (fun u185 => some u185)))))) else bnd2 (fX10_parseNumber 1 20 u) (fun r197 u197 => bnd (fX10_put 1 r197 u197) (fun u200 => bnd (fX10_parseWord 44 u200) (fun u207 => bnd2 (fX10_parseNumber 1 50 u207) (fun r216 u216 => bnd (fX10_put 2 r216 u216) (fun u219 => some u219)))))))))))))
set_option maxHeartbeats 4000000 in
set_option maxRecDepth 100000 in
theorem tX10_parseArguments_b0 {p : Program} {l : Launch} {e : Env} {s : State} {m : MethodId} {args : Array Value} {below : List Frame} {meth : Method} {c : Code} {D : va_G} {cy : Nat → ClassId} {A : Nat → Prop} {h : Nat} {a : Nat → Nat} {za zv : Nat → Nat} (K : RS → Prop) (E : mE D cy RX10 cX10_parseArguments 2 none wsX10_parseArguments A p s m args meth c) (hZ : mZ za zv A s s.heap)
     (x1 : Int32) (u : RS) (H : Heap) (locs : List Loc) (ls : Array Slot) (hl : lv_has ls 2 [(0, .ref h), (1, .int x1)]) (hP : va_P D vwCl (wM cy h a u) H) (hD : va_D A (wM cy h a u)) (hS : va_S A s.heap H locs) (h1 : Ok (fX10_parseArguments_b0 x1 u) K) :
    kW p l e rmX10_parseArguments s m args below meth c H locs (va_Qv K (fun q => kPost D A (wM cy h a q)) A) A 0 ls [] := by
  obtain ⟨hx, hb, hr, hml, hown, hts, hlocks, hK, hA⟩ := id E
  unfold fX10_parseArguments_b0 at h1
  refine lv_iload_n hx hb dX10_parseArguments_0 rfl (lv_at hl 1 rfl) ?_
  by_cases c1_0 : x1 = 0
  · replace h1 := Ok.pos c1_0 h1
    refine lv_tableIn (off := 47) (tgt := 48) hx hb dX10_parseArguments_1 (by rw [c1_0]; decide) (by rw [c1_0]; decide) (by rw [c1_0]; decide) (by decide) ?_
    refine lv_aload_n hx hb dX10_parseArguments_48 rfl (lv_at hl 0 rfl) ?_
    refine lv_iconst (v := 1) hx hb dX10_parseArguments_49 rfl ?_
    refine lv_aload_n hx hb dX10_parseArguments_50 rfl (lv_at hl 0 rfl) ?_
    refine k_get (v := .int (mTo u)) (C := RX10) (T := TX10) (N := 23) hx hb hts inX10_parseArguments_X10 hown hK hP 0 (wM_a0 _ _ _ _) rfl 15 (by decide) lkX10_parseArguments_176 (mFs_15 _ _) dX10_parseArguments_51 ?_
    refine lv_iconst (v := 2) hx hb dX10_parseArguments_54 rfl ?_
    refine lv_icmp_ne (tgt := 68) hx hb dX10_parseArguments_55 (by decide) (fun c55 => ?_) (fun c55 => ?_)
    · replace h1 := Ok.neg c55 h1
      refine lv_iconst (v := 1) hx hb dX10_parseArguments_68 rfl ?_
      exact tX10_parseArguments_b69 K E hZ 1 1 u H locs ls (lv_sub hl [] rfl) hP hD hS h1
    · replace h1 := Ok.pos c55 h1
      refine lv_aload_n hx hb dX10_parseArguments_58 rfl (lv_at hl 0 rfl) ?_
      refine lv_iconst (v := 1) hx hb dX10_parseArguments_59 rfl ?_
      refine lv_bipush (v := 50) hx hb dX10_parseArguments_60 rfl ?_
      refine kc_iV0 (b := h) (As := [.int 1, .int 50]) (rest := [.int 1, .ref h]) h1 ⟨hx, hb, hml, hown, hts⟩ (cX10_parseNumberM l D cy h a H.size u 1 50) (cwV 2 hts gX10_parseArguments_X10_parseNumber rfl rfl rfl hdX10_parseNumber ⟨Nat.le_of_ble_eq_true rfl, Nat.le_of_ble_eq_true rfl⟩) hK hP hD hS hA (q0 := 0) rfl rfl rfl hl.1 rfl (Nat.le_of_ble_eq_true rfl) dX10_parseArguments_62 ⟨Nat.zero_le _, Nat.zero_le _⟩ (fun r62 u62 H locs h1 hP hD hS => ?_)
      refine lv_goto (tgt := 69) hx hb dX10_parseArguments_65 (by decide) ?_
      exact tX10_parseArguments_b69 K E hZ 1 r62 u62 H locs ls (lv_sub hl [] rfl) hP hD hS h1
  replace h1 := Ok.neg c1_0 h1
  by_cases c1_1 : x1 = 1
  · replace h1 := Ok.pos c1_1 h1
    refine lv_tableIn (off := 74) (tgt := 75) hx hb dX10_parseArguments_1 (by rw [c1_1]; decide) (by rw [c1_1]; decide) (by rw [c1_1]; decide) (by decide) ?_
    refine lv_aload_n hx hb dX10_parseArguments_75 rfl (lv_at hl 0 rfl) ?_
    refine lv_iconst (v := 1) hx hb dX10_parseArguments_76 rfl ?_
    refine lv_aload_n hx hb dX10_parseArguments_77 rfl (lv_at hl 0 rfl) ?_
    refine lv_iconst (v := 0) hx hb dX10_parseArguments_78 rfl ?_
    refine lv_iconst (v := 3) hx hb dX10_parseArguments_79 rfl ?_
    refine kc_iV0 (b := h) (As := [.int 0, .int 3]) (rest := [.int 1, .ref h]) h1 ⟨hx, hb, hml, hown, hts⟩ (cX10_parseNumberM l D cy h a H.size u 0 3) (cwV 2 hts gX10_parseArguments_X10_parseNumber rfl rfl rfl hdX10_parseNumber ⟨Nat.le_of_ble_eq_true rfl, Nat.le_of_ble_eq_true rfl⟩) hK hP hD hS hA (q0 := 0) rfl rfl rfl hl.1 rfl (Nat.le_of_ble_eq_true rfl) dX10_parseArguments_80 ⟨Nat.zero_le _, Nat.zero_le _⟩ (fun r80 u80 H locs h1 hP hD hS => ?_)
    refine kc_vV0 (b := h) (As := [.int 1, .int r80]) (rest := []) h1 ⟨hx, hb, hml, hown, hts⟩ (cX10_putM l D cy h a H.size u80 1 r80) (cwV 2 hts gX10_parseArguments_X10_put rfl rfl rfl hdX10_put ⟨Nat.le_of_ble_eq_true rfl, Nat.le_of_ble_eq_true rfl⟩) hK hP hD hS hA (q0 := 0) rfl rfl rfl hl.1 rfl (Nat.le_of_ble_eq_true rfl) dX10_parseArguments_83 ⟨Nat.zero_le _, Nat.zero_le _⟩ (fun u83 H locs h1 hP hD hS => ?_)
    refine lv_aload_n hx hb dX10_parseArguments_86 rfl (lv_at hl 0 rfl) ?_
    refine lv_iconst (v := 2) hx hb dX10_parseArguments_87 rfl ?_
    refine lv_aload_n hx hb dX10_parseArguments_88 rfl (lv_at hl 0 rfl) ?_
    refine lv_iconst (v := 1) hx hb dX10_parseArguments_89 rfl ?_
    refine lv_sipush (v := 999) hx hb dX10_parseArguments_90 rfl ?_
    refine kc_iV0 (b := h) (As := [.int 1, .int 999]) (rest := [.int 2, .ref h]) h1 ⟨hx, hb, hml, hown, hts⟩ (cX10_parseNumberM l D cy h a H.size u83 1 999) (cwV 2 hts gX10_parseArguments_X10_parseNumber rfl rfl rfl hdX10_parseNumber ⟨Nat.le_of_ble_eq_true rfl, Nat.le_of_ble_eq_true rfl⟩) hK hP hD hS hA (q0 := 0) rfl rfl rfl hl.1 rfl (Nat.le_of_ble_eq_true rfl) dX10_parseArguments_93 ⟨Nat.zero_le _, Nat.zero_le _⟩ (fun r93 u93 H locs h1 hP hD hS => ?_)
    refine kc_vV0 (b := h) (As := [.int 2, .int r93]) (rest := []) h1 ⟨hx, hb, hml, hown, hts⟩ (cX10_putM l D cy h a H.size u93 2 r93) (cwV 2 hts gX10_parseArguments_X10_put rfl rfl rfl hdX10_put ⟨Nat.le_of_ble_eq_true rfl, Nat.le_of_ble_eq_true rfl⟩) hK hP hD hS hA (q0 := 0) rfl rfl rfl hl.1 rfl (Nat.le_of_ble_eq_true rfl) dX10_parseArguments_96 ⟨Nat.zero_le _, Nat.zero_le _⟩ (fun u96 H locs h1 hP hD hS => ?_)
    refine lv_goto (tgt := 222) hx hb dX10_parseArguments_99 (by decide) ?_
    exact kret_v hx hb hr hlocks hP hD hS h1 dX10_parseArguments_222
  replace h1 := Ok.neg c1_1 h1
  by_cases c1_2 : x1 = 2
  · replace h1 := Ok.pos c1_2 h1
    refine lv_tableIn (off := 101) (tgt := 102) hx hb dX10_parseArguments_1 (by rw [c1_2]; decide) (by rw [c1_2]; decide) (by rw [c1_2]; decide) (by decide) ?_
    refine lv_aload_n hx hb dX10_parseArguments_102 rfl (lv_at hl 0 rfl) ?_
    refine lv_iconst (v := 1) hx hb dX10_parseArguments_103 rfl ?_
    refine lv_aload_n hx hb dX10_parseArguments_104 rfl (lv_at hl 0 rfl) ?_
    refine lv_iconst (v := 0) hx hb dX10_parseArguments_105 rfl ?_
    refine lv_bipush (v := 59) hx hb dX10_parseArguments_106 rfl ?_
    refine kc_iV0 (b := h) (As := [.int 0, .int 59]) (rest := [.int 1, .ref h]) h1 ⟨hx, hb, hml, hown, hts⟩ (cX10_parseNumberM l D cy h a H.size u 0 59) (cwV 2 hts gX10_parseArguments_X10_parseNumber rfl rfl rfl hdX10_parseNumber ⟨Nat.le_of_ble_eq_true rfl, Nat.le_of_ble_eq_true rfl⟩) hK hP hD hS hA (q0 := 0) rfl rfl rfl hl.1 rfl (Nat.le_of_ble_eq_true rfl) dX10_parseArguments_108 ⟨Nat.zero_le _, Nat.zero_le _⟩ (fun r108 u108 H locs h1 hP hD hS => ?_)
    refine kc_vV0 (b := h) (As := [.int 1, .int r108]) (rest := []) h1 ⟨hx, hb, hml, hown, hts⟩ (cX10_putM l D cy h a H.size u108 1 r108) (cwV 2 hts gX10_parseArguments_X10_put rfl rfl rfl hdX10_put ⟨Nat.le_of_ble_eq_true rfl, Nat.le_of_ble_eq_true rfl⟩) hK hP hD hS hA (q0 := 0) rfl rfl rfl hl.1 rfl (Nat.le_of_ble_eq_true rfl) dX10_parseArguments_111 ⟨Nat.zero_le _, Nat.zero_le _⟩ (fun u111 H locs h1 hP hD hS => ?_)
    refine lv_goto (tgt := 222) hx hb dX10_parseArguments_114 (by decide) ?_
    exact kret_v hx hb hr hlocks hP hD hS h1 dX10_parseArguments_222
  replace h1 := Ok.neg c1_2 h1
  by_cases c1_3 : x1 = 3
  · replace h1 := Ok.pos c1_3 h1
    refine lv_tableIn (off := 101) (tgt := 102) hx hb dX10_parseArguments_1 (by rw [c1_3]; decide) (by rw [c1_3]; decide) (by rw [c1_3]; decide) (by decide) ?_
    refine lv_aload_n hx hb dX10_parseArguments_102 rfl (lv_at hl 0 rfl) ?_
    refine lv_iconst (v := 1) hx hb dX10_parseArguments_103 rfl ?_
    refine lv_aload_n hx hb dX10_parseArguments_104 rfl (lv_at hl 0 rfl) ?_
    refine lv_iconst (v := 0) hx hb dX10_parseArguments_105 rfl ?_
    refine lv_bipush (v := 59) hx hb dX10_parseArguments_106 rfl ?_
    refine kc_iV0 (b := h) (As := [.int 0, .int 59]) (rest := [.int 1, .ref h]) h1 ⟨hx, hb, hml, hown, hts⟩ (cX10_parseNumberM l D cy h a H.size u 0 59) (cwV 2 hts gX10_parseArguments_X10_parseNumber rfl rfl rfl hdX10_parseNumber ⟨Nat.le_of_ble_eq_true rfl, Nat.le_of_ble_eq_true rfl⟩) hK hP hD hS hA (q0 := 0) rfl rfl rfl hl.1 rfl (Nat.le_of_ble_eq_true rfl) dX10_parseArguments_108 ⟨Nat.zero_le _, Nat.zero_le _⟩ (fun r108 u108 H locs h1 hP hD hS => ?_)
    refine kc_vV0 (b := h) (As := [.int 1, .int r108]) (rest := []) h1 ⟨hx, hb, hml, hown, hts⟩ (cX10_putM l D cy h a H.size u108 1 r108) (cwV 2 hts gX10_parseArguments_X10_put rfl rfl rfl hdX10_put ⟨Nat.le_of_ble_eq_true rfl, Nat.le_of_ble_eq_true rfl⟩) hK hP hD hS hA (q0 := 0) rfl rfl rfl hl.1 rfl (Nat.le_of_ble_eq_true rfl) dX10_parseArguments_111 ⟨Nat.zero_le _, Nat.zero_le _⟩ (fun u111 H locs h1 hP hD hS => ?_)
    refine lv_goto (tgt := 222) hx hb dX10_parseArguments_114 (by decide) ?_
    exact kret_v hx hb hr hlocks hP hD hS h1 dX10_parseArguments_222
  replace h1 := Ok.neg c1_3 h1
  by_cases c1_4 : x1 = 4
  · replace h1 := Ok.pos c1_4 h1
    refine lv_tableIn (off := 116) (tgt := 117) hx hb dX10_parseArguments_1 (by rw [c1_4]; decide) (by rw [c1_4]; decide) (by rw [c1_4]; decide) (by decide) ?_
    refine lv_aload_n hx hb dX10_parseArguments_117 rfl (lv_at hl 0 rfl) ?_
    refine lv_iconst (v := 1) hx hb dX10_parseArguments_118 rfl ?_
    refine lv_aload_n hx hb dX10_parseArguments_119 rfl (lv_at hl 0 rfl) ?_
    refine lv_iconst (v := 0) hx hb dX10_parseArguments_120 rfl ?_
    refine lv_iconst (v := 2) hx hb dX10_parseArguments_121 rfl ?_
    refine kc_iV0 (b := h) (As := [.int 0, .int 2]) (rest := [.int 1, .ref h]) h1 ⟨hx, hb, hml, hown, hts⟩ (cX10_parseNumberM l D cy h a H.size u 0 2) (cwV 2 hts gX10_parseArguments_X10_parseNumber rfl rfl rfl hdX10_parseNumber ⟨Nat.le_of_ble_eq_true rfl, Nat.le_of_ble_eq_true rfl⟩) hK hP hD hS hA (q0 := 0) rfl rfl rfl hl.1 rfl (Nat.le_of_ble_eq_true rfl) dX10_parseArguments_122 ⟨Nat.zero_le _, Nat.zero_le _⟩ (fun r122 u122 H locs h1 hP hD hS => ?_)
    refine kc_vV0 (b := h) (As := [.int 1, .int r122]) (rest := []) h1 ⟨hx, hb, hml, hown, hts⟩ (cX10_putM l D cy h a H.size u122 1 r122) (cwV 2 hts gX10_parseArguments_X10_put rfl rfl rfl hdX10_put ⟨Nat.le_of_ble_eq_true rfl, Nat.le_of_ble_eq_true rfl⟩) hK hP hD hS hA (q0 := 0) rfl rfl rfl hl.1 rfl (Nat.le_of_ble_eq_true rfl) dX10_parseArguments_125 ⟨Nat.zero_le _, Nat.zero_le _⟩ (fun u125 H locs h1 hP hD hS => ?_)
    refine lv_goto (tgt := 222) hx hb dX10_parseArguments_128 (by decide) ?_
    exact kret_v hx hb hr hlocks hP hD hS h1 dX10_parseArguments_222
  replace h1 := Ok.neg c1_4 h1
  by_cases c1_5 : x1 = 5
  · replace h1 := Ok.pos c1_5 h1
    refine lv_tableIn (off := 130) (tgt := 131) hx hb dX10_parseArguments_1 (by rw [c1_5]; decide) (by rw [c1_5]; decide) (by rw [c1_5]; decide) (by decide) ?_
    refine lv_aload_n hx hb dX10_parseArguments_131 rfl (lv_at hl 0 rfl) ?_
    refine kz_vV0 (b := h) (As := []) (rest := []) h1 ⟨hx, hb, hml, hown, hts⟩ (cX10_parseGateM l D cy za zv h a H.size u) (cwV 0 hts gX10_parseArguments_X10_parseGate rfl rfl rfl hdX10_parseGate ⟨Nat.le_of_ble_eq_true rfl, Nat.le_of_ble_eq_true rfl⟩) hZ hK hP hD hS hA (q0 := 0) rfl rfl rfl hl.1 rfl (Nat.le_of_ble_eq_true rfl) dX10_parseArguments_132 ⟨Nat.zero_le _, Nat.zero_le _⟩ (fun u132 H locs h1 hP hD hS => ?_)
    refine lv_goto (tgt := 222) hx hb dX10_parseArguments_135 (by decide) ?_
    exact kret_v hx hb hr hlocks hP hD hS h1 dX10_parseArguments_222
  replace h1 := Ok.neg c1_5 h1
  by_cases c1_6 : x1 = 6
  · replace h1 := Ok.pos c1_6 h1
    refine lv_tableIn (off := 137) (tgt := 138) hx hb dX10_parseArguments_1 (by rw [c1_6]; decide) (by rw [c1_6]; decide) (by rw [c1_6]; decide) (by decide) ?_
    refine lv_aload_n hx hb dX10_parseArguments_138 rfl (lv_at hl 0 rfl) ?_
    refine lv_iconst (v := 1) hx hb dX10_parseArguments_139 rfl ?_
    refine lv_aload_n hx hb dX10_parseArguments_140 rfl (lv_at hl 0 rfl) ?_
    refine lv_bipush (v := 20) hx hb dX10_parseArguments_141 rfl ?_
    refine kc_iV0 (b := h) (As := [.int 20]) (rest := [.int 1, .ref h]) h1 ⟨hx, hb, hml, hown, hts⟩ (cX10_parseHeightM l D cy h a H.size u 20) (cwV 1 hts gX10_parseArguments_X10_parseHeight rfl rfl rfl hdX10_parseHeight ⟨Nat.le_of_ble_eq_true rfl, Nat.le_of_ble_eq_true rfl⟩) hK hP hD hS hA (q0 := 0) rfl rfl rfl hl.1 rfl (Nat.le_of_ble_eq_true rfl) dX10_parseArguments_143 ⟨Nat.zero_le _, Nat.zero_le _⟩ (fun r143 u143 H locs h1 hP hD hS => ?_)
    refine kc_vV0 (b := h) (As := [.int 1, .int r143]) (rest := []) h1 ⟨hx, hb, hml, hown, hts⟩ (cX10_putM l D cy h a H.size u143 1 r143) (cwV 2 hts gX10_parseArguments_X10_put rfl rfl rfl hdX10_put ⟨Nat.le_of_ble_eq_true rfl, Nat.le_of_ble_eq_true rfl⟩) hK hP hD hS hA (q0 := 0) rfl rfl rfl hl.1 rfl (Nat.le_of_ble_eq_true rfl) dX10_parseArguments_146 ⟨Nat.zero_le _, Nat.zero_le _⟩ (fun u146 H locs h1 hP hD hS => ?_)
    refine lv_goto (tgt := 222) hx hb dX10_parseArguments_149 (by decide) ?_
    exact kret_v hx hb hr hlocks hP hD hS h1 dX10_parseArguments_222
  replace h1 := Ok.neg c1_6 h1
  by_cases c1_7 : x1 = 7
  · replace h1 := Ok.pos c1_7 h1
    refine lv_tableIn (off := 151) (tgt := 152) hx hb dX10_parseArguments_1 (by rw [c1_7]; decide) (by rw [c1_7]; decide) (by rw [c1_7]; decide) (by decide) ?_
    refine lv_aload_n hx hb dX10_parseArguments_152 rfl (lv_at hl 0 rfl) ?_
    refine lv_iconst (v := 1) hx hb dX10_parseArguments_153 rfl ?_
    refine lv_aload_n hx hb dX10_parseArguments_154 rfl (lv_at hl 0 rfl) ?_
    refine lv_iconst (v := 1) hx hb dX10_parseArguments_155 rfl ?_
    refine lv_bipush (v := 20) hx hb dX10_parseArguments_156 rfl ?_
    refine kc_iV0 (b := h) (As := [.int 1, .int 20]) (rest := [.int 1, .ref h]) h1 ⟨hx, hb, hml, hown, hts⟩ (cX10_parseNumberM l D cy h a H.size u 1 20) (cwV 2 hts gX10_parseArguments_X10_parseNumber rfl rfl rfl hdX10_parseNumber ⟨Nat.le_of_ble_eq_true rfl, Nat.le_of_ble_eq_true rfl⟩) hK hP hD hS hA (q0 := 0) rfl rfl rfl hl.1 rfl (Nat.le_of_ble_eq_true rfl) dX10_parseArguments_158 ⟨Nat.zero_le _, Nat.zero_le _⟩ (fun r158 u158 H locs h1 hP hD hS => ?_)
    refine kc_vV0 (b := h) (As := [.int 1, .int r158]) (rest := []) h1 ⟨hx, hb, hml, hown, hts⟩ (cX10_putM l D cy h a H.size u158 1 r158) (cwV 2 hts gX10_parseArguments_X10_put rfl rfl rfl hdX10_put ⟨Nat.le_of_ble_eq_true rfl, Nat.le_of_ble_eq_true rfl⟩) hK hP hD hS hA (q0 := 0) rfl rfl rfl hl.1 rfl (Nat.le_of_ble_eq_true rfl) dX10_parseArguments_161 ⟨Nat.zero_le _, Nat.zero_le _⟩ (fun u161 H locs h1 hP hD hS => ?_)
    refine lv_aload_n hx hb dX10_parseArguments_164 rfl (lv_at hl 0 rfl) ?_
    refine lv_iconst (v := 2) hx hb dX10_parseArguments_165 rfl ?_
    refine lv_aload_n hx hb dX10_parseArguments_166 rfl (lv_at hl 0 rfl) ?_
    refine lv_iconst (v := 0) hx hb dX10_parseArguments_167 rfl ?_
    refine lv_bipush (v := 50) hx hb dX10_parseArguments_168 rfl ?_
    refine kc_iV0 (b := h) (As := [.int 0, .int 50]) (rest := [.int 2, .ref h]) h1 ⟨hx, hb, hml, hown, hts⟩ (cX10_parseNumberM l D cy h a H.size u161 0 50) (cwV 2 hts gX10_parseArguments_X10_parseNumber rfl rfl rfl hdX10_parseNumber ⟨Nat.le_of_ble_eq_true rfl, Nat.le_of_ble_eq_true rfl⟩) hK hP hD hS hA (q0 := 0) rfl rfl rfl hl.1 rfl (Nat.le_of_ble_eq_true rfl) dX10_parseArguments_170 ⟨Nat.zero_le _, Nat.zero_le _⟩ (fun r170 u170 H locs h1 hP hD hS => ?_)
    refine kc_vV0 (b := h) (As := [.int 2, .int r170]) (rest := []) h1 ⟨hx, hb, hml, hown, hts⟩ (cX10_putM l D cy h a H.size u170 2 r170) (cwV 2 hts gX10_parseArguments_X10_put rfl rfl rfl hdX10_put ⟨Nat.le_of_ble_eq_true rfl, Nat.le_of_ble_eq_true rfl⟩) hK hP hD hS hA (q0 := 0) rfl rfl rfl hl.1 rfl (Nat.le_of_ble_eq_true rfl) dX10_parseArguments_173 ⟨Nat.zero_le _, Nat.zero_le _⟩ (fun u173 H locs h1 hP hD hS => ?_)
    refine lv_aload_n hx hb dX10_parseArguments_176 rfl (lv_at hl 0 rfl) ?_
    refine lv_iconst (v := 3) hx hb dX10_parseArguments_177 rfl ?_
    refine lv_aload_n hx hb dX10_parseArguments_178 rfl (lv_at hl 0 rfl) ?_
    refine lv_iconst (v := 0) hx hb dX10_parseArguments_179 rfl ?_
    refine lv_bipush (v := 20) hx hb dX10_parseArguments_180 rfl ?_
    refine kc_iV0 (b := h) (As := [.int 0, .int 20]) (rest := [.int 3, .ref h]) h1 ⟨hx, hb, hml, hown, hts⟩ (cX10_parseNumberM l D cy h a H.size u173 0 20) (cwV 2 hts gX10_parseArguments_X10_parseNumber rfl rfl rfl hdX10_parseNumber ⟨Nat.le_of_ble_eq_true rfl, Nat.le_of_ble_eq_true rfl⟩) hK hP hD hS hA (q0 := 0) rfl rfl rfl hl.1 rfl (Nat.le_of_ble_eq_true rfl) dX10_parseArguments_182 ⟨Nat.zero_le _, Nat.zero_le _⟩ (fun r182 u182 H locs h1 hP hD hS => ?_)
    refine kc_vV0 (b := h) (As := [.int 3, .int r182]) (rest := []) h1 ⟨hx, hb, hml, hown, hts⟩ (cX10_putM l D cy h a H.size u182 3 r182) (cwV 2 hts gX10_parseArguments_X10_put rfl rfl rfl hdX10_put ⟨Nat.le_of_ble_eq_true rfl, Nat.le_of_ble_eq_true rfl⟩) hK hP hD hS hA (q0 := 0) rfl rfl rfl hl.1 rfl (Nat.le_of_ble_eq_true rfl) dX10_parseArguments_185 ⟨Nat.zero_le _, Nat.zero_le _⟩ (fun u185 H locs h1 hP hD hS => ?_)
    refine lv_goto (tgt := 222) hx hb dX10_parseArguments_188 (by decide) ?_
    exact kret_v hx hb hr hlocks hP hD hS h1 dX10_parseArguments_222
  replace h1 := Ok.neg c1_7 h1
  refine lv_tableOut (tgt := 191) hx hb dX10_parseArguments_1 (k_tout (x := x1) [0, 1, 2, 3, 4, 5, 6, 7] (by decide) ⟨c1_0, c1_1, c1_2, c1_3, c1_4, c1_5, c1_6, c1_7, trivial⟩) (by decide) ?_
  refine lv_aload_n hx hb dX10_parseArguments_191 rfl (lv_at hl 0 rfl) ?_
  refine lv_iconst (v := 1) hx hb dX10_parseArguments_192 rfl ?_
  refine lv_aload_n hx hb dX10_parseArguments_193 rfl (lv_at hl 0 rfl) ?_
  refine lv_iconst (v := 1) hx hb dX10_parseArguments_194 rfl ?_
  refine lv_bipush (v := 20) hx hb dX10_parseArguments_195 rfl ?_
  refine kc_iV0 (b := h) (As := [.int 1, .int 20]) (rest := [.int 1, .ref h]) h1 ⟨hx, hb, hml, hown, hts⟩ (cX10_parseNumberM l D cy h a H.size u 1 20) (cwV 2 hts gX10_parseArguments_X10_parseNumber rfl rfl rfl hdX10_parseNumber ⟨Nat.le_of_ble_eq_true rfl, Nat.le_of_ble_eq_true rfl⟩) hK hP hD hS hA (q0 := 0) rfl rfl rfl hl.1 rfl (Nat.le_of_ble_eq_true rfl) dX10_parseArguments_197 ⟨Nat.zero_le _, Nat.zero_le _⟩ (fun r197 u197 H locs h1 hP hD hS => ?_)
  refine kc_vV0 (b := h) (As := [.int 1, .int r197]) (rest := []) h1 ⟨hx, hb, hml, hown, hts⟩ (cX10_putM l D cy h a H.size u197 1 r197) (cwV 2 hts gX10_parseArguments_X10_put rfl rfl rfl hdX10_put ⟨Nat.le_of_ble_eq_true rfl, Nat.le_of_ble_eq_true rfl⟩) hK hP hD hS hA (q0 := 0) rfl rfl rfl hl.1 rfl (Nat.le_of_ble_eq_true rfl) dX10_parseArguments_200 ⟨Nat.zero_le _, Nat.zero_le _⟩ (fun u200 H locs h1 hP hD hS => ?_)
  refine lv_aload_n hx hb dX10_parseArguments_203 rfl (lv_at hl 0 rfl) ?_
  refine k_ldcSW (tx := "patience") (q := za 44) hx hb hown (k_site hZ 44 (by decide)) dX10_parseArguments_204 ?_
  refine kz_vV0 (b := h) (As := [.ref (za 44)]) (rest := []) h1 ⟨hx, hb, hml, hown, hts⟩ (cX10_parseWordM l D cy za zv h a H.size 44 u200 (by decide)) (cwV 1 hts gX10_parseArguments_X10_parseWord rfl rfl rfl hdX10_parseWord ⟨Nat.le_of_ble_eq_true rfl, Nat.le_of_ble_eq_true rfl⟩) hZ hK hP hD hS hA (q0 := 0) rfl rfl rfl hl.1 rfl (Nat.le_of_ble_eq_true rfl) dX10_parseArguments_207 ⟨Nat.zero_le _, Nat.zero_le _⟩ (fun u207 H locs h1 hP hD hS => ?_)
  refine lv_aload_n hx hb dX10_parseArguments_210 rfl (lv_at hl 0 rfl) ?_
  refine lv_iconst (v := 2) hx hb dX10_parseArguments_211 rfl ?_
  refine lv_aload_n hx hb dX10_parseArguments_212 rfl (lv_at hl 0 rfl) ?_
  refine lv_iconst (v := 1) hx hb dX10_parseArguments_213 rfl ?_
  refine lv_bipush (v := 50) hx hb dX10_parseArguments_214 rfl ?_
  refine kc_iV0 (b := h) (As := [.int 1, .int 50]) (rest := [.int 2, .ref h]) h1 ⟨hx, hb, hml, hown, hts⟩ (cX10_parseNumberM l D cy h a H.size u207 1 50) (cwV 2 hts gX10_parseArguments_X10_parseNumber rfl rfl rfl hdX10_parseNumber ⟨Nat.le_of_ble_eq_true rfl, Nat.le_of_ble_eq_true rfl⟩) hK hP hD hS hA (q0 := 0) rfl rfl rfl hl.1 rfl (Nat.le_of_ble_eq_true rfl) dX10_parseArguments_216 ⟨Nat.zero_le _, Nat.zero_le _⟩ (fun r216 u216 H locs h1 hP hD hS => ?_)
  refine kc_vV0 (b := h) (As := [.int 2, .int r216]) (rest := []) h1 ⟨hx, hb, hml, hown, hts⟩ (cX10_putM l D cy h a H.size u216 2 r216) (cwV 2 hts gX10_parseArguments_X10_put rfl rfl rfl hdX10_put ⟨Nat.le_of_ble_eq_true rfl, Nat.le_of_ble_eq_true rfl⟩) hK hP hD hS hA (q0 := 0) rfl rfl rfl hl.1 rfl (Nat.le_of_ble_eq_true rfl) dX10_parseArguments_219 ⟨Nat.zero_le _, Nat.zero_le _⟩ (fun u219 H locs h1 hP hD hS => ?_)
  exact kret_v hx hb hr hlocks hP hD hS h1 dX10_parseArguments_222
def fX10_parseArguments (p1 : Int32) (u : RS) : Option (RS) := fX10_parseArguments_b0 p1 u
set_option maxHeartbeats 4000000 in
set_option maxRecDepth 100000 in
theorem cX10_parseArgumentsM (l : Launch) (D : va_G) (cy : Nat → ClassId) (za zv : Nat → Nat) (h : Nat) (a : Nat → Nat) (sz : Nat) (u : RS) (p1 : Int32) : ∀ (K : RS → Prop), Ok (fX10_parseArguments p1 u) K → Met l yX10_parseArguments wsX10_parseArguments rmX10_parseArguments (va_Pc [.ref h, .int p1] (kPreZ D cy za zv sz (wM cy h a u))) (va_Qv K (fun q => kPost D (va_A (wM cy h a u) sz) (wM cy h a q)) (va_A (wM cy h a u) sz)) 0 0 (va_A (wM cy h a u) sz) := by
  intro K h1
  refine Met.ofW (cc := cX10_parseArguments) (maxL := 2) (ret := none) (by decide) rfl ?_
  intro p e s m args below meth c s₁ B hml hv
  obtain ⟨rfl, ⟨hsz, hP, hK, hD0⟩, hZ⟩ := hv
  subst hsz
  have E : mE D cy RX10 cX10_parseArguments 2 none wsX10_parseArguments (va_A (wM cy h a u) s.heap.size) p s m _ meth c := ⟨B.exec, B.bytes, B.returns, hml, findClass_of_methodNamed B.named, atoms_spec (ws := wsX10_parseArguments) B.pre, B.notSynchronized, hK, fun q h => Or.inr h⟩
  have hl := lv_entry ([.ref h, .int p1]) (n := 2) (Nat.le_of_ble_eq_true rfl)
  rw [lg_entry_eq]
  generalize (lg_sl ([.ref h, .int p1]) ++ List.replicate (2 - (lg_sl ([.ref h, .int p1])).length) Slot.unset).toArray = ls at hl ⊢
  exact tX10_parseArguments_b0 K E hZ p1 u _ _ _ hl hP hD0.self va_S.rf h1
-- X10_parseCommand
theorem hdX10_commandHere : yX10_commandHere.cls = RX10 ∧ yX10_commandHere.cls ≠ "java/lang/invoke/MethodHandle" ∧ yX10_commandHere.cls ≠ "java/lang/invoke/VarHandle" ∧ (parseMethodDescriptor yX10_commandHere.desc).map (fun d => d.parameters.length) = some 0 := by decide +kernel
theorem inX10_parseCommand_X10 : ∀ w ∈ u_ws RX10 TX10 23, w ∈ wsX10_parseCommand := k_lays 139 rfl
theorem lkX10_parseCommand_222 : Cond.fieldLink RX10 222 "FerryRampModel" "commandCount" "I" ∈ wsX10_parseCommand := List.mem_of_getElem? (i := 1) rfl
theorem hdX10_parseArguments : yX10_parseArguments.cls = RX10 ∧ yX10_parseArguments.cls ≠ "java/lang/invoke/MethodHandle" ∧ yX10_parseArguments.cls ≠ "java/lang/invoke/VarHandle" ∧ (parseMethodDescriptor yX10_parseArguments.desc).map (fun d => d.parameters.length) = some 1 := by decide +kernel
abbrev rmX10_parseCommand : Room := { frames := 7, cells := 0, slots := 0, locals := 150 }
def fX10_parseCommand_b61 (u : RS) : Option (RS) :=
  bnd (fX10_parseEnd u) (fun u62 => bnd (fX10_isFine u62) (fun r66 => (if r66 = 0 then some u62 else some (nCc u62 ((mCc u62) + 1)))))
set_option maxHeartbeats 4000000 in
set_option maxRecDepth 100000 in
theorem tX10_parseCommand_b61 {p : Program} {l : Launch} {e : Env} {s : State} {m : MethodId} {args : Array Value} {below : List Frame} {meth : Method} {c : Code} {D : va_G} {cy : Nat → ClassId} {A : Nat → Prop} {h : Nat} {a : Nat → Nat} {za zv : Nat → Nat} (K : RS → Prop) (E : mE D cy RX10 cX10_parseCommand 2 none wsX10_parseCommand A p s m args meth c) (hZ : mZ za zv A s s.heap)
     (u : RS) (H : Heap) (locs : List Loc) (ls : Array Slot) (hl : lv_has ls 2 [(0, .ref h)]) (hP : va_P D vwCl (wM cy h a u) H) (hD : va_D A (wM cy h a u)) (hS : va_S A s.heap H locs) (h1 : Ok (fX10_parseCommand_b61 u) K) :
    kW p l e rmX10_parseCommand s m args below meth c H locs (va_Qv K (fun q => kPost D A (wM cy h a q)) A) A 61 ls [] := by
  obtain ⟨hx, hb, hr, hml, hown, hts, hlocks, hK, hA⟩ := id E
  unfold fX10_parseCommand_b61 at h1
  refine lv_aload_n hx hb dX10_parseCommand_61 rfl (lv_at hl 0 rfl) ?_
  refine kc_vV0 (b := h) (As := []) (rest := []) h1 ⟨hx, hb, hml, hown, hts⟩ (cX10_parseEndM l D cy h a H.size u) (cwV 0 hts gX10_parseCommand_X10_parseEnd rfl rfl rfl hdX10_parseEnd ⟨Nat.le_of_ble_eq_true rfl, Nat.le_of_ble_eq_true rfl⟩) hK hP hD hS hA (q0 := 0) rfl rfl rfl hl.1 rfl (Nat.le_of_ble_eq_true rfl) dX10_parseCommand_62 ⟨Nat.zero_le _, Nat.zero_le _⟩ (fun u62 H locs h1 hP hD hS => ?_)
  refine lv_aload_n hx hb dX10_parseCommand_65 rfl (lv_at hl 0 rfl) ?_
  refine kc_rV0 (b := h) (As := []) (rest := []) h1 ⟨hx, hb, hml, hown, hts⟩ (cX10_isFineM l D cy h a H.size u62) (cwV 0 hts gX10_parseCommand_X10_isFine rfl rfl rfl hdX10_isFine ⟨Nat.le_of_ble_eq_true rfl, Nat.le_of_ble_eq_true rfl⟩) hK hP hD hS hA (q0 := 0) rfl rfl rfl hl.1 rfl (Nat.le_of_ble_eq_true rfl) dX10_parseCommand_66 ⟨Nat.zero_le _, Nat.zero_le _⟩ (fun r66 H locs h1 hP hS => ?_)
  refine lv_if_eq (tgt := 82) hx hb dX10_parseCommand_69 (by decide) (fun c69 => ?_) (fun c69 => ?_)
  · replace h1 := Ok.pos c69 h1
    exact kret_v hx hb hr hlocks hP hD hS h1 dX10_parseCommand_82
  · replace h1 := Ok.neg c69 h1
    refine lv_aload_n hx hb dX10_parseCommand_72 rfl (lv_at hl 0 rfl) ?_
    refine lv_dup hx hb dX10_parseCommand_73 rfl ?_
    refine k_get (v := .int (mCc u62)) (C := RX10) (T := TX10) (N := 23) hx hb hts inX10_parseCommand_X10 hown hK hP 0 (wM_a0 _ _ _ _) rfl 11 (by decide) lkX10_parseCommand_222 (mFs_11 _ _) dX10_parseCommand_74 ?_
    refine lv_iconst (v := 1) hx hb dX10_parseCommand_77 rfl ?_
    refine lv_iadd hx hb dX10_parseCommand_78 ?_
    refine k_put (v := .int ((mCc u62) + 1)) (ty := .int) (C := RX10) (T := TX10) (N := 23) hx hb hts inX10_parseCommand_X10 tyX10 tyX10_ok nmX10 hown hK hP hD hS 0 (wM_a0 _ _ _ _) rfl 11 (by decide) lkX10_parseCommand_222 rfl (by decide +kernel) rfl rfl (Nat.le_of_ble_eq_true rfl) (ws' := wM cy h a (nCc u62 ((mCc u62) + 1))) (wM_nCc _ _ _ _ _) dX10_parseCommand_79 (fun H locs hP hD hS => ?_)
    exact kret_v hx hb hr hlocks hP hD hS h1 dX10_parseCommand_82
def fX10_parseCommand_b35 (x1 : Int32) (s1 : Int32) (u : RS) : Option (RS) :=
  bnd (fX10_require s1 4 u) (fun u36 => bnd (fX10_put 0 x1 u36) (fun u42 => bnd (fX10_proceed u42) (fun u46 => bnd (fX10_isFine u46) (fun r50 => (if r50 = 0 then fX10_parseCommand_b61 u46 else bnd (fX10_parseArguments x1 u46) (fun u58 => fX10_parseCommand_b61 u58))))))
set_option maxHeartbeats 4000000 in
set_option maxRecDepth 100000 in
theorem tX10_parseCommand_b35 {p : Program} {l : Launch} {e : Env} {s : State} {m : MethodId} {args : Array Value} {below : List Frame} {meth : Method} {c : Code} {D : va_G} {cy : Nat → ClassId} {A : Nat → Prop} {h : Nat} {a : Nat → Nat} {za zv : Nat → Nat} (K : RS → Prop) (E : mE D cy RX10 cX10_parseCommand 2 none wsX10_parseCommand A p s m args meth c) (hZ : mZ za zv A s s.heap)
     (x1 : Int32) (s1 : Int32) (u : RS) (H : Heap) (locs : List Loc) (ls : Array Slot) (hl : lv_has ls 2 [(0, .ref h), (1, .int x1)]) (hP : va_P D vwCl (wM cy h a u) H) (hD : va_D A (wM cy h a u)) (hS : va_S A s.heap H locs) (h1 : Ok (fX10_parseCommand_b35 x1 s1 u) K) :
    kW p l e rmX10_parseCommand s m args below meth c H locs (va_Qv K (fun q => kPost D A (wM cy h a q)) A) A 35 ls [.int s1, .ref h] := by
  obtain ⟨hx, hb, hr, hml, hown, hts, hlocks, hK, hA⟩ := id E
  unfold fX10_parseCommand_b35 at h1
  refine lv_iconst (v := 4) hx hb dX10_parseCommand_35 rfl ?_
  refine kc_vV0 (b := h) (As := [.int s1, .int 4]) (rest := []) h1 ⟨hx, hb, hml, hown, hts⟩ (cX10_requireM l D cy h a H.size u s1 4) (cwV 2 hts gX10_parseCommand_X10_require rfl rfl rfl hdX10_require ⟨Nat.le_of_ble_eq_true rfl, Nat.le_of_ble_eq_true rfl⟩) hK hP hD hS hA (q0 := 0) rfl rfl rfl hl.1 rfl (Nat.le_of_ble_eq_true rfl) dX10_parseCommand_36 ⟨Nat.zero_le _, Nat.zero_le _⟩ (fun u36 H locs h1 hP hD hS => ?_)
  refine lv_aload_n hx hb dX10_parseCommand_39 rfl (lv_at hl 0 rfl) ?_
  refine lv_iconst (v := 0) hx hb dX10_parseCommand_40 rfl ?_
  refine lv_iload_n hx hb dX10_parseCommand_41 rfl (lv_at hl 1 rfl) ?_
  refine kc_vV0 (b := h) (As := [.int 0, .int x1]) (rest := []) h1 ⟨hx, hb, hml, hown, hts⟩ (cX10_putM l D cy h a H.size u36 0 x1) (cwV 2 hts gX10_parseCommand_X10_put rfl rfl rfl hdX10_put ⟨Nat.le_of_ble_eq_true rfl, Nat.le_of_ble_eq_true rfl⟩) hK hP hD hS hA (q0 := 0) rfl rfl rfl hl.1 rfl (Nat.le_of_ble_eq_true rfl) dX10_parseCommand_42 ⟨Nat.zero_le _, Nat.zero_le _⟩ (fun u42 H locs h1 hP hD hS => ?_)
  refine lv_aload_n hx hb dX10_parseCommand_45 rfl (lv_at hl 0 rfl) ?_
  refine kc_vV0 (b := h) (As := []) (rest := []) h1 ⟨hx, hb, hml, hown, hts⟩ (cX10_proceedM l D cy h a H.size u42) (cwV 0 hts gX10_parseCommand_X10_proceed rfl rfl rfl hdX10_proceed ⟨Nat.le_of_ble_eq_true rfl, Nat.le_of_ble_eq_true rfl⟩) hK hP hD hS hA (q0 := 0) rfl rfl rfl hl.1 rfl (Nat.le_of_ble_eq_true rfl) dX10_parseCommand_46 ⟨Nat.zero_le _, Nat.zero_le _⟩ (fun u46 H locs h1 hP hD hS => ?_)
  refine lv_aload_n hx hb dX10_parseCommand_49 rfl (lv_at hl 0 rfl) ?_
  refine kc_rV0 (b := h) (As := []) (rest := []) h1 ⟨hx, hb, hml, hown, hts⟩ (cX10_isFineM l D cy h a H.size u46) (cwV 0 hts gX10_parseCommand_X10_isFine rfl rfl rfl hdX10_isFine ⟨Nat.le_of_ble_eq_true rfl, Nat.le_of_ble_eq_true rfl⟩) hK hP hD hS hA (q0 := 0) rfl rfl rfl hl.1 rfl (Nat.le_of_ble_eq_true rfl) dX10_parseCommand_50 ⟨Nat.zero_le _, Nat.zero_le _⟩ (fun r50 H locs h1 hP hS => ?_)
  refine lv_if_eq (tgt := 61) hx hb dX10_parseCommand_53 (by decide) (fun c53 => ?_) (fun c53 => ?_)
  · replace h1 := Ok.pos c53 h1
    exact tX10_parseCommand_b61 K E hZ u46 H locs ls (lv_sub hl [0] rfl) hP hD hS h1
  · replace h1 := Ok.neg c53 h1
    refine lv_aload_n hx hb dX10_parseCommand_56 rfl (lv_at hl 0 rfl) ?_
    refine lv_iload_n hx hb dX10_parseCommand_57 rfl (lv_at hl 1 rfl) ?_
    refine kz_vV0 (b := h) (As := [.int x1]) (rest := []) h1 ⟨hx, hb, hml, hown, hts⟩ (cX10_parseArgumentsM l D cy za zv h a H.size u46 x1) (cwV 1 hts gX10_parseCommand_X10_parseArguments rfl rfl rfl hdX10_parseArguments ⟨Nat.le_of_ble_eq_true rfl, Nat.le_of_ble_eq_true rfl⟩) hZ hK hP hD hS hA (q0 := 0) rfl rfl rfl hl.1 rfl (Nat.le_of_ble_eq_true rfl) dX10_parseCommand_58 ⟨Nat.zero_le _, Nat.zero_le _⟩ (fun u58 H locs h1 hP hD hS => ?_)
    exact tX10_parseCommand_b61 K E hZ u58 H locs ls (lv_sub hl [0] rfl) hP hD hS h1
def fX10_parseCommand_b16 (x1 : Int32) (s1 : Int32) (u : RS) : Option (RS) :=
  bnd (fX10_require s1 1 u) (fun u17 => (if 40 ≤ (mCc u17) then fX10_parseCommand_b35 x1 0 u17 else fX10_parseCommand_b35 x1 1 u17))
set_option maxHeartbeats 4000000 in
set_option maxRecDepth 100000 in
theorem tX10_parseCommand_b16 {p : Program} {l : Launch} {e : Env} {s : State} {m : MethodId} {args : Array Value} {below : List Frame} {meth : Method} {c : Code} {D : va_G} {cy : Nat → ClassId} {A : Nat → Prop} {h : Nat} {a : Nat → Nat} {za zv : Nat → Nat} (K : RS → Prop) (E : mE D cy RX10 cX10_parseCommand 2 none wsX10_parseCommand A p s m args meth c) (hZ : mZ za zv A s s.heap)
     (x1 : Int32) (s1 : Int32) (u : RS) (H : Heap) (locs : List Loc) (ls : Array Slot) (hl : lv_has ls 2 [(0, .ref h), (1, .int x1)]) (hP : va_P D vwCl (wM cy h a u) H) (hD : va_D A (wM cy h a u)) (hS : va_S A s.heap H locs) (h1 : Ok (fX10_parseCommand_b16 x1 s1 u) K) :
    kW p l e rmX10_parseCommand s m args below meth c H locs (va_Qv K (fun q => kPost D A (wM cy h a q)) A) A 16 ls [.int s1, .ref h] := by
  obtain ⟨hx, hb, hr, hml, hown, hts, hlocks, hK, hA⟩ := id E
  unfold fX10_parseCommand_b16 at h1
  refine lv_iconst (v := 1) hx hb dX10_parseCommand_16 rfl ?_
  refine kc_vV0 (b := h) (As := [.int s1, .int 1]) (rest := []) h1 ⟨hx, hb, hml, hown, hts⟩ (cX10_requireM l D cy h a H.size u s1 1) (cwV 2 hts gX10_parseCommand_X10_require rfl rfl rfl hdX10_require ⟨Nat.le_of_ble_eq_true rfl, Nat.le_of_ble_eq_true rfl⟩) hK hP hD hS hA (q0 := 0) rfl rfl rfl hl.1 rfl (Nat.le_of_ble_eq_true rfl) dX10_parseCommand_17 ⟨Nat.zero_le _, Nat.zero_le _⟩ (fun u17 H locs h1 hP hD hS => ?_)
  refine lv_aload_n hx hb dX10_parseCommand_20 rfl (lv_at hl 0 rfl) ?_
  refine lv_aload_n hx hb dX10_parseCommand_21 rfl (lv_at hl 0 rfl) ?_
  refine k_get (v := .int (mCc u17)) (C := RX10) (T := TX10) (N := 23) hx hb hts inX10_parseCommand_X10 hown hK hP 0 (wM_a0 _ _ _ _) rfl 11 (by decide) lkX10_parseCommand_222 (mFs_11 _ _) dX10_parseCommand_22 ?_
  refine lv_bipush (v := 40) hx hb dX10_parseCommand_25 rfl ?_
  refine lv_icmp_ge (tgt := 34) hx hb dX10_parseCommand_27 (by decide) (fun c27 => ?_) (fun c27 => ?_)
  · replace h1 := Ok.pos c27 h1
    refine lv_iconst (v := 0) hx hb dX10_parseCommand_34 rfl ?_
    exact tX10_parseCommand_b35 K E hZ x1 0 u17 H locs ls (lv_sub hl [0, 1] rfl) hP hD hS h1
  · replace h1 := Ok.neg c27 h1
    refine lv_iconst (v := 1) hx hb dX10_parseCommand_30 rfl ?_
    refine lv_goto (tgt := 35) hx hb dX10_parseCommand_31 (by decide) ?_
    exact tX10_parseCommand_b35 K E hZ x1 1 u17 H locs ls (lv_sub hl [0, 1] rfl) hP hD hS h1
def fX10_parseCommand_b0 (u : RS) : Option (RS) :=
  bnd (fX10_commandHere u) (fun r1 => (if r1 = (-1) then fX10_parseCommand_b16 r1 0 u else fX10_parseCommand_b16 r1 1 u))
set_option maxHeartbeats 4000000 in
set_option maxRecDepth 100000 in
theorem tX10_parseCommand_b0 {p : Program} {l : Launch} {e : Env} {s : State} {m : MethodId} {args : Array Value} {below : List Frame} {meth : Method} {c : Code} {D : va_G} {cy : Nat → ClassId} {A : Nat → Prop} {h : Nat} {a : Nat → Nat} {za zv : Nat → Nat} (K : RS → Prop) (E : mE D cy RX10 cX10_parseCommand 2 none wsX10_parseCommand A p s m args meth c) (hZ : mZ za zv A s s.heap)
     (u : RS) (H : Heap) (locs : List Loc) (ls : Array Slot) (hl : lv_has ls 2 [(0, .ref h)]) (hP : va_P D vwCl (wM cy h a u) H) (hD : va_D A (wM cy h a u)) (hS : va_S A s.heap H locs) (h1 : Ok (fX10_parseCommand_b0 u) K) :
    kW p l e rmX10_parseCommand s m args below meth c H locs (va_Qv K (fun q => kPost D A (wM cy h a q)) A) A 0 ls [] := by
  obtain ⟨hx, hb, hr, hml, hown, hts, hlocks, hK, hA⟩ := id E
  unfold fX10_parseCommand_b0 at h1
  refine lv_aload_n hx hb dX10_parseCommand_0 rfl (lv_at hl 0 rfl) ?_
  refine kz_rV0 (b := h) (As := []) (rest := []) h1 ⟨hx, hb, hml, hown, hts⟩ (cX10_commandHereM l D cy za zv h a H.size u) (cwV 0 hts gX10_parseCommand_X10_commandHere rfl rfl rfl hdX10_commandHere ⟨Nat.le_of_ble_eq_true rfl, Nat.le_of_ble_eq_true rfl⟩) hZ hK hP hD hS hA (q0 := 0) rfl rfl rfl hl.1 rfl (Nat.le_of_ble_eq_true rfl) dX10_parseCommand_1 ⟨Nat.zero_le _, Nat.zero_le _⟩ (fun r1 H locs h1 hP hS => ?_)
  refine lv_istore_n (lv' := [(1, .int r1), (0, .ref h)]) hx hb dX10_parseCommand_4 rfl hl (by decide) rfl (fun ls hl => ?_)
  refine lv_aload_n hx hb dX10_parseCommand_5 rfl (lv_at hl 1 rfl) ?_
  refine lv_iload_n hx hb dX10_parseCommand_6 rfl (lv_at hl 0 rfl) ?_
  refine lv_iconst (v := (-1)) hx hb dX10_parseCommand_7 rfl ?_
  refine lv_icmp_eq (tgt := 15) hx hb dX10_parseCommand_8 (by decide) (fun c8 => ?_) (fun c8 => ?_)
  · replace h1 := Ok.pos c8 h1
    refine lv_iconst (v := 0) hx hb dX10_parseCommand_15 rfl ?_
    exact tX10_parseCommand_b16 K E hZ r1 0 u H locs ls (lv_sub hl [1, 0] rfl) hP hD hS h1
  · replace h1 := Ok.neg c8 h1
    refine lv_iconst (v := 1) hx hb dX10_parseCommand_11 rfl ?_
    refine lv_goto (tgt := 16) hx hb dX10_parseCommand_12 (by decide) ?_
    exact tX10_parseCommand_b16 K E hZ r1 1 u H locs ls (lv_sub hl [1, 0] rfl) hP hD hS h1
def fX10_parseCommand (u : RS) : Option (RS) := fX10_parseCommand_b0 u
set_option maxHeartbeats 4000000 in
set_option maxRecDepth 100000 in
theorem cX10_parseCommandM (l : Launch) (D : va_G) (cy : Nat → ClassId) (za zv : Nat → Nat) (h : Nat) (a : Nat → Nat) (sz : Nat) (u : RS) : ∀ (K : RS → Prop), Ok (fX10_parseCommand u) K → Met l yX10_parseCommand wsX10_parseCommand rmX10_parseCommand (va_Pc [.ref h] (kPreZ D cy za zv sz (wM cy h a u))) (va_Qv K (fun q => kPost D (va_A (wM cy h a u) sz) (wM cy h a q)) (va_A (wM cy h a u) sz)) 0 0 (va_A (wM cy h a u) sz) := by
  intro K h1
  refine Met.ofW (cc := cX10_parseCommand) (maxL := 2) (ret := none) (by decide) rfl ?_
  intro p e s m args below meth c s₁ B hml hv
  obtain ⟨rfl, ⟨hsz, hP, hK, hD0⟩, hZ⟩ := hv
  subst hsz
  have E : mE D cy RX10 cX10_parseCommand 2 none wsX10_parseCommand (va_A (wM cy h a u) s.heap.size) p s m _ meth c := ⟨B.exec, B.bytes, B.returns, hml, findClass_of_methodNamed B.named, atoms_spec (ws := wsX10_parseCommand) B.pre, B.notSynchronized, hK, fun q h => Or.inr h⟩
  have hl := lv_entry ([.ref h]) (n := 2) (Nat.le_of_ble_eq_true rfl)
  rw [lg_entry_eq]
  generalize (lg_sl ([.ref h]) ++ List.replicate (2 - (lg_sl ([.ref h])).length) Slot.unset).toArray = ls at hl ⊢
  exact tX10_parseCommand_b0 K E hZ u _ _ _ hl hP hD0.self va_S.rf h1
-- X10_play
theorem inX10_play_X10 : ∀ w ∈ u_ws RX10 TX10 23, w ∈ wsX10_play := k_lays 351 rfl
theorem lkX10_play_48 : Cond.fieldLink RX10 48 "FerryRampModel" "thrown" "I" ∈ wsX10_play := List.mem_of_getElem? (i := 1) rfl
theorem lkX10_play_158 : Cond.fieldLink RX10 158 "FerryRampModel" "textLength" "I" ∈ wsX10_play := List.mem_of_getElem? (i := 3) rfl
theorem lkX10_play_222 : Cond.fieldLink RX10 222 "FerryRampModel" "commandCount" "I" ∈ wsX10_play := List.mem_of_getElem? (i := 4) rfl
theorem hdX10_doCommand : yX10_doCommand.cls = RX10 ∧ yX10_doCommand.cls ≠ "java/lang/invoke/MethodHandle" ∧ yX10_doCommand.cls ≠ "java/lang/invoke/VarHandle" ∧ (parseMethodDescriptor yX10_doCommand.desc).map (fun d => d.parameters.length) = some 1 := by decide +kernel
theorem lkX10_play_176 : Cond.fieldLink RX10 176 "FerryRampModel" "token" "I" ∈ wsX10_play := List.mem_of_getElem? (i := 2) rfl
theorem hdX10_parseCommand : yX10_parseCommand.cls = RX10 ∧ yX10_parseCommand.cls ≠ "java/lang/invoke/MethodHandle" ∧ yX10_parseCommand.cls ≠ "java/lang/invoke/VarHandle" ∧ (parseMethodDescriptor yX10_parseCommand.desc).map (fun d => d.parameters.length) = some 0 := by decide +kernel
abbrev rmX10_play : Room := { frames := 13, cells := 0, slots := 0, locals := 291 }
def fX10_play_b46 (k46 : Int32 × RS → Option (Int32 × RS)) (x1 : Int32) (u : RS) : Option (Int32 × RS) :=
  (if (mCc u) ≤ x1 then some (x1, u) else bnd2 (fX10_doCommand (4 * x1) u) (fun r58 u58 => (if r58 < 0 then some (x1, u58) else k46 (x1 + 1, u58))))
set_option maxHeartbeats 4000000 in
set_option maxRecDepth 100000 in
theorem tX10_play_b46 {p : Program} {l : Launch} {e : Env} {s : State} {m : MethodId} {args : Array Value} {below : List Frame} {meth : Method} {c : Code} {D : va_G} {cy : Nat → ClassId} {A : Nat → Prop} {h : Nat} {a : Nat → Nat} {za zv : Nat → Nat} (K : Int32 × RS → Prop) (E : mE D cy RX10 cX10_play 2 (some .int) wsX10_play A p s m args meth c) (hZ : mZ za zv A s s.heap)
    (k46 : Int32 × RS → Option (Int32 × RS)) (hk46 : ∀ (x1 : Int32) (u : RS) (H : Heap) (locs : List Loc) (ls : Array Slot), lv_has ls 2 [(0, .ref h), (1, .int x1)] → va_P D vwCl (wM cy h a u) H → va_D A (wM cy h a u) → va_S A s.heap H locs → Ok (k46 (x1, u)) K → kW p l e rmX10_play s m args below meth c H locs (va_Qi (fun r q => K (r, q)) (fun q => kPost D A (wM cy h a q)) A) A 46 ls [])
     (x1 : Int32) (u : RS) (H : Heap) (locs : List Loc) (ls : Array Slot) (hl : lv_has ls 2 [(0, .ref h), (1, .int x1)]) (hP : va_P D vwCl (wM cy h a u) H) (hD : va_D A (wM cy h a u)) (hS : va_S A s.heap H locs) (h1 : Ok (fX10_play_b46 k46 x1 u) K) :
    kW p l e rmX10_play s m args below meth c H locs (va_Qi (fun r q => K (r, q)) (fun q => kPost D A (wM cy h a q)) A) A 46 ls [] := by
  obtain ⟨hx, hb, hr, hml, hown, hts, hlocks, hK, hA⟩ := id E
  unfold fX10_play_b46 at h1
  refine lv_iload_n hx hb dX10_play_46 rfl (lv_at hl 1 rfl) ?_
  refine lv_aload_n hx hb dX10_play_47 rfl (lv_at hl 0 rfl) ?_
  refine k_get (v := .int (mCc u)) (C := RX10) (T := TX10) (N := 23) hx hb hts inX10_play_X10 hown hK hP 0 (wM_a0 _ _ _ _) rfl 11 (by decide) lkX10_play_222 (mFs_11 _ _) dX10_play_48 ?_
  refine lv_icmp_ge (tgt := 70) hx hb dX10_play_51 (by decide) (fun c51 => ?_) (fun c51 => ?_)
  · replace h1 := Ok.pos c51 h1
    refine lv_iload_n hx hb dX10_play_70 rfl (lv_at hl 1 rfl) ?_
    exact kret_i hx hb hr hlocks hP hD hS h1 dX10_play_71
  · replace h1 := Ok.neg c51 h1
    refine lv_aload_n hx hb dX10_play_54 rfl (lv_at hl 0 rfl) ?_
    refine lv_iconst (v := 4) hx hb dX10_play_55 rfl ?_
    refine lv_iload_n hx hb dX10_play_56 rfl (lv_at hl 1 rfl) ?_
    refine lv_imul hx hb dX10_play_57 ?_
    refine kc_iV0 (b := h) (As := [.int (4 * x1)]) (rest := []) h1 ⟨hx, hb, hml, hown, hts⟩ (cX10_doCommandM l D cy h a H.size u (4 * x1)) (cwV 1 hts gX10_play_X10_doCommand rfl rfl rfl hdX10_doCommand ⟨Nat.le_of_ble_eq_true rfl, Nat.le_of_ble_eq_true rfl⟩) hK hP hD hS hA (q0 := 0) rfl rfl rfl hl.1 rfl (Nat.le_of_ble_eq_true rfl) dX10_play_58 ⟨Nat.zero_le _, Nat.zero_le _⟩ (fun r58 u58 H locs h1 hP hD hS => ?_)
    refine lv_if_lt (tgt := 70) hx hb dX10_play_61 (by decide) (fun c61 => ?_) (fun c61 => ?_)
    · replace h1 := Ok.pos c61 h1
      refine lv_iload_n hx hb dX10_play_70 rfl (lv_at hl 1 rfl) ?_
      exact kret_i hx hb hr hlocks hP hD hS h1 dX10_play_71
    · replace h1 := Ok.neg c61 h1
      refine lv_iinc (v := x1 + 1) (lv' := [(1, .int (x1 + 1)), (0, .ref h)]) hx hb dX10_play_64 hl (k := 1) rfl rfl (by decide) rfl (fun ls hl => ?_)
      refine lv_goto (tgt := 46) hx hb dX10_play_67 (by decide) ?_
      exact hk46 (x1 + 1) u58 H locs ls (lv_sub hl [1, 0] rfl) hP hD hS h1
theorem tX10_play_l46 {p : Program} {l : Launch} {e : Env} {s : State} {m : MethodId} {args : Array Value} {below : List Frame} {meth : Method} {c : Code} {D : va_G} {cy : Nat → ClassId} {A : Nat → Prop} {h : Nat} {a : Nat → Nat} {za zv : Nat → Nat} (K : Int32 × RS → Prop) (E : mE D cy RX10 cX10_play 2 (some .int) wsX10_play A p s m args meth c) (hZ : mZ za zv A s s.heap) : ∀ (n9 : Nat) (x1 : Int32) (u : RS) (H : Heap) (locs : List Loc) (ls : Array Slot), lv_has ls 2 [(0, .ref h), (1, .int x1)] → va_P D vwCl (wM cy h a u) H → va_D A (wM cy h a u) → va_S A s.heap H locs → Ok (lop (fun y z => fX10_play_b46 y z.1 z.2) n9 (x1, u)) K → kW p l e rmX10_play s m args below meth c H locs (va_Qi (fun r q => K (r, q)) (fun q => kPost D A (wM cy h a q)) A) A 46 ls [] := by
  intro n9
  induction n9 with
  | zero =>
    intro x1 u H locs ls hl hP hD hS h1
    exact h1.no
  | succ n9 ih =>
    intro x1 u H locs ls hl hP hD hS h1
    exact tX10_play_b46 K E hZ (lop (fun y z => fX10_play_b46 y z.1 z.2) n9) (fun x1 u H locs ls hl hP hD hS h1 => ih x1 u H locs ls hl hP hD hS h1) x1 u H locs ls hl hP hD hS h1
def fX10_play_b30 (u : RS) : Option (Int32 × RS) :=
  bnd (fX10_isFine (nTl u 0)) (fun r36 => (if r36 = 0 then some ((-1), nTl u 0) else lop (fun y z => fX10_play_b46 y z.1 z.2) LF (0, nTl u 0)))
set_option maxHeartbeats 4000000 in
set_option maxRecDepth 100000 in
theorem tX10_play_b30 {p : Program} {l : Launch} {e : Env} {s : State} {m : MethodId} {args : Array Value} {below : List Frame} {meth : Method} {c : Code} {D : va_G} {cy : Nat → ClassId} {A : Nat → Prop} {h : Nat} {a : Nat → Nat} {za zv : Nat → Nat} (K : Int32 × RS → Prop) (E : mE D cy RX10 cX10_play 2 (some .int) wsX10_play A p s m args meth c) (hZ : mZ za zv A s s.heap)
     (u : RS) (H : Heap) (locs : List Loc) (ls : Array Slot) (hl : lv_has ls 2 [(0, .ref h)]) (hP : va_P D vwCl (wM cy h a u) H) (hD : va_D A (wM cy h a u)) (hS : va_S A s.heap H locs) (h1 : Ok (fX10_play_b30 u) K) :
    kW p l e rmX10_play s m args below meth c H locs (va_Qi (fun r q => K (r, q)) (fun q => kPost D A (wM cy h a q)) A) A 30 ls [] := by
  obtain ⟨hx, hb, hr, hml, hown, hts, hlocks, hK, hA⟩ := id E
  unfold fX10_play_b30 at h1
  refine lv_aload_n hx hb dX10_play_30 rfl (lv_at hl 0 rfl) ?_
  refine lv_iconst (v := 0) hx hb dX10_play_31 rfl ?_
  refine k_put (v := .int 0) (ty := .int) (C := RX10) (T := TX10) (N := 23) hx hb hts inX10_play_X10 tyX10 tyX10_ok nmX10 hown hK hP hD hS 0 (wM_a0 _ _ _ _) rfl 12 (by decide) lkX10_play_158 rfl (by decide +kernel) rfl rfl (Nat.le_of_ble_eq_true rfl) (ws' := wM cy h a (nTl u 0)) (wM_nTl _ _ _ _ _) dX10_play_32 (fun H locs hP hD hS => ?_)
  refine lv_aload_n hx hb dX10_play_35 rfl (lv_at hl 0 rfl) ?_
  refine kc_rV0 (b := h) (As := []) (rest := []) h1 ⟨hx, hb, hml, hown, hts⟩ (cX10_isFineM l D cy h a H.size (nTl u 0)) (cwV 0 hts gX10_play_X10_isFine rfl rfl rfl hdX10_isFine ⟨Nat.le_of_ble_eq_true rfl, Nat.le_of_ble_eq_true rfl⟩) hK hP hD hS hA (q0 := 0) rfl rfl rfl hl.1 rfl (Nat.le_of_ble_eq_true rfl) dX10_play_36 ⟨Nat.zero_le _, Nat.zero_le _⟩ (fun r36 H locs h1 hP hS => ?_)
  refine lv_if_ne (tgt := 44) hx hb dX10_play_39 (by decide) (fun c39 => ?_) (fun c39 => ?_)
  · replace h1 := Ok.neg c39 h1
    refine lv_iconst (v := 0) hx hb dX10_play_44 rfl ?_
    refine lv_istore_n (lv' := [(1, .int 0), (0, .ref h)]) hx hb dX10_play_45 rfl hl (by decide) rfl (fun ls hl => ?_)
    exact tX10_play_l46 K E hZ LF 0 (nTl u 0) H locs ls (lv_sub hl [1, 0] rfl) hP hD hS h1
  · replace h1 := Ok.pos c39 h1
    refine lv_iconst (v := (-1)) hx hb dX10_play_42 rfl ?_
    exact kret_i hx hb hr hlocks hP hD hS h1 dX10_play_43
def fX10_play_b9 (k9 : RS → Option (Int32 × RS)) (u : RS) : Option (Int32 × RS) :=
  bnd (fX10_isFine u) (fun r10 => (if r10 = 0 then fX10_play_b30 u else (if (mTo u) = 0 then fX10_play_b30 u else bnd (fX10_parseCommand u) (fun u24 => k9 u24))))
set_option maxHeartbeats 4000000 in
set_option maxRecDepth 100000 in
theorem tX10_play_b9 {p : Program} {l : Launch} {e : Env} {s : State} {m : MethodId} {args : Array Value} {below : List Frame} {meth : Method} {c : Code} {D : va_G} {cy : Nat → ClassId} {A : Nat → Prop} {h : Nat} {a : Nat → Nat} {za zv : Nat → Nat} (K : Int32 × RS → Prop) (E : mE D cy RX10 cX10_play 2 (some .int) wsX10_play A p s m args meth c) (hZ : mZ za zv A s s.heap)
    (k9 : RS → Option (Int32 × RS)) (hk9 : ∀ (u : RS) (H : Heap) (locs : List Loc) (ls : Array Slot), lv_has ls 2 [(0, .ref h)] → va_P D vwCl (wM cy h a u) H → va_D A (wM cy h a u) → va_S A s.heap H locs → Ok (k9 u) K → kW p l e rmX10_play s m args below meth c H locs (va_Qi (fun r q => K (r, q)) (fun q => kPost D A (wM cy h a q)) A) A 9 ls [])
     (u : RS) (H : Heap) (locs : List Loc) (ls : Array Slot) (hl : lv_has ls 2 [(0, .ref h)]) (hP : va_P D vwCl (wM cy h a u) H) (hD : va_D A (wM cy h a u)) (hS : va_S A s.heap H locs) (h1 : Ok (fX10_play_b9 k9 u) K) :
    kW p l e rmX10_play s m args below meth c H locs (va_Qi (fun r q => K (r, q)) (fun q => kPost D A (wM cy h a q)) A) A 9 ls [] := by
  obtain ⟨hx, hb, hr, hml, hown, hts, hlocks, hK, hA⟩ := id E
  unfold fX10_play_b9 at h1
  refine lv_aload_n hx hb dX10_play_9 rfl (lv_at hl 0 rfl) ?_
  refine kc_rV0 (b := h) (As := []) (rest := []) h1 ⟨hx, hb, hml, hown, hts⟩ (cX10_isFineM l D cy h a H.size u) (cwV 0 hts gX10_play_X10_isFine rfl rfl rfl hdX10_isFine ⟨Nat.le_of_ble_eq_true rfl, Nat.le_of_ble_eq_true rfl⟩) hK hP hD hS hA (q0 := 0) rfl rfl rfl hl.1 rfl (Nat.le_of_ble_eq_true rfl) dX10_play_10 ⟨Nat.zero_le _, Nat.zero_le _⟩ (fun r10 H locs h1 hP hS => ?_)
  refine lv_if_eq (tgt := 30) hx hb dX10_play_13 (by decide) (fun c13 => ?_) (fun c13 => ?_)
  · replace h1 := Ok.pos c13 h1
    exact tX10_play_b30 K E hZ u H locs ls (lv_sub hl [0] rfl) hP hD hS h1
  · replace h1 := Ok.neg c13 h1
    refine lv_aload_n hx hb dX10_play_16 rfl (lv_at hl 0 rfl) ?_
    refine k_get (v := .int (mTo u)) (C := RX10) (T := TX10) (N := 23) hx hb hts inX10_play_X10 hown hK hP 0 (wM_a0 _ _ _ _) rfl 15 (by decide) lkX10_play_176 (mFs_15 _ _) dX10_play_17 ?_
    refine lv_if_eq (tgt := 30) hx hb dX10_play_20 (by decide) (fun c20 => ?_) (fun c20 => ?_)
    · replace h1 := Ok.pos c20 h1
      exact tX10_play_b30 K E hZ u H locs ls (lv_sub hl [0] rfl) hP hD hS h1
    · replace h1 := Ok.neg c20 h1
      refine lv_aload_n hx hb dX10_play_23 rfl (lv_at hl 0 rfl) ?_
      refine kz_vV0 (b := h) (As := []) (rest := []) h1 ⟨hx, hb, hml, hown, hts⟩ (cX10_parseCommandM l D cy za zv h a H.size u) (cwV 0 hts gX10_play_X10_parseCommand rfl rfl rfl hdX10_parseCommand ⟨Nat.le_of_ble_eq_true rfl, Nat.le_of_ble_eq_true rfl⟩) hZ hK hP hD hS hA (q0 := 0) rfl rfl rfl hl.1 rfl (Nat.le_of_ble_eq_true rfl) dX10_play_24 ⟨Nat.zero_le _, Nat.zero_le _⟩ (fun u24 H locs h1 hP hD hS => ?_)
      refine lv_goto (tgt := 9) hx hb dX10_play_27 (by decide) ?_
      exact hk9 u24 H locs ls (lv_sub hl [0] rfl) hP hD hS h1
theorem tX10_play_l9 {p : Program} {l : Launch} {e : Env} {s : State} {m : MethodId} {args : Array Value} {below : List Frame} {meth : Method} {c : Code} {D : va_G} {cy : Nat → ClassId} {A : Nat → Prop} {h : Nat} {a : Nat → Nat} {za zv : Nat → Nat} (K : Int32 × RS → Prop) (E : mE D cy RX10 cX10_play 2 (some .int) wsX10_play A p s m args meth c) (hZ : mZ za zv A s s.heap) : ∀ (n9 : Nat) (u : RS) (H : Heap) (locs : List Loc) (ls : Array Slot), lv_has ls 2 [(0, .ref h)] → va_P D vwCl (wM cy h a u) H → va_D A (wM cy h a u) → va_S A s.heap H locs → Ok (lop (fun y z => fX10_play_b9 y z) n9 u) K → kW p l e rmX10_play s m args below meth c H locs (va_Qi (fun r q => K (r, q)) (fun q => kPost D A (wM cy h a q)) A) A 9 ls [] := by
  intro n9
  induction n9 with
  | zero =>
    intro u H locs ls hl hP hD hS h1
    exact h1.no
  | succ n9 ih =>
    intro u H locs ls hl hP hD hS h1
    exact tX10_play_b9 K E hZ (lop (fun y z => fX10_play_b9 y z) n9) (fun u H locs ls hl hP hD hS h1 => ih u H locs ls hl hP hD hS h1) u H locs ls hl hP hD hS h1
def fX10_play_b0 (u : RS) : Option (Int32 × RS) :=
  bnd (fX10_startText (nTh u 0)) (fun u6 => lop (fun y z => fX10_play_b9 y z) LF u6)
set_option maxHeartbeats 4000000 in
set_option maxRecDepth 100000 in
theorem tX10_play_b0 {p : Program} {l : Launch} {e : Env} {s : State} {m : MethodId} {args : Array Value} {below : List Frame} {meth : Method} {c : Code} {D : va_G} {cy : Nat → ClassId} {A : Nat → Prop} {h : Nat} {a : Nat → Nat} {za zv : Nat → Nat} (K : Int32 × RS → Prop) (E : mE D cy RX10 cX10_play 2 (some .int) wsX10_play A p s m args meth c) (hZ : mZ za zv A s s.heap)
     (u : RS) (H : Heap) (locs : List Loc) (ls : Array Slot) (hl : lv_has ls 2 [(0, .ref h)]) (hP : va_P D vwCl (wM cy h a u) H) (hD : va_D A (wM cy h a u)) (hS : va_S A s.heap H locs) (h1 : Ok (fX10_play_b0 u) K) :
    kW p l e rmX10_play s m args below meth c H locs (va_Qi (fun r q => K (r, q)) (fun q => kPost D A (wM cy h a q)) A) A 0 ls [] := by
  obtain ⟨hx, hb, hr, hml, hown, hts, hlocks, hK, hA⟩ := id E
  unfold fX10_play_b0 at h1
  refine lv_aload_n hx hb dX10_play_0 rfl (lv_at hl 0 rfl) ?_
  refine lv_iconst (v := 0) hx hb dX10_play_1 rfl ?_
  refine k_put (v := .int 0) (ty := .int) (C := RX10) (T := TX10) (N := 23) hx hb hts inX10_play_X10 tyX10 tyX10_ok nmX10 hown hK hP hD hS 0 (wM_a0 _ _ _ _) rfl 8 (by decide) lkX10_play_48 rfl (by decide +kernel) rfl rfl (Nat.le_of_ble_eq_true rfl) (ws' := wM cy h a (nTh u 0)) (wM_nTh _ _ _ _ _) dX10_play_2 (fun H locs hP hD hS => ?_)
  refine lv_aload_n hx hb dX10_play_5 rfl (lv_at hl 0 rfl) ?_
  refine kc_vV0 (b := h) (As := []) (rest := []) h1 ⟨hx, hb, hml, hown, hts⟩ (cX10_startTextM l D cy h a H.size (nTh u 0)) (cwV 0 hts gX10_play_X10_startText rfl rfl rfl hdX10_startText ⟨Nat.le_of_ble_eq_true rfl, Nat.le_of_ble_eq_true rfl⟩) hK hP hD hS hA (q0 := 0) rfl rfl rfl hl.1 rfl (Nat.le_of_ble_eq_true rfl) dX10_play_6 ⟨Nat.zero_le _, Nat.zero_le _⟩ (fun u6 H locs h1 hP hD hS => ?_)
  exact tX10_play_l9 K E hZ LF u6 H locs ls (lv_sub hl [0] rfl) hP hD hS h1
def fX10_play (u : RS) : Option (Int32 × RS) := fX10_play_b0 u
set_option maxHeartbeats 4000000 in
set_option maxRecDepth 100000 in
theorem cX10_playM (l : Launch) (D : va_G) (cy : Nat → ClassId) (za zv : Nat → Nat) (h : Nat) (a : Nat → Nat) (sz : Nat) (u : RS) : ∀ (K : Int32 → RS → Prop), Ok (fX10_play u) (fun q => K q.1 q.2) → Met l yX10_play wsX10_play rmX10_play (va_Pc [.ref h] (kPreZ D cy za zv sz (wM cy h a u))) (va_Qi K (fun q => kPost D (va_A (wM cy h a u) sz) (wM cy h a q)) (va_A (wM cy h a u) sz)) 0 0 (va_A (wM cy h a u) sz) := by
  intro K h1
  refine Met.ofW (cc := cX10_play) (maxL := 2) (ret := (some .int)) (by decide) rfl ?_
  intro p e s m args below meth c s₁ B hml hv
  obtain ⟨rfl, ⟨hsz, hP, hK, hD0⟩, hZ⟩ := hv
  subst hsz
  have E : mE D cy RX10 cX10_play 2 (some .int) wsX10_play (va_A (wM cy h a u) s.heap.size) p s m _ meth c := ⟨B.exec, B.bytes, B.returns, hml, findClass_of_methodNamed B.named, atoms_spec (ws := wsX10_play) B.pre, B.notSynchronized, hK, fun q h => Or.inr h⟩
  have hl := lv_entry ([.ref h]) (n := 2) (Nat.le_of_ble_eq_true rfl)
  rw [lg_entry_eq]
  generalize (lg_sl ([.ref h]) ++ List.replicate (2 - (lg_sl ([.ref h])).length) Slot.unset).toArray = ls at hl ⊢
  exact tX10_play_b0 (fun q => K q.1 q.2) E hZ u _ _ _ hl hP hD0.self va_S.rf h1
