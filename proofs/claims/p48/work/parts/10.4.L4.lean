theorem inL_addsUp_L : ∀ w ∈ u_ws RL TL 4, w ∈ wsL_addsUp := k_lays 139 rfl
theorem lkL_addsUp_10 : Cond.fieldLink RL 10 "FerryRampLaw" "x" "LFerryRamp;" ∈ wsL_addsUp := List.mem_of_getElem? (i := 1) rfl
theorem heL_tide : yL_tide.cls ≠ "java/lang/invoke/MethodHandle" ∧ yL_tide.cls ≠ "java/lang/invoke/VarHandle" ∧ (parseMethodDescriptor yL_tide.desc).map (fun d => d.parameters.length) = some 2 := by decide +kernel
theorem hdX9_waterIn : yX9_waterIn.cls = RX9 ∧ yX9_waterIn.cls ≠ "java/lang/invoke/MethodHandle" ∧ yX9_waterIn.cls ≠ "java/lang/invoke/VarHandle" ∧ (parseMethodDescriptor yX9_waterIn.desc).map (fun d => d.parameters.length) = some 1 := by decide +kernel
theorem hdX9_list : yX9_list.cls = RX9 ∧ yX9_list.cls ≠ "java/lang/invoke/MethodHandle" ∧ yX9_list.cls ≠ "java/lang/invoke/VarHandle" ∧ (parseMethodDescriptor yX9_list.desc).map (fun d => d.parameters.length) = some 0 := by decide +kernel
theorem hdX9_fullness : yX9_fullness.cls = RX9 ∧ yX9_fullness.cls ≠ "java/lang/invoke/MethodHandle" ∧ yX9_fullness.cls ≠ "java/lang/invoke/VarHandle" ∧ (parseMethodDescriptor yX9_fullness.desc).map (fun d => d.parameters.length) = some 0 := by decide +kernel
theorem heL_lane : yL_lane.cls ≠ "java/lang/invoke/MethodHandle" ∧ yL_lane.cls ≠ "java/lang/invoke/VarHandle" ∧ (parseMethodDescriptor yL_lane.desc).map (fun d => d.parameters.length) = some 3 := by decide +kernel
abbrev rmL_addsUp : Room := { frames := 4, cells := 2, slots := 6, locals := 151 }
section KD2
variable {p : Program} {l : Launch} {e : Env} {R : Room} {s : State} {m : MethodId} {args : Array Value} {below : List Frame} {meth : Method} {c : Code} {H : Heap} {locs : List Loc} {cc : ByteArray} {pc : Nat} {ls : Array Slot} {D : va_G} {A : Nat → Prop}
abbrev kW2 (p : Program) (l : Launch) (e : Env) (R : Room) (s : State) (m : MethodId) (args : Array Value) (below : List Frame) (meth : Method) (c : Code) (H : Heap) (locs : List Loc) (Qc : Array Value → State → Outcome → State → Prop) (A : Nat → Prop) (pc : Nat) (ls : Array Slot) (st : List Value) : Prop :=
  W p l e R s m args below meth c H locs 2 6 (MQ below Qc args s 2 6 A) (F0 m pc ls st)
theorem pD4 (w1 w2 w3 w4 : va_W) : (([w1, w2, w3, w4] : List va_W).flatten).Perm (([w1, w4] : List va_W).flatten ++ ([w2, w3] : List va_W).flatten) := k_seln (l := [w1, w2, w3, w4]) (n := 4) [0, 3] [1, 2] rfl rfl (by decide)
theorem kret_dz {w1 w2 w3 w4 : va_W} {K : Int32 → Prop} {v : Int32} {ty : FieldType} (hx : p.tables.exec = Jvm.exec) (hb : c.code = cc) (hr : meth.sig.returnType = some ty) (hn : narrow ty (.int v) = .int v) (hlocks : meth.locks = false) (hP : va_P D kCl (([w1, w2, w3, w4] : List va_W).flatten) H) (hD : va_D A (([w1, w2, w3, w4] : List va_W).flatten)) (hS : va_S A s.heap H locs) (h : Ok (some v) K) (hdg : decode cc pc = .ok (.ireturn, 1)) :
    kW2 p l e R s m args below meth c H locs (va_Qi (fun r (_ : Unit) => K r) (fun _ => kPost D A (([w1, w4] : List va_W).flatten)) A) A pc ls [.int v] :=
  W.zret hx hb hr hn (fun t ht hW => ⟨⟨v, (), rfl, h.ret, by rw [ht]; exact (kP_app.mp (kP_perm (pD4 w1 w2 w3 w4) hP)).1, (kD_app (kD_perm (pD4 w1 w2 w3 w4) hD)).1⟩, hS.F ht⟩) hS.2.2 hdg hlocks
end KD2
def fL_addsUp_b976 (x2 : Int32) (Y : YB) (un : Int32) (uw : Nat → Int32) (uf : Nat → Int32) (u : FS) : Option (Int32) :=
  bnd (fL_count 9 u) (fun r982 => bnd (fL_setting 12 u) (fun r992 => (if (if 2 < (r992 + 20) then (r992 + 20) else 2) ≤ r982 then some 0 else bnd (fX9_fullness u) (fun r1008 => bnd (fL_setting 7 u) (fun r1019 => grd (decide ((FP.fdiv (FP.i2f x2) (FP.i2f r1019)) &&& 0x7fffffff ≤ 0x7f800000)) ((if (Op.cmpValue (FP.fcmp r1008 (FP.fdiv (FP.i2f x2) (FP.i2f r1019))) .l) = 0 then some 1 else some 0)))))))
set_option maxHeartbeats 4000000 in
set_option maxRecDepth 100000 in
theorem tL_addsUp_b976 {p : Program} {l : Launch} {e : Env} {s : State} {m : MethodId} {args : Array Value} {below : List Frame} {meth : Method} {c : Code} {D : va_G} {cy : Nat → ClassId} {A : Nat → Prop} {hLn : Nat} {lbn : Nat} {raw : Nat} {raf : Nat} {ad : Nat → Nat} {hh : Nat → Nat} {aa : Nat → Nat → Nat} {pa : Nat → Nat} {za zv : Nat → Nat} {Y : YB} (K : Int32 → Prop) (E : mE D cy RL cL_addsUp 17 (some .boolean) wsL_addsUp A p s m args meth c) (hZ : mZ za zv A s s.heap) (hY : mY Y A s s.heap) (un : Int32) (u : FS)
     (x2 : Int32) (uw : Nat → Int32) (uf : Nat → Int32) (H : Heap) (locs : List Loc) (ls : Array Slot) (hl : lv_has ls 17 [(0, .ref hLn), (2, .int x2)]) (hP : va_P D kCl (([lwW hLn (ad 0) Y.2.1 lbn un, [(raw, .inl (cy 0, 3, .inl uw))], [(raf, .inl (cy 0, 3, .inl uf))], wF cy ad hh aa pa u] : List va_W).flatten) H) (hD : va_D A (([lwW hLn (ad 0) Y.2.1 lbn un, [(raw, .inl (cy 0, 3, .inl uw))], [(raf, .inl (cy 0, 3, .inl uf))], wF cy ad hh aa pa u] : List va_W).flatten)) (hS : va_S A s.heap H locs) (h1 : Ok (fL_addsUp_b976 x2 Y un uw uf u) K) :
    kW2 p l e rmL_addsUp s m args below meth c H locs (va_Qi (fun r (_ : Unit) => K r) (fun _ => kPost D A ([lwW hLn (ad 0) Y.2.1 lbn un, wF cy ad hh aa pa u] : List va_W).flatten) A) A 976 ls [] := by
  obtain ⟨hx, hb, hr, hml, hown, hts, hlocks, hK, hA⟩ := id E
  unfold fL_addsUp_b976 at h1
  refine lv_aload_n hx hb dL_addsUp_976 rfl (lv_at hl 0 rfl) ?_
  refine k_get (v := .ref (ad 0)) (C := RL) (T := TL) (N := 4) hx hb hts inL_addsUp_L hown hK hP 0 rfl rfl 0 (by decide) lkL_addsUp_10 rfl dL_addsUp_977 ?_
  refine lv_bipush (v := 9) hx hb dL_addsUp_980 rfl ?_
  refine kh_rS (As := [.ref (ad 0), .int 9]) (rest := []) h1 ⟨hx, hb, hml, hown, hts⟩ (cL_countM l D cy ad hh aa pa H.size u 9) (vx_cwSW 2 hts gL_addsUp_L_count rfl rfl rfl heL_count ⟨Nat.le_of_ble_eq_true rfl, Nat.le_of_ble_eq_true rfl⟩) hK (k_sel1 (l := [lwW hLn (ad 0) Y.2.1 lbn un, [(raw, .inl (cy 0, 3, .inl uw))], [(raf, .inl (cy 0, 3, .inl uf))], wF cy ad hh aa pa u]) (n := 4) 3 [0, 1, 2] rfl rfl (by decide)) hP hD hS hA rfl hl.1 rfl (Nat.le_of_ble_eq_true rfl) dL_addsUp_982 ⟨Nat.le_of_ble_eq_true rfl, Nat.le_of_ble_eq_true rfl⟩ (fun r982 H locs h1 hP hS => ?_)
  refine lv_iconst (v := 2) hx hb dL_addsUp_985 rfl ?_
  refine lv_aload_n hx hb dL_addsUp_986 rfl (lv_at hl 0 rfl) ?_
  refine k_get (v := .ref (ad 0)) (C := RL) (T := TL) (N := 4) hx hb hts inL_addsUp_L hown hK hP 0 rfl rfl 0 (by decide) lkL_addsUp_10 rfl dL_addsUp_987 ?_
  refine lv_bipush (v := 12) hx hb dL_addsUp_990 rfl ?_
  refine kh_rS (As := [.ref (ad 0), .int 12]) (rest := [.int 2, .int r982]) h1 ⟨hx, hb, hml, hown, hts⟩ (cL_settingM l D cy ad hh aa pa H.size u 12) (vx_cwSW 2 hts gL_addsUp_L_setting rfl rfl rfl heL_setting ⟨Nat.le_of_ble_eq_true rfl, Nat.le_of_ble_eq_true rfl⟩) hK (k_sel1 (l := [lwW hLn (ad 0) Y.2.1 lbn un, [(raw, .inl (cy 0, 3, .inl uw))], [(raf, .inl (cy 0, 3, .inl uf))], wF cy ad hh aa pa u]) (n := 4) 3 [0, 1, 2] rfl rfl (by decide)) hP hD hS hA rfl hl.1 rfl (Nat.le_of_ble_eq_true rfl) dL_addsUp_992 ⟨Nat.le_of_ble_eq_true rfl, Nat.le_of_ble_eq_true rfl⟩ (fun r992 H locs h1 hP hS => ?_)
  refine lv_bipush (v := 20) hx hb dL_addsUp_995 rfl ?_
  refine lv_iadd hx hb dL_addsUp_997 ?_
  refine va_mmax hx hb (hml.trans hl.1.symm) hown (hts _ (List.mem_of_getElem? (i := 7) rfl)) (hts _ (List.mem_of_getElem? (i := 8) rfl)) (hts _ (List.mem_of_getElem? (i := 5) rfl)) (hts _ (List.mem_of_getElem? (i := 9) rfl)) (Nat.le_of_ble_eq_true rfl) (Nat.le_of_ble_eq_true rfl) (Nat.le_of_ble_eq_true rfl) (Nat.le_of_ble_eq_true rfl) dL_addsUp_998 ?_
  refine lv_icmp_ge (tgt := 1032) hx hb dL_addsUp_1001 (by decide) (fun c1001 => ?_) (fun c1001 => ?_)
  · replace h1 := Ok.pos c1001 h1
    refine lv_iconst (v := 0) hx hb dL_addsUp_1032 rfl ?_
    exact kret_dz hx hb hr rfl hlocks hP hD hS h1 dL_addsUp_1033
  · replace h1 := Ok.neg c1001 h1
    refine lv_aload_n hx hb dL_addsUp_1004 rfl (lv_at hl 0 rfl) ?_
    refine k_get (v := .ref (ad 0)) (C := RL) (T := TL) (N := 4) hx hb hts inL_addsUp_L hown hK hP 0 rfl rfl 0 (by decide) lkL_addsUp_10 rfl dL_addsUp_1005 ?_
    refine kc_fV (b := (ad 0)) (As := []) (rest := []) h1 ⟨hx, hb, hml, hown, hts⟩ (cX9_fullnessM l D cy ad hh aa pa H.size u) (cwV 0 hts gL_addsUp_X9_fullness rfl rfl rfl hdX9_fullness ⟨Nat.le_of_ble_eq_true rfl, Nat.le_of_ble_eq_true rfl⟩) hK (k_sel1 (l := [lwW hLn (ad 0) Y.2.1 lbn un, [(raw, .inl (cy 0, 3, .inl uw))], [(raf, .inl (cy 0, 3, .inl uf))], wF cy ad hh aa pa u]) (n := 4) 3 [0, 1, 2] rfl rfl (by decide)) hP hD hS hA (q0 := 0) rfl rfl rfl hl.1 rfl (Nat.le_of_ble_eq_true rfl) dL_addsUp_1008 ⟨Nat.le_of_ble_eq_true rfl, Nat.le_of_ble_eq_true rfl⟩ (fun r1008 H locs h1 hP hS => ?_)
    refine lv_iload_n hx hb dL_addsUp_1011 rfl (lv_at hl 1 rfl) ?_
    refine lv_i2f hx hb dL_addsUp_1012 ?_
    refine lv_aload_n hx hb dL_addsUp_1013 rfl (lv_at hl 0 rfl) ?_
    refine k_get (v := .ref (ad 0)) (C := RL) (T := TL) (N := 4) hx hb hts inL_addsUp_L hown hK hP 0 rfl rfl 0 (by decide) lkL_addsUp_10 rfl dL_addsUp_1014 ?_
    refine lv_bipush (v := 7) hx hb dL_addsUp_1017 rfl ?_
    refine kh_rS (As := [.ref (ad 0), .int 7]) (rest := [.float (FP.i2f x2), .float r1008]) h1 ⟨hx, hb, hml, hown, hts⟩ (cL_settingM l D cy ad hh aa pa H.size u 7) (vx_cwSW 2 hts gL_addsUp_L_setting rfl rfl rfl heL_setting ⟨Nat.le_of_ble_eq_true rfl, Nat.le_of_ble_eq_true rfl⟩) hK (k_sel1 (l := [lwW hLn (ad 0) Y.2.1 lbn un, [(raw, .inl (cy 0, 3, .inl uw))], [(raf, .inl (cy 0, 3, .inl uf))], wF cy ad hh aa pa u]) (n := 4) 3 [0, 1, 2] rfl rfl (by decide)) hP hD hS hA rfl hl.1 rfl (Nat.le_of_ble_eq_true rfl) dL_addsUp_1019 ⟨Nat.le_of_ble_eq_true rfl, Nat.le_of_ble_eq_true rfl⟩ (fun r1019 H locs h1 hP hS => ?_)
    refine lv_i2f hx hb dL_addsUp_1022 ?_
    have g1023 := h1.grd1
    replace h1 := h1.grd2
    refine lv_fdiv hx hb dL_addsUp_1023 (fz_n32 g1023) ?_
    refine lv_fcmp hx hb dL_addsUp_1024 ?_
    refine lv_if_ne (tgt := 1032) hx hb dL_addsUp_1025 (by decide) (fun c1025 => ?_) (fun c1025 => ?_)
    · replace h1 := Ok.neg c1025 h1
      refine lv_iconst (v := 0) hx hb dL_addsUp_1032 rfl ?_
      exact kret_dz hx hb hr rfl hlocks hP hD hS h1 dL_addsUp_1033
    · replace h1 := Ok.pos c1025 h1
      refine lv_iconst (v := 1) hx hb dL_addsUp_1028 rfl ?_
      refine lv_goto (tgt := 1033) hx hb dL_addsUp_1029 (by decide) ?_
      exact kret_dz hx hb hr rfl hlocks hP hD hS h1 dL_addsUp_1033
def fL_addsUp_b959 (x2 : Int32) (x7 : Int32) (Y : YB) (un : Int32) (uw : Nat → Int32) (uf : Nat → Int32) (u : FS) : Option (Int32) :=
  (if 0 ≤ x7 then fL_addsUp_b976 x2 Y un uw uf u else bnd (fL_count 9 u) (fun r970 => (if r970 = 0 then fL_addsUp_b976 x2 Y un uw uf u else some 0)))
set_option maxHeartbeats 4000000 in
set_option maxRecDepth 100000 in
theorem tL_addsUp_b959 {p : Program} {l : Launch} {e : Env} {s : State} {m : MethodId} {args : Array Value} {below : List Frame} {meth : Method} {c : Code} {D : va_G} {cy : Nat → ClassId} {A : Nat → Prop} {hLn : Nat} {lbn : Nat} {raw : Nat} {raf : Nat} {ad : Nat → Nat} {hh : Nat → Nat} {aa : Nat → Nat → Nat} {pa : Nat → Nat} {za zv : Nat → Nat} {Y : YB} (K : Int32 → Prop) (E : mE D cy RL cL_addsUp 17 (some .boolean) wsL_addsUp A p s m args meth c) (hZ : mZ za zv A s s.heap) (hY : mY Y A s s.heap) (un : Int32) (u : FS)
     (x2 : Int32) (x7 : Int32) (uw : Nat → Int32) (uf : Nat → Int32) (H : Heap) (locs : List Loc) (ls : Array Slot) (hl : lv_has ls 17 [(0, .ref hLn), (2, .int x2), (7, .int x7)]) (hP : va_P D kCl (([lwW hLn (ad 0) Y.2.1 lbn un, [(raw, .inl (cy 0, 3, .inl uw))], [(raf, .inl (cy 0, 3, .inl uf))], wF cy ad hh aa pa u] : List va_W).flatten) H) (hD : va_D A (([lwW hLn (ad 0) Y.2.1 lbn un, [(raw, .inl (cy 0, 3, .inl uw))], [(raf, .inl (cy 0, 3, .inl uf))], wF cy ad hh aa pa u] : List va_W).flatten)) (hS : va_S A s.heap H locs) (h1 : Ok (fL_addsUp_b959 x2 x7 Y un uw uf u) K) :
    kW2 p l e rmL_addsUp s m args below meth c H locs (va_Qi (fun r (_ : Unit) => K r) (fun _ => kPost D A ([lwW hLn (ad 0) Y.2.1 lbn un, wF cy ad hh aa pa u] : List va_W).flatten) A) A 959 ls [] := by
  obtain ⟨hx, hb, hr, hml, hown, hts, hlocks, hK, hA⟩ := id E
  unfold fL_addsUp_b959 at h1
  refine lv_iload hx hb dL_addsUp_959 (lv_at hl 2 rfl) ?_
  refine lv_if_ge (tgt := 976) hx hb dL_addsUp_961 (by decide) (fun c961 => ?_) (fun c961 => ?_)
  · replace h1 := Ok.pos c961 h1
    exact tL_addsUp_b976 K E hZ hY un u x2 uw uf H locs ls (lv_sub hl [0, 1] rfl) hP hD hS h1
  · replace h1 := Ok.neg c961 h1
    refine lv_aload_n hx hb dL_addsUp_964 rfl (lv_at hl 0 rfl) ?_
    refine k_get (v := .ref (ad 0)) (C := RL) (T := TL) (N := 4) hx hb hts inL_addsUp_L hown hK hP 0 rfl rfl 0 (by decide) lkL_addsUp_10 rfl dL_addsUp_965 ?_
    refine lv_bipush (v := 9) hx hb dL_addsUp_968 rfl ?_
    refine kh_rS (As := [.ref (ad 0), .int 9]) (rest := []) h1 ⟨hx, hb, hml, hown, hts⟩ (cL_countM l D cy ad hh aa pa H.size u 9) (vx_cwSW 2 hts gL_addsUp_L_count rfl rfl rfl heL_count ⟨Nat.le_of_ble_eq_true rfl, Nat.le_of_ble_eq_true rfl⟩) hK (k_sel1 (l := [lwW hLn (ad 0) Y.2.1 lbn un, [(raw, .inl (cy 0, 3, .inl uw))], [(raf, .inl (cy 0, 3, .inl uf))], wF cy ad hh aa pa u]) (n := 4) 3 [0, 1, 2] rfl rfl (by decide)) hP hD hS hA rfl hl.1 rfl (Nat.le_of_ble_eq_true rfl) dL_addsUp_970 ⟨Nat.le_of_ble_eq_true rfl, Nat.le_of_ble_eq_true rfl⟩ (fun r970 H locs h1 hP hS => ?_)
    refine lv_if_ne (tgt := 1032) hx hb dL_addsUp_973 (by decide) (fun c973 => ?_) (fun c973 => ?_)
    · replace h1 := Ok.neg c973 h1
      refine lv_iconst (v := 0) hx hb dL_addsUp_1032 rfl ?_
      exact kret_dz hx hb hr rfl hlocks hP hD hS h1 dL_addsUp_1033
    · replace h1 := Ok.pos c973 h1
      exact tL_addsUp_b976 K E hZ hY un u x2 uw uf H locs ls (lv_sub hl [0, 1] rfl) hP hD hS h1
def fL_addsUp_b561 (k561 : Int32 × Int32 × Int32 × Int32 × Int32 × Int32 × Int32 × Int32 × (Nat → Int32) × (Nat → Int32) → Option (Int32)) (x2 : Int32) (x3 : Int32) (x4 : Int32) (x5 : Int32) (x6 : Int32) (x7 : Int32) (x8 : Int32) (x11 : Int32) (Y : YB) (un : Int32) (uw : Nat → Int32) (uf : Nat → Int32) (u : FS) : Option (Int32) :=
  (if x3 ≤ x11 then bnd (fL_count 4 u) (fun r612 => bnd (fL_deck x8 u) (fun r623 => bnd (fL_tide x8 u) (fun r634 => bnd (fL_setting 4 u) (fun r648 => bnd (fL_setting 5 u) (fun r658 => grd (nz r658) ((if r623 = ((r634 + r648) - (x2 / r658)) then bnd (fX9_lip u) (fun r670 => (if r670 = (if 0 ≤ (r612 - r623) then (r612 - r623) else 0 - (r612 - r623)) then bnd (fX9_slope u) (fun r688 => bnd (fL_setting 3 u) (fun r698 => (if r688 = (if 0 ≤ (r612 - r698) then (r612 - r698) else 0 - (r612 - r698)) then bnd (fL_setting 0 u) (fun r715 => (if r634 < r715 then some 0 else bnd (fL_setting 1 u) (fun r728 => (if r728 < r634 then some 0 else bnd (fX9_waterIn 1 u) (fun r745 => bnd (fL_tide (x8 + r745) u) (fun r749 => bnd (fL_setting 1 u) (fun r757 => (if r749 = r757 then bnd (fX9_waterIn 0 u) (fun r774 => bnd (fL_tide (x8 + r774) u) (fun r778 => bnd (fL_setting 0 u) (fun r786 => (if r778 = r786 then bnd (fL_setting 2 u) (fun r804 => bnd (fL_tide (x8 + (2 * r804)) u) (fun r809 => (if r809 = r634 then (if x4 = 0 then bnd (fL_count 1 u) (fun r830 => (if x3 = r830 then bnd (fL_count 7 u) (fun r843 => (if x2 = r843 then bnd (fL_setting 7 u) (fun r856 => (if r856 < x2 then some 0 else bnd (fL_count 8 u) (fun r870 => (if x7 = r870 then bnd (fL_count 13 u) (fun r884 => (if x6 = r884 then bnd (fL_count 14 u) (fun r898 => (if x5 = r898 then bnd (fX9_list u) (fun r908 => (if r908 = ((uw 0) - (uw 2)) then bnd (fX9_queued x3 u) (fun r928 => (if r928 = (-1) then bnd (fL_count 6 u) (fun r941 => (if r941 = 0 then fL_addsUp_b959 x2 x7 Y un uw uf u else bnd (fL_count 5 u) (fun r952 => (if r952 = 1 then fL_addsUp_b959 x2 x7 Y un uw uf u else some 0)))) else some 0)) else some 0)) else some 0)) else some 0)) else some 0)))) else some 0)) else some 0)) else some 0) else some 0))) else some 0)))) else some 0)))))))) else some 0))) else some 0)) else some 0))))))) else bnd (fX9_queued x11 u) (fun r573 => (if r573 < 0 then some 0 else bnd (fX9_queued x11 u) (fun r589 => bnd (fL_car r589 2 u) (fun r593 => (if r593 = 0 then k561 (x2, x3, x4, x5, x6, x7, x8, x11 + 1, uw, uf) else some 0))))))
set_option maxHeartbeats 4000000 in
set_option maxRecDepth 100000 in
theorem tL_addsUp_b561 {p : Program} {l : Launch} {e : Env} {s : State} {m : MethodId} {args : Array Value} {below : List Frame} {meth : Method} {c : Code} {D : va_G} {cy : Nat → ClassId} {A : Nat → Prop} {hLn : Nat} {lbn : Nat} {raw : Nat} {raf : Nat} {ad : Nat → Nat} {hh : Nat → Nat} {aa : Nat → Nat → Nat} {pa : Nat → Nat} {za zv : Nat → Nat} {Y : YB} (K : Int32 → Prop) (E : mE D cy RL cL_addsUp 17 (some .boolean) wsL_addsUp A p s m args meth c) (hZ : mZ za zv A s s.heap) (hY : mY Y A s s.heap) (un : Int32) (u : FS)
    (k561 : Int32 × Int32 × Int32 × Int32 × Int32 × Int32 × Int32 × Int32 × (Nat → Int32) × (Nat → Int32) → Option (Int32)) (hk561 : ∀ (x2 : Int32) (x3 : Int32) (x4 : Int32) (x5 : Int32) (x6 : Int32) (x7 : Int32) (x8 : Int32) (x11 : Int32) (uw : Nat → Int32) (uf : Nat → Int32) (H : Heap) (locs : List Loc) (ls : Array Slot), lv_has ls 17 [(0, .ref hLn), (2, .int x2), (3, .int x3), (4, .int x4), (5, .int x5), (6, .int x6), (7, .int x7), (8, .int x8), (9, .ref raw), (11, .int x11)] → va_P D kCl (([lwW hLn (ad 0) Y.2.1 lbn un, [(raw, .inl (cy 0, 3, .inl uw))], [(raf, .inl (cy 0, 3, .inl uf))], wF cy ad hh aa pa u] : List va_W).flatten) H → va_D A (([lwW hLn (ad 0) Y.2.1 lbn un, [(raw, .inl (cy 0, 3, .inl uw))], [(raf, .inl (cy 0, 3, .inl uf))], wF cy ad hh aa pa u] : List va_W).flatten) → va_S A s.heap H locs → Ok (k561 (x2, x3, x4, x5, x6, x7, x8, x11, uw, uf)) K → kW2 p l e rmL_addsUp s m args below meth c H locs (va_Qi (fun r (_ : Unit) => K r) (fun _ => kPost D A ([lwW hLn (ad 0) Y.2.1 lbn un, wF cy ad hh aa pa u] : List va_W).flatten) A) A 561 ls [])
     (x2 : Int32) (x3 : Int32) (x4 : Int32) (x5 : Int32) (x6 : Int32) (x7 : Int32) (x8 : Int32) (x11 : Int32) (uw : Nat → Int32) (uf : Nat → Int32) (H : Heap) (locs : List Loc) (ls : Array Slot) (hl : lv_has ls 17 [(0, .ref hLn), (2, .int x2), (3, .int x3), (4, .int x4), (5, .int x5), (6, .int x6), (7, .int x7), (8, .int x8), (9, .ref raw), (11, .int x11)]) (hP : va_P D kCl (([lwW hLn (ad 0) Y.2.1 lbn un, [(raw, .inl (cy 0, 3, .inl uw))], [(raf, .inl (cy 0, 3, .inl uf))], wF cy ad hh aa pa u] : List va_W).flatten) H) (hD : va_D A (([lwW hLn (ad 0) Y.2.1 lbn un, [(raw, .inl (cy 0, 3, .inl uw))], [(raf, .inl (cy 0, 3, .inl uf))], wF cy ad hh aa pa u] : List va_W).flatten)) (hS : va_S A s.heap H locs) (h1 : Ok (fL_addsUp_b561 k561 x2 x3 x4 x5 x6 x7 x8 x11 Y un uw uf u) K) :
    kW2 p l e rmL_addsUp s m args below meth c H locs (va_Qi (fun r (_ : Unit) => K r) (fun _ => kPost D A ([lwW hLn (ad 0) Y.2.1 lbn un, wF cy ad hh aa pa u] : List va_W).flatten) A) A 561 ls [] := by
  obtain ⟨hx, hb, hr, hml, hown, hts, hlocks, hK, hA⟩ := id E
  unfold fL_addsUp_b561 at h1
  refine lv_iload hx hb dL_addsUp_561 (lv_at hl 9 rfl) ?_
  refine lv_iload_n hx hb dL_addsUp_563 rfl (lv_at hl 2 rfl) ?_
  refine lv_icmp_ge (tgt := 607) hx hb dL_addsUp_564 (by decide) (fun c564 => ?_) (fun c564 => ?_)
  · replace h1 := Ok.pos c564 h1
    refine lv_aload_n hx hb dL_addsUp_607 rfl (lv_at hl 0 rfl) ?_
    refine k_get (v := .ref (ad 0)) (C := RL) (T := TL) (N := 4) hx hb hts inL_addsUp_L hown hK hP 0 rfl rfl 0 (by decide) lkL_addsUp_10 rfl dL_addsUp_608 ?_
    refine lv_iconst (v := 4) hx hb dL_addsUp_611 rfl ?_
    refine kh_rS (As := [.ref (ad 0), .int 4]) (rest := []) h1 ⟨hx, hb, hml, hown, hts⟩ (cL_countM l D cy ad hh aa pa H.size u 4) (vx_cwSW 2 hts gL_addsUp_L_count rfl rfl rfl heL_count ⟨Nat.le_of_ble_eq_true rfl, Nat.le_of_ble_eq_true rfl⟩) hK (k_sel1 (l := [lwW hLn (ad 0) Y.2.1 lbn un, [(raw, .inl (cy 0, 3, .inl uw))], [(raf, .inl (cy 0, 3, .inl uf))], wF cy ad hh aa pa u]) (n := 4) 3 [0, 1, 2] rfl rfl (by decide)) hP hD hS hA rfl hl.1 rfl (Nat.le_of_ble_eq_true rfl) dL_addsUp_612 ⟨Nat.le_of_ble_eq_true rfl, Nat.le_of_ble_eq_true rfl⟩ (fun r612 H locs h1 hP hS => ?_)
    refine lv_istore (lv' := [(11, .int r612), (0, .ref hLn), (2, .int x2), (3, .int x3), (4, .int x4), (5, .int x5), (6, .int x6), (7, .int x7), (8, .int x8), (9, .ref raw)]) hx hb dL_addsUp_615 hl (by decide) rfl (fun ls hl => ?_)
    refine lv_aload_n hx hb dL_addsUp_617 rfl (lv_at hl 1 rfl) ?_
    refine k_get (v := .ref (ad 0)) (C := RL) (T := TL) (N := 4) hx hb hts inL_addsUp_L hown hK hP 0 rfl rfl 0 (by decide) lkL_addsUp_10 rfl dL_addsUp_618 ?_
    refine lv_iload hx hb dL_addsUp_621 (lv_at hl 8 rfl) ?_
    refine kh_rS (As := [.ref (ad 0), .int x8]) (rest := []) h1 ⟨hx, hb, hml, hown, hts⟩ (cL_deckM l D cy ad hh aa pa H.size u x8) (vx_cwSW 2 hts gL_addsUp_L_deck rfl rfl rfl heL_deck ⟨Nat.le_of_ble_eq_true rfl, Nat.le_of_ble_eq_true rfl⟩) hK (k_sel1 (l := [lwW hLn (ad 0) Y.2.1 lbn un, [(raw, .inl (cy 0, 3, .inl uw))], [(raf, .inl (cy 0, 3, .inl uf))], wF cy ad hh aa pa u]) (n := 4) 3 [0, 1, 2] rfl rfl (by decide)) hP hD hS hA rfl hl.1 rfl (Nat.le_of_ble_eq_true rfl) dL_addsUp_623 ⟨Nat.le_of_ble_eq_true rfl, Nat.le_of_ble_eq_true rfl⟩ (fun r623 H locs h1 hP hS => ?_)
    refine lv_istore (lv' := [(12, .int r623), (11, .int r612), (0, .ref hLn), (2, .int x2), (3, .int x3), (4, .int x4), (5, .int x5), (6, .int x6), (7, .int x7), (8, .int x8), (9, .ref raw)]) hx hb dL_addsUp_626 hl (by decide) rfl (fun ls hl => ?_)
    refine lv_aload_n hx hb dL_addsUp_628 rfl (lv_at hl 2 rfl) ?_
    refine k_get (v := .ref (ad 0)) (C := RL) (T := TL) (N := 4) hx hb hts inL_addsUp_L hown hK hP 0 rfl rfl 0 (by decide) lkL_addsUp_10 rfl dL_addsUp_629 ?_
    refine lv_iload hx hb dL_addsUp_632 (lv_at hl 9 rfl) ?_
    refine kh_rS (As := [.ref (ad 0), .int x8]) (rest := []) h1 ⟨hx, hb, hml, hown, hts⟩ (cL_tideM l D cy ad hh aa pa H.size u x8) (vx_cwSW 2 hts gL_addsUp_L_tide rfl rfl rfl heL_tide ⟨Nat.le_of_ble_eq_true rfl, Nat.le_of_ble_eq_true rfl⟩) hK (k_sel1 (l := [lwW hLn (ad 0) Y.2.1 lbn un, [(raw, .inl (cy 0, 3, .inl uw))], [(raf, .inl (cy 0, 3, .inl uf))], wF cy ad hh aa pa u]) (n := 4) 3 [0, 1, 2] rfl rfl (by decide)) hP hD hS hA rfl hl.1 rfl (Nat.le_of_ble_eq_true rfl) dL_addsUp_634 ⟨Nat.le_of_ble_eq_true rfl, Nat.le_of_ble_eq_true rfl⟩ (fun r634 H locs h1 hP hS => ?_)
    refine lv_istore (lv' := [(13, .int r634), (12, .int r623), (11, .int r612), (0, .ref hLn), (2, .int x2), (3, .int x3), (4, .int x4), (5, .int x5), (6, .int x6), (7, .int x7), (8, .int x8), (9, .ref raw)]) hx hb dL_addsUp_637 hl (by decide) rfl (fun ls hl => ?_)
    refine lv_iload hx hb dL_addsUp_639 (lv_at hl 1 rfl) ?_
    refine lv_iload hx hb dL_addsUp_641 (lv_at hl 0 rfl) ?_
    refine lv_aload_n hx hb dL_addsUp_643 rfl (lv_at hl 3 rfl) ?_
    refine k_get (v := .ref (ad 0)) (C := RL) (T := TL) (N := 4) hx hb hts inL_addsUp_L hown hK hP 0 rfl rfl 0 (by decide) lkL_addsUp_10 rfl dL_addsUp_644 ?_
    refine lv_iconst (v := 4) hx hb dL_addsUp_647 rfl ?_
    refine kh_rS (As := [.ref (ad 0), .int 4]) (rest := [.int r634, .int r623]) h1 ⟨hx, hb, hml, hown, hts⟩ (cL_settingM l D cy ad hh aa pa H.size u 4) (vx_cwSW 2 hts gL_addsUp_L_setting rfl rfl rfl heL_setting ⟨Nat.le_of_ble_eq_true rfl, Nat.le_of_ble_eq_true rfl⟩) hK (k_sel1 (l := [lwW hLn (ad 0) Y.2.1 lbn un, [(raw, .inl (cy 0, 3, .inl uw))], [(raf, .inl (cy 0, 3, .inl uf))], wF cy ad hh aa pa u]) (n := 4) 3 [0, 1, 2] rfl rfl (by decide)) hP hD hS hA rfl hl.1 rfl (Nat.le_of_ble_eq_true rfl) dL_addsUp_648 ⟨Nat.le_of_ble_eq_true rfl, Nat.le_of_ble_eq_true rfl⟩ (fun r648 H locs h1 hP hS => ?_)
    refine lv_iadd hx hb dL_addsUp_651 ?_
    refine lv_iload_n hx hb dL_addsUp_652 rfl (lv_at hl 4 rfl) ?_
    refine lv_aload_n hx hb dL_addsUp_653 rfl (lv_at hl 3 rfl) ?_
    refine k_get (v := .ref (ad 0)) (C := RL) (T := TL) (N := 4) hx hb hts inL_addsUp_L hown hK hP 0 rfl rfl 0 (by decide) lkL_addsUp_10 rfl dL_addsUp_654 ?_
    refine lv_iconst (v := 5) hx hb dL_addsUp_657 rfl ?_
    refine kh_rS (As := [.ref (ad 0), .int 5]) (rest := [.int x2, .int (r634 + r648), .int r623]) h1 ⟨hx, hb, hml, hown, hts⟩ (cL_settingM l D cy ad hh aa pa H.size u 5) (vx_cwSW 2 hts gL_addsUp_L_setting rfl rfl rfl heL_setting ⟨Nat.le_of_ble_eq_true rfl, Nat.le_of_ble_eq_true rfl⟩) hK (k_sel1 (l := [lwW hLn (ad 0) Y.2.1 lbn un, [(raw, .inl (cy 0, 3, .inl uw))], [(raf, .inl (cy 0, 3, .inl uf))], wF cy ad hh aa pa u]) (n := 4) 3 [0, 1, 2] rfl rfl (by decide)) hP hD hS hA rfl hl.1 rfl (Nat.le_of_ble_eq_true rfl) dL_addsUp_658 ⟨Nat.le_of_ble_eq_true rfl, Nat.le_of_ble_eq_true rfl⟩ (fun r658 H locs h1 hP hS => ?_)
    have g661 := h1.grd1
    replace h1 := h1.grd2
    refine lv_idiv hx hb dL_addsUp_661 (nz_ne g661) ?_
    refine lv_isub hx hb dL_addsUp_662 ?_
    refine lv_icmp_ne (tgt := 817) hx hb dL_addsUp_663 (by decide) (fun c663 => ?_) (fun c663 => ?_)
    · replace h1 := Ok.neg c663 h1
      refine lv_iconst (v := 0) hx hb dL_addsUp_817 rfl ?_
      exact kret_dz hx hb hr rfl hlocks hP hD hS h1 dL_addsUp_818
    · replace h1 := Ok.pos c663 h1
      refine lv_aload_n hx hb dL_addsUp_666 rfl (lv_at hl 3 rfl) ?_
      refine k_get (v := .ref (ad 0)) (C := RL) (T := TL) (N := 4) hx hb hts inL_addsUp_L hown hK hP 0 rfl rfl 0 (by decide) lkL_addsUp_10 rfl dL_addsUp_667 ?_
      refine kc_rV (b := (ad 0)) (As := []) (rest := []) h1 ⟨hx, hb, hml, hown, hts⟩ (cX9_lipM l D cy ad hh aa pa H.size u) (cwV 0 hts gL_addsUp_X9_lip rfl rfl rfl hdX9_lip ⟨Nat.le_of_ble_eq_true rfl, Nat.le_of_ble_eq_true rfl⟩) hK (k_sel1 (l := [lwW hLn (ad 0) Y.2.1 lbn un, [(raw, .inl (cy 0, 3, .inl uw))], [(raf, .inl (cy 0, 3, .inl uf))], wF cy ad hh aa pa u]) (n := 4) 3 [0, 1, 2] rfl rfl (by decide)) hP hD hS hA (q0 := 0) rfl rfl rfl hl.1 rfl (Nat.le_of_ble_eq_true rfl) dL_addsUp_670 ⟨Nat.le_of_ble_eq_true rfl, Nat.le_of_ble_eq_true rfl⟩ (fun r670 H locs h1 hP hS => ?_)
      refine lv_iload hx hb dL_addsUp_673 (lv_at hl 2 rfl) ?_
      refine lv_iload hx hb dL_addsUp_675 (lv_at hl 1 rfl) ?_
      refine lv_isub hx hb dL_addsUp_677 ?_
      refine va_mabs hx hb (hml.trans hl.1.symm) hown (hts _ (List.mem_of_getElem? (i := 3) rfl)) (hts _ (List.mem_of_getElem? (i := 4) rfl)) (hts _ (List.mem_of_getElem? (i := 5) rfl)) (hts _ (List.mem_of_getElem? (i := 6) rfl)) (Nat.le_of_ble_eq_true rfl) (Nat.le_of_ble_eq_true rfl) (Nat.le_of_ble_eq_true rfl) (Nat.le_of_ble_eq_true rfl) dL_addsUp_678 ?_
      refine lv_icmp_ne (tgt := 817) hx hb dL_addsUp_681 (by decide) (fun c681 => ?_) (fun c681 => ?_)
      · replace h1 := Ok.neg c681 h1
        refine lv_iconst (v := 0) hx hb dL_addsUp_817 rfl ?_
        exact kret_dz hx hb hr rfl hlocks hP hD hS h1 dL_addsUp_818
      · replace h1 := Ok.pos c681 h1
        refine lv_aload_n hx hb dL_addsUp_684 rfl (lv_at hl 3 rfl) ?_
        refine k_get (v := .ref (ad 0)) (C := RL) (T := TL) (N := 4) hx hb hts inL_addsUp_L hown hK hP 0 rfl rfl 0 (by decide) lkL_addsUp_10 rfl dL_addsUp_685 ?_
        refine kc_rV (b := (ad 0)) (As := []) (rest := []) h1 ⟨hx, hb, hml, hown, hts⟩ (cX9_slopeM l D cy ad hh aa pa H.size u) (cwV 0 hts gL_addsUp_X9_slope rfl rfl rfl hdX9_slope ⟨Nat.le_of_ble_eq_true rfl, Nat.le_of_ble_eq_true rfl⟩) hK (k_sel1 (l := [lwW hLn (ad 0) Y.2.1 lbn un, [(raw, .inl (cy 0, 3, .inl uw))], [(raf, .inl (cy 0, 3, .inl uf))], wF cy ad hh aa pa u]) (n := 4) 3 [0, 1, 2] rfl rfl (by decide)) hP hD hS hA (q0 := 0) rfl rfl rfl hl.1 rfl (Nat.le_of_ble_eq_true rfl) dL_addsUp_688 ⟨Nat.le_of_ble_eq_true rfl, Nat.le_of_ble_eq_true rfl⟩ (fun r688 H locs h1 hP hS => ?_)
        refine lv_iload hx hb dL_addsUp_691 (lv_at hl 2 rfl) ?_
        refine lv_aload_n hx hb dL_addsUp_693 rfl (lv_at hl 3 rfl) ?_
        refine k_get (v := .ref (ad 0)) (C := RL) (T := TL) (N := 4) hx hb hts inL_addsUp_L hown hK hP 0 rfl rfl 0 (by decide) lkL_addsUp_10 rfl dL_addsUp_694 ?_
        refine lv_iconst (v := 3) hx hb dL_addsUp_697 rfl ?_
        refine kh_rS (As := [.ref (ad 0), .int 3]) (rest := [.int r612, .int r688]) h1 ⟨hx, hb, hml, hown, hts⟩ (cL_settingM l D cy ad hh aa pa H.size u 3) (vx_cwSW 2 hts gL_addsUp_L_setting rfl rfl rfl heL_setting ⟨Nat.le_of_ble_eq_true rfl, Nat.le_of_ble_eq_true rfl⟩) hK (k_sel1 (l := [lwW hLn (ad 0) Y.2.1 lbn un, [(raw, .inl (cy 0, 3, .inl uw))], [(raf, .inl (cy 0, 3, .inl uf))], wF cy ad hh aa pa u]) (n := 4) 3 [0, 1, 2] rfl rfl (by decide)) hP hD hS hA rfl hl.1 rfl (Nat.le_of_ble_eq_true rfl) dL_addsUp_698 ⟨Nat.le_of_ble_eq_true rfl, Nat.le_of_ble_eq_true rfl⟩ (fun r698 H locs h1 hP hS => ?_)
        refine lv_isub hx hb dL_addsUp_701 ?_
        refine va_mabs hx hb (hml.trans hl.1.symm) hown (hts _ (List.mem_of_getElem? (i := 3) rfl)) (hts _ (List.mem_of_getElem? (i := 4) rfl)) (hts _ (List.mem_of_getElem? (i := 5) rfl)) (hts _ (List.mem_of_getElem? (i := 6) rfl)) (Nat.le_of_ble_eq_true rfl) (Nat.le_of_ble_eq_true rfl) (Nat.le_of_ble_eq_true rfl) (Nat.le_of_ble_eq_true rfl) dL_addsUp_702 ?_
        refine lv_icmp_ne (tgt := 817) hx hb dL_addsUp_705 (by decide) (fun c705 => ?_) (fun c705 => ?_)
        · replace h1 := Ok.neg c705 h1
          refine lv_iconst (v := 0) hx hb dL_addsUp_817 rfl ?_
          exact kret_dz hx hb hr rfl hlocks hP hD hS h1 dL_addsUp_818
        · replace h1 := Ok.pos c705 h1
          refine lv_iload hx hb dL_addsUp_708 (lv_at hl 0 rfl) ?_
          refine lv_aload_n hx hb dL_addsUp_710 rfl (lv_at hl 3 rfl) ?_
          refine k_get (v := .ref (ad 0)) (C := RL) (T := TL) (N := 4) hx hb hts inL_addsUp_L hown hK hP 0 rfl rfl 0 (by decide) lkL_addsUp_10 rfl dL_addsUp_711 ?_
          refine lv_iconst (v := 0) hx hb dL_addsUp_714 rfl ?_
          refine kh_rS (As := [.ref (ad 0), .int 0]) (rest := [.int r634]) h1 ⟨hx, hb, hml, hown, hts⟩ (cL_settingM l D cy ad hh aa pa H.size u 0) (vx_cwSW 2 hts gL_addsUp_L_setting rfl rfl rfl heL_setting ⟨Nat.le_of_ble_eq_true rfl, Nat.le_of_ble_eq_true rfl⟩) hK (k_sel1 (l := [lwW hLn (ad 0) Y.2.1 lbn un, [(raw, .inl (cy 0, 3, .inl uw))], [(raf, .inl (cy 0, 3, .inl uf))], wF cy ad hh aa pa u]) (n := 4) 3 [0, 1, 2] rfl rfl (by decide)) hP hD hS hA rfl hl.1 rfl (Nat.le_of_ble_eq_true rfl) dL_addsUp_715 ⟨Nat.le_of_ble_eq_true rfl, Nat.le_of_ble_eq_true rfl⟩ (fun r715 H locs h1 hP hS => ?_)
          refine lv_icmp_lt (tgt := 817) hx hb dL_addsUp_718 (by decide) (fun c718 => ?_) (fun c718 => ?_)
          · replace h1 := Ok.pos c718 h1
            refine lv_iconst (v := 0) hx hb dL_addsUp_817 rfl ?_
            exact kret_dz hx hb hr rfl hlocks hP hD hS h1 dL_addsUp_818
          · replace h1 := Ok.neg c718 h1
            refine lv_iload hx hb dL_addsUp_721 (lv_at hl 0 rfl) ?_
            refine lv_aload_n hx hb dL_addsUp_723 rfl (lv_at hl 3 rfl) ?_
            refine k_get (v := .ref (ad 0)) (C := RL) (T := TL) (N := 4) hx hb hts inL_addsUp_L hown hK hP 0 rfl rfl 0 (by decide) lkL_addsUp_10 rfl dL_addsUp_724 ?_
            refine lv_iconst (v := 1) hx hb dL_addsUp_727 rfl ?_
            refine kh_rS (As := [.ref (ad 0), .int 1]) (rest := [.int r634]) h1 ⟨hx, hb, hml, hown, hts⟩ (cL_settingM l D cy ad hh aa pa H.size u 1) (vx_cwSW 2 hts gL_addsUp_L_setting rfl rfl rfl heL_setting ⟨Nat.le_of_ble_eq_true rfl, Nat.le_of_ble_eq_true rfl⟩) hK (k_sel1 (l := [lwW hLn (ad 0) Y.2.1 lbn un, [(raw, .inl (cy 0, 3, .inl uw))], [(raf, .inl (cy 0, 3, .inl uf))], wF cy ad hh aa pa u]) (n := 4) 3 [0, 1, 2] rfl rfl (by decide)) hP hD hS hA rfl hl.1 rfl (Nat.le_of_ble_eq_true rfl) dL_addsUp_728 ⟨Nat.le_of_ble_eq_true rfl, Nat.le_of_ble_eq_true rfl⟩ (fun r728 H locs h1 hP hS => ?_)
            refine lv_icmp_gt (tgt := 817) hx hb dL_addsUp_731 (by decide) (fun c731 => ?_) (fun c731 => ?_)
            · replace h1 := Ok.pos c731 h1
              refine lv_iconst (v := 0) hx hb dL_addsUp_817 rfl ?_
              exact kret_dz hx hb hr rfl hlocks hP hD hS h1 dL_addsUp_818
            · replace h1 := Ok.neg c731 h1
              refine lv_aload_n hx hb dL_addsUp_734 rfl (lv_at hl 3 rfl) ?_
              refine k_get (v := .ref (ad 0)) (C := RL) (T := TL) (N := 4) hx hb hts inL_addsUp_L hown hK hP 0 rfl rfl 0 (by decide) lkL_addsUp_10 rfl dL_addsUp_735 ?_
              refine lv_iload hx hb dL_addsUp_738 (lv_at hl 10 rfl) ?_
              refine lv_aload_n hx hb dL_addsUp_740 rfl (lv_at hl 3 rfl) ?_
              refine k_get (v := .ref (ad 0)) (C := RL) (T := TL) (N := 4) hx hb hts inL_addsUp_L hown hK hP 0 rfl rfl 0 (by decide) lkL_addsUp_10 rfl dL_addsUp_741 ?_
              refine lv_iconst (v := 1) hx hb dL_addsUp_744 rfl ?_
              refine kc_rV (b := (ad 0)) (As := [.int 1]) (rest := [.int x8, .ref (ad 0)]) h1 ⟨hx, hb, hml, hown, hts⟩ (cX9_waterInM l D cy ad hh aa pa H.size u 1) (cwV 1 hts gL_addsUp_X9_waterIn rfl rfl rfl hdX9_waterIn ⟨Nat.le_of_ble_eq_true rfl, Nat.le_of_ble_eq_true rfl⟩) hK (k_sel1 (l := [lwW hLn (ad 0) Y.2.1 lbn un, [(raw, .inl (cy 0, 3, .inl uw))], [(raf, .inl (cy 0, 3, .inl uf))], wF cy ad hh aa pa u]) (n := 4) 3 [0, 1, 2] rfl rfl (by decide)) hP hD hS hA (q0 := 0) rfl rfl rfl hl.1 rfl (Nat.le_of_ble_eq_true rfl) dL_addsUp_745 ⟨Nat.le_of_ble_eq_true rfl, Nat.le_of_ble_eq_true rfl⟩ (fun r745 H locs h1 hP hS => ?_)
              refine lv_iadd hx hb dL_addsUp_748 ?_
              refine kh_rS (As := [.ref (ad 0), .int (x8 + r745)]) (rest := []) h1 ⟨hx, hb, hml, hown, hts⟩ (cL_tideM l D cy ad hh aa pa H.size u (x8 + r745)) (vx_cwSW 2 hts gL_addsUp_L_tide rfl rfl rfl heL_tide ⟨Nat.le_of_ble_eq_true rfl, Nat.le_of_ble_eq_true rfl⟩) hK (k_sel1 (l := [lwW hLn (ad 0) Y.2.1 lbn un, [(raw, .inl (cy 0, 3, .inl uw))], [(raf, .inl (cy 0, 3, .inl uf))], wF cy ad hh aa pa u]) (n := 4) 3 [0, 1, 2] rfl rfl (by decide)) hP hD hS hA rfl hl.1 rfl (Nat.le_of_ble_eq_true rfl) dL_addsUp_749 ⟨Nat.le_of_ble_eq_true rfl, Nat.le_of_ble_eq_true rfl⟩ (fun r749 H locs h1 hP hS => ?_)
              refine lv_aload_n hx hb dL_addsUp_752 rfl (lv_at hl 3 rfl) ?_
              refine k_get (v := .ref (ad 0)) (C := RL) (T := TL) (N := 4) hx hb hts inL_addsUp_L hown hK hP 0 rfl rfl 0 (by decide) lkL_addsUp_10 rfl dL_addsUp_753 ?_
              refine lv_iconst (v := 1) hx hb dL_addsUp_756 rfl ?_
              refine kh_rS (As := [.ref (ad 0), .int 1]) (rest := [.int r749]) h1 ⟨hx, hb, hml, hown, hts⟩ (cL_settingM l D cy ad hh aa pa H.size u 1) (vx_cwSW 2 hts gL_addsUp_L_setting rfl rfl rfl heL_setting ⟨Nat.le_of_ble_eq_true rfl, Nat.le_of_ble_eq_true rfl⟩) hK (k_sel1 (l := [lwW hLn (ad 0) Y.2.1 lbn un, [(raw, .inl (cy 0, 3, .inl uw))], [(raf, .inl (cy 0, 3, .inl uf))], wF cy ad hh aa pa u]) (n := 4) 3 [0, 1, 2] rfl rfl (by decide)) hP hD hS hA rfl hl.1 rfl (Nat.le_of_ble_eq_true rfl) dL_addsUp_757 ⟨Nat.le_of_ble_eq_true rfl, Nat.le_of_ble_eq_true rfl⟩ (fun r757 H locs h1 hP hS => ?_)
              refine lv_icmp_ne (tgt := 817) hx hb dL_addsUp_760 (by decide) (fun c760 => ?_) (fun c760 => ?_)
              · replace h1 := Ok.neg c760 h1
                refine lv_iconst (v := 0) hx hb dL_addsUp_817 rfl ?_
                exact kret_dz hx hb hr rfl hlocks hP hD hS h1 dL_addsUp_818
              · replace h1 := Ok.pos c760 h1
                refine lv_aload_n hx hb dL_addsUp_763 rfl (lv_at hl 3 rfl) ?_
                refine k_get (v := .ref (ad 0)) (C := RL) (T := TL) (N := 4) hx hb hts inL_addsUp_L hown hK hP 0 rfl rfl 0 (by decide) lkL_addsUp_10 rfl dL_addsUp_764 ?_
                refine lv_iload hx hb dL_addsUp_767 (lv_at hl 10 rfl) ?_
                refine lv_aload_n hx hb dL_addsUp_769 rfl (lv_at hl 3 rfl) ?_
                refine k_get (v := .ref (ad 0)) (C := RL) (T := TL) (N := 4) hx hb hts inL_addsUp_L hown hK hP 0 rfl rfl 0 (by decide) lkL_addsUp_10 rfl dL_addsUp_770 ?_
                refine lv_iconst (v := 0) hx hb dL_addsUp_773 rfl ?_
                refine kc_rV (b := (ad 0)) (As := [.int 0]) (rest := [.int x8, .ref (ad 0)]) h1 ⟨hx, hb, hml, hown, hts⟩ (cX9_waterInM l D cy ad hh aa pa H.size u 0) (cwV 1 hts gL_addsUp_X9_waterIn rfl rfl rfl hdX9_waterIn ⟨Nat.le_of_ble_eq_true rfl, Nat.le_of_ble_eq_true rfl⟩) hK (k_sel1 (l := [lwW hLn (ad 0) Y.2.1 lbn un, [(raw, .inl (cy 0, 3, .inl uw))], [(raf, .inl (cy 0, 3, .inl uf))], wF cy ad hh aa pa u]) (n := 4) 3 [0, 1, 2] rfl rfl (by decide)) hP hD hS hA (q0 := 0) rfl rfl rfl hl.1 rfl (Nat.le_of_ble_eq_true rfl) dL_addsUp_774 ⟨Nat.le_of_ble_eq_true rfl, Nat.le_of_ble_eq_true rfl⟩ (fun r774 H locs h1 hP hS => ?_)
                refine lv_iadd hx hb dL_addsUp_777 ?_
                refine kh_rS (As := [.ref (ad 0), .int (x8 + r774)]) (rest := []) h1 ⟨hx, hb, hml, hown, hts⟩ (cL_tideM l D cy ad hh aa pa H.size u (x8 + r774)) (vx_cwSW 2 hts gL_addsUp_L_tide rfl rfl rfl heL_tide ⟨Nat.le_of_ble_eq_true rfl, Nat.le_of_ble_eq_true rfl⟩) hK (k_sel1 (l := [lwW hLn (ad 0) Y.2.1 lbn un, [(raw, .inl (cy 0, 3, .inl uw))], [(raf, .inl (cy 0, 3, .inl uf))], wF cy ad hh aa pa u]) (n := 4) 3 [0, 1, 2] rfl rfl (by decide)) hP hD hS hA rfl hl.1 rfl (Nat.le_of_ble_eq_true rfl) dL_addsUp_778 ⟨Nat.le_of_ble_eq_true rfl, Nat.le_of_ble_eq_true rfl⟩ (fun r778 H locs h1 hP hS => ?_)
                refine lv_aload_n hx hb dL_addsUp_781 rfl (lv_at hl 3 rfl) ?_
                refine k_get (v := .ref (ad 0)) (C := RL) (T := TL) (N := 4) hx hb hts inL_addsUp_L hown hK hP 0 rfl rfl 0 (by decide) lkL_addsUp_10 rfl dL_addsUp_782 ?_
                refine lv_iconst (v := 0) hx hb dL_addsUp_785 rfl ?_
                refine kh_rS (As := [.ref (ad 0), .int 0]) (rest := [.int r778]) h1 ⟨hx, hb, hml, hown, hts⟩ (cL_settingM l D cy ad hh aa pa H.size u 0) (vx_cwSW 2 hts gL_addsUp_L_setting rfl rfl rfl heL_setting ⟨Nat.le_of_ble_eq_true rfl, Nat.le_of_ble_eq_true rfl⟩) hK (k_sel1 (l := [lwW hLn (ad 0) Y.2.1 lbn un, [(raw, .inl (cy 0, 3, .inl uw))], [(raf, .inl (cy 0, 3, .inl uf))], wF cy ad hh aa pa u]) (n := 4) 3 [0, 1, 2] rfl rfl (by decide)) hP hD hS hA rfl hl.1 rfl (Nat.le_of_ble_eq_true rfl) dL_addsUp_786 ⟨Nat.le_of_ble_eq_true rfl, Nat.le_of_ble_eq_true rfl⟩ (fun r786 H locs h1 hP hS => ?_)
                refine lv_icmp_ne (tgt := 817) hx hb dL_addsUp_789 (by decide) (fun c789 => ?_) (fun c789 => ?_)
                · replace h1 := Ok.neg c789 h1
                  refine lv_iconst (v := 0) hx hb dL_addsUp_817 rfl ?_
                  exact kret_dz hx hb hr rfl hlocks hP hD hS h1 dL_addsUp_818
                · replace h1 := Ok.pos c789 h1
                  refine lv_aload_n hx hb dL_addsUp_792 rfl (lv_at hl 3 rfl) ?_
                  refine k_get (v := .ref (ad 0)) (C := RL) (T := TL) (N := 4) hx hb hts inL_addsUp_L hown hK hP 0 rfl rfl 0 (by decide) lkL_addsUp_10 rfl dL_addsUp_793 ?_
                  refine lv_iload hx hb dL_addsUp_796 (lv_at hl 10 rfl) ?_
                  refine lv_iconst (v := 2) hx hb dL_addsUp_798 rfl ?_
                  refine lv_aload_n hx hb dL_addsUp_799 rfl (lv_at hl 3 rfl) ?_
                  refine k_get (v := .ref (ad 0)) (C := RL) (T := TL) (N := 4) hx hb hts inL_addsUp_L hown hK hP 0 rfl rfl 0 (by decide) lkL_addsUp_10 rfl dL_addsUp_800 ?_
                  refine lv_iconst (v := 2) hx hb dL_addsUp_803 rfl ?_
                  refine kh_rS (As := [.ref (ad 0), .int 2]) (rest := [.int 2, .int x8, .ref (ad 0)]) h1 ⟨hx, hb, hml, hown, hts⟩ (cL_settingM l D cy ad hh aa pa H.size u 2) (vx_cwSW 2 hts gL_addsUp_L_setting rfl rfl rfl heL_setting ⟨Nat.le_of_ble_eq_true rfl, Nat.le_of_ble_eq_true rfl⟩) hK (k_sel1 (l := [lwW hLn (ad 0) Y.2.1 lbn un, [(raw, .inl (cy 0, 3, .inl uw))], [(raf, .inl (cy 0, 3, .inl uf))], wF cy ad hh aa pa u]) (n := 4) 3 [0, 1, 2] rfl rfl (by decide)) hP hD hS hA rfl hl.1 rfl (Nat.le_of_ble_eq_true rfl) dL_addsUp_804 ⟨Nat.le_of_ble_eq_true rfl, Nat.le_of_ble_eq_true rfl⟩ (fun r804 H locs h1 hP hS => ?_)
                  refine lv_imul hx hb dL_addsUp_807 ?_
                  refine lv_iadd hx hb dL_addsUp_808 ?_
                  refine kh_rS (As := [.ref (ad 0), .int (x8 + (2 * r804))]) (rest := []) h1 ⟨hx, hb, hml, hown, hts⟩ (cL_tideM l D cy ad hh aa pa H.size u (x8 + (2 * r804))) (vx_cwSW 2 hts gL_addsUp_L_tide rfl rfl rfl heL_tide ⟨Nat.le_of_ble_eq_true rfl, Nat.le_of_ble_eq_true rfl⟩) hK (k_sel1 (l := [lwW hLn (ad 0) Y.2.1 lbn un, [(raw, .inl (cy 0, 3, .inl uw))], [(raf, .inl (cy 0, 3, .inl uf))], wF cy ad hh aa pa u]) (n := 4) 3 [0, 1, 2] rfl rfl (by decide)) hP hD hS hA rfl hl.1 rfl (Nat.le_of_ble_eq_true rfl) dL_addsUp_809 ⟨Nat.le_of_ble_eq_true rfl, Nat.le_of_ble_eq_true rfl⟩ (fun r809 H locs h1 hP hS => ?_)
                  refine lv_iload hx hb dL_addsUp_812 (lv_at hl 0 rfl) ?_
                  refine lv_icmp_eq (tgt := 819) hx hb dL_addsUp_814 (by decide) (fun c814 => ?_) (fun c814 => ?_)
                  · replace h1 := Ok.pos c814 h1
                    refine lv_iload hx hb dL_addsUp_819 (lv_at hl 6 rfl) ?_
                    refine lv_if_ne (tgt := 1032) hx hb dL_addsUp_821 (by decide) (fun c821 => ?_) (fun c821 => ?_)
                    · replace h1 := Ok.neg c821 h1
                      refine lv_iconst (v := 0) hx hb dL_addsUp_1032 rfl ?_
                      exact kret_dz hx hb hr rfl hlocks hP hD hS h1 dL_addsUp_1033
                    · replace h1 := Ok.pos c821 h1
                      refine lv_iload_n hx hb dL_addsUp_824 rfl (lv_at hl 5 rfl) ?_
                      refine lv_aload_n hx hb dL_addsUp_825 rfl (lv_at hl 3 rfl) ?_
                      refine k_get (v := .ref (ad 0)) (C := RL) (T := TL) (N := 4) hx hb hts inL_addsUp_L hown hK hP 0 rfl rfl 0 (by decide) lkL_addsUp_10 rfl dL_addsUp_826 ?_
                      refine lv_iconst (v := 1) hx hb dL_addsUp_829 rfl ?_
                      refine kh_rS (As := [.ref (ad 0), .int 1]) (rest := [.int x3]) h1 ⟨hx, hb, hml, hown, hts⟩ (cL_countM l D cy ad hh aa pa H.size u 1) (vx_cwSW 2 hts gL_addsUp_L_count rfl rfl rfl heL_count ⟨Nat.le_of_ble_eq_true rfl, Nat.le_of_ble_eq_true rfl⟩) hK (k_sel1 (l := [lwW hLn (ad 0) Y.2.1 lbn un, [(raw, .inl (cy 0, 3, .inl uw))], [(raf, .inl (cy 0, 3, .inl uf))], wF cy ad hh aa pa u]) (n := 4) 3 [0, 1, 2] rfl rfl (by decide)) hP hD hS hA rfl hl.1 rfl (Nat.le_of_ble_eq_true rfl) dL_addsUp_830 ⟨Nat.le_of_ble_eq_true rfl, Nat.le_of_ble_eq_true rfl⟩ (fun r830 H locs h1 hP hS => ?_)
                      refine lv_icmp_ne (tgt := 1032) hx hb dL_addsUp_833 (by decide) (fun c833 => ?_) (fun c833 => ?_)
                      · replace h1 := Ok.neg c833 h1
                        refine lv_iconst (v := 0) hx hb dL_addsUp_1032 rfl ?_
                        exact kret_dz hx hb hr rfl hlocks hP hD hS h1 dL_addsUp_1033
                      · replace h1 := Ok.pos c833 h1
                        refine lv_iload_n hx hb dL_addsUp_836 rfl (lv_at hl 4 rfl) ?_
                        refine lv_aload_n hx hb dL_addsUp_837 rfl (lv_at hl 3 rfl) ?_
                        refine k_get (v := .ref (ad 0)) (C := RL) (T := TL) (N := 4) hx hb hts inL_addsUp_L hown hK hP 0 rfl rfl 0 (by decide) lkL_addsUp_10 rfl dL_addsUp_838 ?_
                        refine lv_bipush (v := 7) hx hb dL_addsUp_841 rfl ?_
                        refine kh_rS (As := [.ref (ad 0), .int 7]) (rest := [.int x2]) h1 ⟨hx, hb, hml, hown, hts⟩ (cL_countM l D cy ad hh aa pa H.size u 7) (vx_cwSW 2 hts gL_addsUp_L_count rfl rfl rfl heL_count ⟨Nat.le_of_ble_eq_true rfl, Nat.le_of_ble_eq_true rfl⟩) hK (k_sel1 (l := [lwW hLn (ad 0) Y.2.1 lbn un, [(raw, .inl (cy 0, 3, .inl uw))], [(raf, .inl (cy 0, 3, .inl uf))], wF cy ad hh aa pa u]) (n := 4) 3 [0, 1, 2] rfl rfl (by decide)) hP hD hS hA rfl hl.1 rfl (Nat.le_of_ble_eq_true rfl) dL_addsUp_843 ⟨Nat.le_of_ble_eq_true rfl, Nat.le_of_ble_eq_true rfl⟩ (fun r843 H locs h1 hP hS => ?_)
                        refine lv_icmp_ne (tgt := 1032) hx hb dL_addsUp_846 (by decide) (fun c846 => ?_) (fun c846 => ?_)
                        · replace h1 := Ok.neg c846 h1
                          refine lv_iconst (v := 0) hx hb dL_addsUp_1032 rfl ?_
                          exact kret_dz hx hb hr rfl hlocks hP hD hS h1 dL_addsUp_1033
                        · replace h1 := Ok.pos c846 h1
                          refine lv_iload_n hx hb dL_addsUp_849 rfl (lv_at hl 4 rfl) ?_
                          refine lv_aload_n hx hb dL_addsUp_850 rfl (lv_at hl 3 rfl) ?_
                          refine k_get (v := .ref (ad 0)) (C := RL) (T := TL) (N := 4) hx hb hts inL_addsUp_L hown hK hP 0 rfl rfl 0 (by decide) lkL_addsUp_10 rfl dL_addsUp_851 ?_
                          refine lv_bipush (v := 7) hx hb dL_addsUp_854 rfl ?_
                          refine kh_rS (As := [.ref (ad 0), .int 7]) (rest := [.int x2]) h1 ⟨hx, hb, hml, hown, hts⟩ (cL_settingM l D cy ad hh aa pa H.size u 7) (vx_cwSW 2 hts gL_addsUp_L_setting rfl rfl rfl heL_setting ⟨Nat.le_of_ble_eq_true rfl, Nat.le_of_ble_eq_true rfl⟩) hK (k_sel1 (l := [lwW hLn (ad 0) Y.2.1 lbn un, [(raw, .inl (cy 0, 3, .inl uw))], [(raf, .inl (cy 0, 3, .inl uf))], wF cy ad hh aa pa u]) (n := 4) 3 [0, 1, 2] rfl rfl (by decide)) hP hD hS hA rfl hl.1 rfl (Nat.le_of_ble_eq_true rfl) dL_addsUp_856 ⟨Nat.le_of_ble_eq_true rfl, Nat.le_of_ble_eq_true rfl⟩ (fun r856 H locs h1 hP hS => ?_)
                          refine lv_icmp_gt (tgt := 1032) hx hb dL_addsUp_859 (by decide) (fun c859 => ?_) (fun c859 => ?_)
                          · replace h1 := Ok.pos c859 h1
                            refine lv_iconst (v := 0) hx hb dL_addsUp_1032 rfl ?_
                            exact kret_dz hx hb hr rfl hlocks hP hD hS h1 dL_addsUp_1033
                          · replace h1 := Ok.neg c859 h1
                            refine lv_iload hx hb dL_addsUp_862 (lv_at hl 9 rfl) ?_
                            refine lv_aload_n hx hb dL_addsUp_864 rfl (lv_at hl 3 rfl) ?_
                            refine k_get (v := .ref (ad 0)) (C := RL) (T := TL) (N := 4) hx hb hts inL_addsUp_L hown hK hP 0 rfl rfl 0 (by decide) lkL_addsUp_10 rfl dL_addsUp_865 ?_
                            refine lv_bipush (v := 8) hx hb dL_addsUp_868 rfl ?_
                            refine kh_rS (As := [.ref (ad 0), .int 8]) (rest := [.int x7]) h1 ⟨hx, hb, hml, hown, hts⟩ (cL_countM l D cy ad hh aa pa H.size u 8) (vx_cwSW 2 hts gL_addsUp_L_count rfl rfl rfl heL_count ⟨Nat.le_of_ble_eq_true rfl, Nat.le_of_ble_eq_true rfl⟩) hK (k_sel1 (l := [lwW hLn (ad 0) Y.2.1 lbn un, [(raw, .inl (cy 0, 3, .inl uw))], [(raf, .inl (cy 0, 3, .inl uf))], wF cy ad hh aa pa u]) (n := 4) 3 [0, 1, 2] rfl rfl (by decide)) hP hD hS hA rfl hl.1 rfl (Nat.le_of_ble_eq_true rfl) dL_addsUp_870 ⟨Nat.le_of_ble_eq_true rfl, Nat.le_of_ble_eq_true rfl⟩ (fun r870 H locs h1 hP hS => ?_)
                            refine lv_icmp_ne (tgt := 1032) hx hb dL_addsUp_873 (by decide) (fun c873 => ?_) (fun c873 => ?_)
                            · replace h1 := Ok.neg c873 h1
                              refine lv_iconst (v := 0) hx hb dL_addsUp_1032 rfl ?_
                              exact kret_dz hx hb hr rfl hlocks hP hD hS h1 dL_addsUp_1033
                            · replace h1 := Ok.pos c873 h1
                              refine lv_iload hx hb dL_addsUp_876 (lv_at hl 8 rfl) ?_
                              refine lv_aload_n hx hb dL_addsUp_878 rfl (lv_at hl 3 rfl) ?_
                              refine k_get (v := .ref (ad 0)) (C := RL) (T := TL) (N := 4) hx hb hts inL_addsUp_L hown hK hP 0 rfl rfl 0 (by decide) lkL_addsUp_10 rfl dL_addsUp_879 ?_
                              refine lv_bipush (v := 13) hx hb dL_addsUp_882 rfl ?_
                              refine kh_rS (As := [.ref (ad 0), .int 13]) (rest := [.int x6]) h1 ⟨hx, hb, hml, hown, hts⟩ (cL_countM l D cy ad hh aa pa H.size u 13) (vx_cwSW 2 hts gL_addsUp_L_count rfl rfl rfl heL_count ⟨Nat.le_of_ble_eq_true rfl, Nat.le_of_ble_eq_true rfl⟩) hK (k_sel1 (l := [lwW hLn (ad 0) Y.2.1 lbn un, [(raw, .inl (cy 0, 3, .inl uw))], [(raf, .inl (cy 0, 3, .inl uf))], wF cy ad hh aa pa u]) (n := 4) 3 [0, 1, 2] rfl rfl (by decide)) hP hD hS hA rfl hl.1 rfl (Nat.le_of_ble_eq_true rfl) dL_addsUp_884 ⟨Nat.le_of_ble_eq_true rfl, Nat.le_of_ble_eq_true rfl⟩ (fun r884 H locs h1 hP hS => ?_)
                              refine lv_icmp_ne (tgt := 1032) hx hb dL_addsUp_887 (by decide) (fun c887 => ?_) (fun c887 => ?_)
                              · replace h1 := Ok.neg c887 h1
                                refine lv_iconst (v := 0) hx hb dL_addsUp_1032 rfl ?_
                                exact kret_dz hx hb hr rfl hlocks hP hD hS h1 dL_addsUp_1033
                              · replace h1 := Ok.pos c887 h1
                                refine lv_iload hx hb dL_addsUp_890 (lv_at hl 7 rfl) ?_
                                refine lv_aload_n hx hb dL_addsUp_892 rfl (lv_at hl 3 rfl) ?_
                                refine k_get (v := .ref (ad 0)) (C := RL) (T := TL) (N := 4) hx hb hts inL_addsUp_L hown hK hP 0 rfl rfl 0 (by decide) lkL_addsUp_10 rfl dL_addsUp_893 ?_
                                refine lv_bipush (v := 14) hx hb dL_addsUp_896 rfl ?_
                                refine kh_rS (As := [.ref (ad 0), .int 14]) (rest := [.int x5]) h1 ⟨hx, hb, hml, hown, hts⟩ (cL_countM l D cy ad hh aa pa H.size u 14) (vx_cwSW 2 hts gL_addsUp_L_count rfl rfl rfl heL_count ⟨Nat.le_of_ble_eq_true rfl, Nat.le_of_ble_eq_true rfl⟩) hK (k_sel1 (l := [lwW hLn (ad 0) Y.2.1 lbn un, [(raw, .inl (cy 0, 3, .inl uw))], [(raf, .inl (cy 0, 3, .inl uf))], wF cy ad hh aa pa u]) (n := 4) 3 [0, 1, 2] rfl rfl (by decide)) hP hD hS hA rfl hl.1 rfl (Nat.le_of_ble_eq_true rfl) dL_addsUp_898 ⟨Nat.le_of_ble_eq_true rfl, Nat.le_of_ble_eq_true rfl⟩ (fun r898 H locs h1 hP hS => ?_)
                                refine lv_icmp_ne (tgt := 1032) hx hb dL_addsUp_901 (by decide) (fun c901 => ?_) (fun c901 => ?_)
                                · replace h1 := Ok.neg c901 h1
                                  refine lv_iconst (v := 0) hx hb dL_addsUp_1032 rfl ?_
                                  exact kret_dz hx hb hr rfl hlocks hP hD hS h1 dL_addsUp_1033
                                · replace h1 := Ok.pos c901 h1
                                  refine lv_aload_n hx hb dL_addsUp_904 rfl (lv_at hl 3 rfl) ?_
                                  refine k_get (v := .ref (ad 0)) (C := RL) (T := TL) (N := 4) hx hb hts inL_addsUp_L hown hK hP 0 rfl rfl 0 (by decide) lkL_addsUp_10 rfl dL_addsUp_905 ?_
                                  refine kc_rV (b := (ad 0)) (As := []) (rest := []) h1 ⟨hx, hb, hml, hown, hts⟩ (cX9_listM l D cy ad hh aa pa H.size u) (cwV 0 hts gL_addsUp_X9_list rfl rfl rfl hdX9_list ⟨Nat.le_of_ble_eq_true rfl, Nat.le_of_ble_eq_true rfl⟩) hK (k_sel1 (l := [lwW hLn (ad 0) Y.2.1 lbn un, [(raw, .inl (cy 0, 3, .inl uw))], [(raf, .inl (cy 0, 3, .inl uf))], wF cy ad hh aa pa u]) (n := 4) 3 [0, 1, 2] rfl rfl (by decide)) hP hD hS hA (q0 := 0) rfl rfl rfl hl.1 rfl (Nat.le_of_ble_eq_true rfl) dL_addsUp_908 ⟨Nat.le_of_ble_eq_true rfl, Nat.le_of_ble_eq_true rfl⟩ (fun r908 H locs h1 hP hS => ?_)
                                  refine lv_aload hx hb dL_addsUp_911 (lv_at hl 11 rfl) ?_
                                  refine lv_iconst (v := 0) hx hb dL_addsUp_913 rfl ?_
                                  refine k_iald (k := 0) hx hb hK hP 1 rfl rfl rfl dL_addsUp_914 ?_
                                  refine lv_aload hx hb dL_addsUp_915 (lv_at hl 11 rfl) ?_
                                  refine lv_iconst (v := 2) hx hb dL_addsUp_917 rfl ?_
                                  refine k_iald (k := 2) hx hb hK hP 1 rfl rfl rfl dL_addsUp_918 ?_
                                  refine lv_isub hx hb dL_addsUp_919 ?_
                                  refine lv_icmp_ne (tgt := 1032) hx hb dL_addsUp_920 (by decide) (fun c920 => ?_) (fun c920 => ?_)
                                  · replace h1 := Ok.neg c920 h1
                                    refine lv_iconst (v := 0) hx hb dL_addsUp_1032 rfl ?_
                                    exact kret_dz hx hb hr rfl hlocks hP hD hS h1 dL_addsUp_1033
                                  · replace h1 := Ok.pos c920 h1
                                    refine lv_aload_n hx hb dL_addsUp_923 rfl (lv_at hl 3 rfl) ?_
                                    refine k_get (v := .ref (ad 0)) (C := RL) (T := TL) (N := 4) hx hb hts inL_addsUp_L hown hK hP 0 rfl rfl 0 (by decide) lkL_addsUp_10 rfl dL_addsUp_924 ?_
                                    refine lv_iload_n hx hb dL_addsUp_927 rfl (lv_at hl 5 rfl) ?_
                                    refine kc_rV (b := (ad 0)) (As := [.int x3]) (rest := []) h1 ⟨hx, hb, hml, hown, hts⟩ (cX9_queuedM l D cy ad hh aa pa H.size u x3) (cwV 1 hts gL_addsUp_X9_queued rfl rfl rfl hdX9_queued ⟨Nat.le_of_ble_eq_true rfl, Nat.le_of_ble_eq_true rfl⟩) hK (k_sel1 (l := [lwW hLn (ad 0) Y.2.1 lbn un, [(raw, .inl (cy 0, 3, .inl uw))], [(raf, .inl (cy 0, 3, .inl uf))], wF cy ad hh aa pa u]) (n := 4) 3 [0, 1, 2] rfl rfl (by decide)) hP hD hS hA (q0 := 0) rfl rfl rfl hl.1 rfl (Nat.le_of_ble_eq_true rfl) dL_addsUp_928 ⟨Nat.le_of_ble_eq_true rfl, Nat.le_of_ble_eq_true rfl⟩ (fun r928 H locs h1 hP hS => ?_)
                                    refine lv_iconst (v := (-1)) hx hb dL_addsUp_931 rfl ?_
                                    refine lv_icmp_ne (tgt := 1032) hx hb dL_addsUp_932 (by decide) (fun c932 => ?_) (fun c932 => ?_)
                                    · replace h1 := Ok.neg c932 h1
                                      refine lv_iconst (v := 0) hx hb dL_addsUp_1032 rfl ?_
                                      exact kret_dz hx hb hr rfl hlocks hP hD hS h1 dL_addsUp_1033
                                    · replace h1 := Ok.pos c932 h1
                                      refine lv_aload_n hx hb dL_addsUp_935 rfl (lv_at hl 3 rfl) ?_
                                      refine k_get (v := .ref (ad 0)) (C := RL) (T := TL) (N := 4) hx hb hts inL_addsUp_L hown hK hP 0 rfl rfl 0 (by decide) lkL_addsUp_10 rfl dL_addsUp_936 ?_
                                      refine lv_bipush (v := 6) hx hb dL_addsUp_939 rfl ?_
                                      refine kh_rS (As := [.ref (ad 0), .int 6]) (rest := []) h1 ⟨hx, hb, hml, hown, hts⟩ (cL_countM l D cy ad hh aa pa H.size u 6) (vx_cwSW 2 hts gL_addsUp_L_count rfl rfl rfl heL_count ⟨Nat.le_of_ble_eq_true rfl, Nat.le_of_ble_eq_true rfl⟩) hK (k_sel1 (l := [lwW hLn (ad 0) Y.2.1 lbn un, [(raw, .inl (cy 0, 3, .inl uw))], [(raf, .inl (cy 0, 3, .inl uf))], wF cy ad hh aa pa u]) (n := 4) 3 [0, 1, 2] rfl rfl (by decide)) hP hD hS hA rfl hl.1 rfl (Nat.le_of_ble_eq_true rfl) dL_addsUp_941 ⟨Nat.le_of_ble_eq_true rfl, Nat.le_of_ble_eq_true rfl⟩ (fun r941 H locs h1 hP hS => ?_)
                                      refine lv_if_eq (tgt := 959) hx hb dL_addsUp_944 (by decide) (fun c944 => ?_) (fun c944 => ?_)
                                      · replace h1 := Ok.pos c944 h1
                                        exact tL_addsUp_b959 K E hZ hY un u x2 x7 uw uf H locs ls (lv_sub hl [3, 4, 9] rfl) hP hD hS h1
                                      · replace h1 := Ok.neg c944 h1
                                        refine lv_aload_n hx hb dL_addsUp_947 rfl (lv_at hl 3 rfl) ?_
                                        refine k_get (v := .ref (ad 0)) (C := RL) (T := TL) (N := 4) hx hb hts inL_addsUp_L hown hK hP 0 rfl rfl 0 (by decide) lkL_addsUp_10 rfl dL_addsUp_948 ?_
                                        refine lv_iconst (v := 5) hx hb dL_addsUp_951 rfl ?_
                                        refine kh_rS (As := [.ref (ad 0), .int 5]) (rest := []) h1 ⟨hx, hb, hml, hown, hts⟩ (cL_countM l D cy ad hh aa pa H.size u 5) (vx_cwSW 2 hts gL_addsUp_L_count rfl rfl rfl heL_count ⟨Nat.le_of_ble_eq_true rfl, Nat.le_of_ble_eq_true rfl⟩) hK (k_sel1 (l := [lwW hLn (ad 0) Y.2.1 lbn un, [(raw, .inl (cy 0, 3, .inl uw))], [(raf, .inl (cy 0, 3, .inl uf))], wF cy ad hh aa pa u]) (n := 4) 3 [0, 1, 2] rfl rfl (by decide)) hP hD hS hA rfl hl.1 rfl (Nat.le_of_ble_eq_true rfl) dL_addsUp_952 ⟨Nat.le_of_ble_eq_true rfl, Nat.le_of_ble_eq_true rfl⟩ (fun r952 H locs h1 hP hS => ?_)
                                        refine lv_iconst (v := 1) hx hb dL_addsUp_955 rfl ?_
                                        refine lv_icmp_ne (tgt := 1032) hx hb dL_addsUp_956 (by decide) (fun c956 => ?_) (fun c956 => ?_)
                                        · replace h1 := Ok.neg c956 h1
                                          refine lv_iconst (v := 0) hx hb dL_addsUp_1032 rfl ?_
                                          exact kret_dz hx hb hr rfl hlocks hP hD hS h1 dL_addsUp_1033
                                        · replace h1 := Ok.pos c956 h1
                                          exact tL_addsUp_b959 K E hZ hY un u x2 x7 uw uf H locs ls (lv_sub hl [3, 4, 9] rfl) hP hD hS h1
                  · replace h1 := Ok.neg c814 h1
                    refine lv_iconst (v := 0) hx hb dL_addsUp_817 rfl ?_
                    exact kret_dz hx hb hr rfl hlocks hP hD hS h1 dL_addsUp_818
  · replace h1 := Ok.neg c564 h1
    refine lv_aload_n hx hb dL_addsUp_567 rfl (lv_at hl 0 rfl) ?_
    refine k_get (v := .ref (ad 0)) (C := RL) (T := TL) (N := 4) hx hb hts inL_addsUp_L hown hK hP 0 rfl rfl 0 (by decide) lkL_addsUp_10 rfl dL_addsUp_568 ?_
    refine lv_iload hx hb dL_addsUp_571 (lv_at hl 9 rfl) ?_
    refine kc_rV (b := (ad 0)) (As := [.int x11]) (rest := []) h1 ⟨hx, hb, hml, hown, hts⟩ (cX9_queuedM l D cy ad hh aa pa H.size u x11) (cwV 1 hts gL_addsUp_X9_queued rfl rfl rfl hdX9_queued ⟨Nat.le_of_ble_eq_true rfl, Nat.le_of_ble_eq_true rfl⟩) hK (k_sel1 (l := [lwW hLn (ad 0) Y.2.1 lbn un, [(raw, .inl (cy 0, 3, .inl uw))], [(raf, .inl (cy 0, 3, .inl uf))], wF cy ad hh aa pa u]) (n := 4) 3 [0, 1, 2] rfl rfl (by decide)) hP hD hS hA (q0 := 0) rfl rfl rfl hl.1 rfl (Nat.le_of_ble_eq_true rfl) dL_addsUp_573 ⟨Nat.le_of_ble_eq_true rfl, Nat.le_of_ble_eq_true rfl⟩ (fun r573 H locs h1 hP hS => ?_)
    refine lv_if_lt (tgt := 599) hx hb dL_addsUp_576 (by decide) (fun c576 => ?_) (fun c576 => ?_)
    · replace h1 := Ok.pos c576 h1
      refine lv_iconst (v := 0) hx hb dL_addsUp_599 rfl ?_
      exact kret_dz hx hb hr rfl hlocks hP hD hS h1 dL_addsUp_600
    · replace h1 := Ok.neg c576 h1
      refine lv_aload_n hx hb dL_addsUp_579 rfl (lv_at hl 0 rfl) ?_
      refine k_get (v := .ref (ad 0)) (C := RL) (T := TL) (N := 4) hx hb hts inL_addsUp_L hown hK hP 0 rfl rfl 0 (by decide) lkL_addsUp_10 rfl dL_addsUp_580 ?_
      refine lv_aload_n hx hb dL_addsUp_583 rfl (lv_at hl 0 rfl) ?_
      refine k_get (v := .ref (ad 0)) (C := RL) (T := TL) (N := 4) hx hb hts inL_addsUp_L hown hK hP 0 rfl rfl 0 (by decide) lkL_addsUp_10 rfl dL_addsUp_584 ?_
      refine lv_iload hx hb dL_addsUp_587 (lv_at hl 9 rfl) ?_
      refine kc_rV (b := (ad 0)) (As := [.int x11]) (rest := [.ref (ad 0)]) h1 ⟨hx, hb, hml, hown, hts⟩ (cX9_queuedM l D cy ad hh aa pa H.size u x11) (cwV 1 hts gL_addsUp_X9_queued rfl rfl rfl hdX9_queued ⟨Nat.le_of_ble_eq_true rfl, Nat.le_of_ble_eq_true rfl⟩) hK (k_sel1 (l := [lwW hLn (ad 0) Y.2.1 lbn un, [(raw, .inl (cy 0, 3, .inl uw))], [(raf, .inl (cy 0, 3, .inl uf))], wF cy ad hh aa pa u]) (n := 4) 3 [0, 1, 2] rfl rfl (by decide)) hP hD hS hA (q0 := 0) rfl rfl rfl hl.1 rfl (Nat.le_of_ble_eq_true rfl) dL_addsUp_589 ⟨Nat.le_of_ble_eq_true rfl, Nat.le_of_ble_eq_true rfl⟩ (fun r589 H locs h1 hP hS => ?_)
      refine lv_iconst (v := 2) hx hb dL_addsUp_592 rfl ?_
      refine kh_rS (As := [.ref (ad 0), .int r589, .int 2]) (rest := []) h1 ⟨hx, hb, hml, hown, hts⟩ (cL_carM l D cy ad hh aa pa H.size u r589 2) (vx_cwSW 3 hts gL_addsUp_L_car rfl rfl rfl heL_car ⟨Nat.le_of_ble_eq_true rfl, Nat.le_of_ble_eq_true rfl⟩) hK (k_sel1 (l := [lwW hLn (ad 0) Y.2.1 lbn un, [(raw, .inl (cy 0, 3, .inl uw))], [(raf, .inl (cy 0, 3, .inl uf))], wF cy ad hh aa pa u]) (n := 4) 3 [0, 1, 2] rfl rfl (by decide)) hP hD hS hA rfl hl.1 rfl (Nat.le_of_ble_eq_true rfl) dL_addsUp_593 ⟨Nat.le_of_ble_eq_true rfl, Nat.le_of_ble_eq_true rfl⟩ (fun r593 H locs h1 hP hS => ?_)
      refine lv_if_eq (tgt := 601) hx hb dL_addsUp_596 (by decide) (fun c596 => ?_) (fun c596 => ?_)
      · replace h1 := Ok.pos c596 h1
        refine lv_iinc (v := x11 + 1) (lv' := [(11, .int (x11 + 1)), (0, .ref hLn), (2, .int x2), (3, .int x3), (4, .int x4), (5, .int x5), (6, .int x6), (7, .int x7), (8, .int x8), (9, .ref raw)]) hx hb dL_addsUp_601 hl (k := 9) rfl rfl (by decide) rfl (fun ls hl => ?_)
        refine lv_goto (tgt := 561) hx hb dL_addsUp_604 (by decide) ?_
        exact hk561 x2 x3 x4 x5 x6 x7 x8 (x11 + 1) uw uf H locs ls (lv_sub hl [1, 2, 3, 4, 5, 6, 7, 8, 9, 0] rfl) hP hD hS h1
      · replace h1 := Ok.neg c596 h1
        refine lv_iconst (v := 0) hx hb dL_addsUp_599 rfl ?_
        exact kret_dz hx hb hr rfl hlocks hP hD hS h1 dL_addsUp_600
theorem tL_addsUp_l561 {p : Program} {l : Launch} {e : Env} {s : State} {m : MethodId} {args : Array Value} {below : List Frame} {meth : Method} {c : Code} {D : va_G} {cy : Nat → ClassId} {A : Nat → Prop} {hLn : Nat} {lbn : Nat} {raw : Nat} {raf : Nat} {ad : Nat → Nat} {hh : Nat → Nat} {aa : Nat → Nat → Nat} {pa : Nat → Nat} {za zv : Nat → Nat} {Y : YB} (K : Int32 → Prop) (E : mE D cy RL cL_addsUp 17 (some .boolean) wsL_addsUp A p s m args meth c) (hZ : mZ za zv A s s.heap) (hY : mY Y A s s.heap) (un : Int32) (u : FS) : ∀ (n9 : Nat) (x2 : Int32) (x3 : Int32) (x4 : Int32) (x5 : Int32) (x6 : Int32) (x7 : Int32) (x8 : Int32) (x11 : Int32) (uw : Nat → Int32) (uf : Nat → Int32) (H : Heap) (locs : List Loc) (ls : Array Slot), lv_has ls 17 [(0, .ref hLn), (2, .int x2), (3, .int x3), (4, .int x4), (5, .int x5), (6, .int x6), (7, .int x7), (8, .int x8), (9, .ref raw), (11, .int x11)] → va_P D kCl (([lwW hLn (ad 0) Y.2.1 lbn un, [(raw, .inl (cy 0, 3, .inl uw))], [(raf, .inl (cy 0, 3, .inl uf))], wF cy ad hh aa pa u] : List va_W).flatten) H → va_D A (([lwW hLn (ad 0) Y.2.1 lbn un, [(raw, .inl (cy 0, 3, .inl uw))], [(raf, .inl (cy 0, 3, .inl uf))], wF cy ad hh aa pa u] : List va_W).flatten) → va_S A s.heap H locs → Ok (lop (fun y z => fL_addsUp_b561 y z.1 z.2.1 z.2.2.1 z.2.2.2.1 z.2.2.2.2.1 z.2.2.2.2.2.1 z.2.2.2.2.2.2.1 z.2.2.2.2.2.2.2.1 Y un z.2.2.2.2.2.2.2.2.1 z.2.2.2.2.2.2.2.2.2 u) n9 (x2, x3, x4, x5, x6, x7, x8, x11, uw, uf)) K → kW2 p l e rmL_addsUp s m args below meth c H locs (va_Qi (fun r (_ : Unit) => K r) (fun _ => kPost D A ([lwW hLn (ad 0) Y.2.1 lbn un, wF cy ad hh aa pa u] : List va_W).flatten) A) A 561 ls [] := by
  intro n9
  induction n9 with
  | zero =>
    intro x2 x3 x4 x5 x6 x7 x8 x11 uw uf H locs ls hl hP hD hS h1
    exact h1.no
  | succ n9 ih =>
    intro x2 x3 x4 x5 x6 x7 x8 x11 uw uf H locs ls hl hP hD hS h1
    exact tL_addsUp_b561 K E hZ hY un u (lop (fun y z => fL_addsUp_b561 y z.1 z.2.1 z.2.2.1 z.2.2.2.1 z.2.2.2.2.1 z.2.2.2.2.2.1 z.2.2.2.2.2.2.1 z.2.2.2.2.2.2.2.1 Y un z.2.2.2.2.2.2.2.2.1 z.2.2.2.2.2.2.2.2.2 u) n9) (fun x2 x3 x4 x5 x6 x7 x8 x11 uw uf H locs ls hl hP hD hS h1 => ih x2 x3 x4 x5 x6 x7 x8 x11 uw uf H locs ls hl hP hD hS h1) x2 x3 x4 x5 x6 x7 x8 x11 uw uf H locs ls hl hP hD hS h1
def fL_addsUp_b458 (k400 : Int32 × Int32 × Int32 × Int32 × Int32 × Int32 × Int32 × Int32 × (Nat → Int32) × (Nat → Int32) → Option (Int32)) (k458 : Int32 × Int32 × Int32 × Int32 × Int32 × Int32 × Int32 × Int32 × Int32 × Int32 × (Nat → Int32) × (Nat → Int32) → Option (Int32)) (x2 : Int32) (x3 : Int32) (x4 : Int32) (x5 : Int32) (x6 : Int32) (x7 : Int32) (x8 : Int32) (x11 : Int32) (x12 : Int32) (x13 : Int32) (Y : YB) (un : Int32) (uw : Nat → Int32) (uf : Nat → Int32) (u : FS) : Option (Int32) :=
  bnd (fL_standing x11 x13 u) (fun r466 => (if r466 < 0 then k400 (x2, x3, x4, x5, x6, x7, x8, x11 + 1, uw, uf) else bnd (fL_standing x11 x13 u) (fun r480 => bnd (fL_car r480 2 u) (fun r492 => (if r492 = 2 then bnd (fL_car r480 3 u) (fun r506 => (if r506 = x11 then bnd (fL_car r480 5 u) (fun r521 => (if x12 < r521 then bnd (fL_car r480 5 u) (fun r538 => k458 (x2, x3, x4 + (-1), x5, x6, x7, x8, x11, r538, x13 + 1, uw, uf)) else some 0)) else some 0)) else some 0)))))
set_option maxHeartbeats 4000000 in
set_option maxRecDepth 100000 in
theorem tL_addsUp_b458 {p : Program} {l : Launch} {e : Env} {s : State} {m : MethodId} {args : Array Value} {below : List Frame} {meth : Method} {c : Code} {D : va_G} {cy : Nat → ClassId} {A : Nat → Prop} {hLn : Nat} {lbn : Nat} {raw : Nat} {raf : Nat} {ad : Nat → Nat} {hh : Nat → Nat} {aa : Nat → Nat → Nat} {pa : Nat → Nat} {za zv : Nat → Nat} {Y : YB} (K : Int32 → Prop) (E : mE D cy RL cL_addsUp 17 (some .boolean) wsL_addsUp A p s m args meth c) (hZ : mZ za zv A s s.heap) (hY : mY Y A s s.heap) (un : Int32) (u : FS)
    (k400 : Int32 × Int32 × Int32 × Int32 × Int32 × Int32 × Int32 × Int32 × (Nat → Int32) × (Nat → Int32) → Option (Int32)) (hk400 : ∀ (x2 : Int32) (x3 : Int32) (x4 : Int32) (x5 : Int32) (x6 : Int32) (x7 : Int32) (x8 : Int32) (x11 : Int32) (uw : Nat → Int32) (uf : Nat → Int32) (H : Heap) (locs : List Loc) (ls : Array Slot), lv_has ls 17 [(0, .ref hLn), (2, .int x2), (3, .int x3), (4, .int x4), (5, .int x5), (6, .int x6), (7, .int x7), (8, .int x8), (9, .ref raw), (10, .ref raf), (11, .int x11)] → va_P D kCl (([lwW hLn (ad 0) Y.2.1 lbn un, [(raw, .inl (cy 0, 3, .inl uw))], [(raf, .inl (cy 0, 3, .inl uf))], wF cy ad hh aa pa u] : List va_W).flatten) H → va_D A (([lwW hLn (ad 0) Y.2.1 lbn un, [(raw, .inl (cy 0, 3, .inl uw))], [(raf, .inl (cy 0, 3, .inl uf))], wF cy ad hh aa pa u] : List va_W).flatten) → va_S A s.heap H locs → Ok (k400 (x2, x3, x4, x5, x6, x7, x8, x11, uw, uf)) K → kW2 p l e rmL_addsUp s m args below meth c H locs (va_Qi (fun r (_ : Unit) => K r) (fun _ => kPost D A ([lwW hLn (ad 0) Y.2.1 lbn un, wF cy ad hh aa pa u] : List va_W).flatten) A) A 400 ls [])
    (k458 : Int32 × Int32 × Int32 × Int32 × Int32 × Int32 × Int32 × Int32 × Int32 × Int32 × (Nat → Int32) × (Nat → Int32) → Option (Int32)) (hk458 : ∀ (x2 : Int32) (x3 : Int32) (x4 : Int32) (x5 : Int32) (x6 : Int32) (x7 : Int32) (x8 : Int32) (x11 : Int32) (x12 : Int32) (x13 : Int32) (uw : Nat → Int32) (uf : Nat → Int32) (H : Heap) (locs : List Loc) (ls : Array Slot), lv_has ls 17 [(0, .ref hLn), (2, .int x2), (3, .int x3), (4, .int x4), (5, .int x5), (6, .int x6), (7, .int x7), (8, .int x8), (9, .ref raw), (10, .ref raf), (11, .int x11), (12, .int x12), (13, .int x13)] → va_P D kCl (([lwW hLn (ad 0) Y.2.1 lbn un, [(raw, .inl (cy 0, 3, .inl uw))], [(raf, .inl (cy 0, 3, .inl uf))], wF cy ad hh aa pa u] : List va_W).flatten) H → va_D A (([lwW hLn (ad 0) Y.2.1 lbn un, [(raw, .inl (cy 0, 3, .inl uw))], [(raf, .inl (cy 0, 3, .inl uf))], wF cy ad hh aa pa u] : List va_W).flatten) → va_S A s.heap H locs → Ok (k458 (x2, x3, x4, x5, x6, x7, x8, x11, x12, x13, uw, uf)) K → kW2 p l e rmL_addsUp s m args below meth c H locs (va_Qi (fun r (_ : Unit) => K r) (fun _ => kPost D A ([lwW hLn (ad 0) Y.2.1 lbn un, wF cy ad hh aa pa u] : List va_W).flatten) A) A 458 ls [])
     (x2 : Int32) (x3 : Int32) (x4 : Int32) (x5 : Int32) (x6 : Int32) (x7 : Int32) (x8 : Int32) (x11 : Int32) (x12 : Int32) (x13 : Int32) (uw : Nat → Int32) (uf : Nat → Int32) (H : Heap) (locs : List Loc) (ls : Array Slot) (hl : lv_has ls 17 [(0, .ref hLn), (2, .int x2), (3, .int x3), (4, .int x4), (5, .int x5), (6, .int x6), (7, .int x7), (8, .int x8), (9, .ref raw), (10, .ref raf), (11, .int x11), (12, .int x12), (13, .int x13)]) (hP : va_P D kCl (([lwW hLn (ad 0) Y.2.1 lbn un, [(raw, .inl (cy 0, 3, .inl uw))], [(raf, .inl (cy 0, 3, .inl uf))], wF cy ad hh aa pa u] : List va_W).flatten) H) (hD : va_D A (([lwW hLn (ad 0) Y.2.1 lbn un, [(raw, .inl (cy 0, 3, .inl uw))], [(raf, .inl (cy 0, 3, .inl uf))], wF cy ad hh aa pa u] : List va_W).flatten)) (hS : va_S A s.heap H locs) (h1 : Ok (fL_addsUp_b458 k400 k458 x2 x3 x4 x5 x6 x7 x8 x11 x12 x13 Y un uw uf u) K) :
    kW2 p l e rmL_addsUp s m args below meth c H locs (va_Qi (fun r (_ : Unit) => K r) (fun _ => kPost D A ([lwW hLn (ad 0) Y.2.1 lbn un, wF cy ad hh aa pa u] : List va_W).flatten) A) A 458 ls [] := by
  obtain ⟨hx, hb, hr, hml, hown, hts, hlocks, hK, hA⟩ := id E
  unfold fL_addsUp_b458 at h1
  refine lv_aload_n hx hb dL_addsUp_458 rfl (lv_at hl 0 rfl) ?_
  refine k_get (v := .ref (ad 0)) (C := RL) (T := TL) (N := 4) hx hb hts inL_addsUp_L hown hK hP 0 rfl rfl 0 (by decide) lkL_addsUp_10 rfl dL_addsUp_459 ?_
  refine lv_iload hx hb dL_addsUp_462 (lv_at hl 10 rfl) ?_
  refine lv_iload hx hb dL_addsUp_464 (lv_at hl 12 rfl) ?_
  refine kh_rS (As := [.ref (ad 0), .int x11, .int x13]) (rest := []) h1 ⟨hx, hb, hml, hown, hts⟩ (cL_standingM l D cy ad hh aa pa H.size u x11 x13) (vx_cwSW 3 hts gL_addsUp_L_standing rfl rfl rfl heL_standing ⟨Nat.le_of_ble_eq_true rfl, Nat.le_of_ble_eq_true rfl⟩) hK (k_sel1 (l := [lwW hLn (ad 0) Y.2.1 lbn un, [(raw, .inl (cy 0, 3, .inl uw))], [(raf, .inl (cy 0, 3, .inl uf))], wF cy ad hh aa pa u]) (n := 4) 3 [0, 1, 2] rfl rfl (by decide)) hP hD hS hA rfl hl.1 rfl (Nat.le_of_ble_eq_true rfl) dL_addsUp_466 ⟨Nat.le_of_ble_eq_true rfl, Nat.le_of_ble_eq_true rfl⟩ (fun r466 H locs h1 hP hS => ?_)
  refine lv_if_lt (tgt := 552) hx hb dL_addsUp_469 (by decide) (fun c469 => ?_) (fun c469 => ?_)
  · replace h1 := Ok.pos c469 h1
    refine lv_iinc (v := x11 + 1) (lv' := [(11, .int (x11 + 1)), (0, .ref hLn), (2, .int x2), (3, .int x3), (4, .int x4), (5, .int x5), (6, .int x6), (7, .int x7), (8, .int x8), (9, .ref raw), (10, .ref raf), (12, .int x12), (13, .int x13)]) hx hb dL_addsUp_552 hl (k := 10) rfl rfl (by decide) rfl (fun ls hl => ?_)
    refine lv_goto (tgt := 400) hx hb dL_addsUp_555 (by decide) ?_
    exact hk400 x2 x3 x4 x5 x6 x7 x8 (x11 + 1) uw uf H locs ls (lv_sub hl [1, 2, 3, 4, 5, 6, 7, 8, 9, 10, 0] rfl) hP hD hS h1
  · replace h1 := Ok.neg c469 h1
    refine lv_aload_n hx hb dL_addsUp_472 rfl (lv_at hl 0 rfl) ?_
    refine k_get (v := .ref (ad 0)) (C := RL) (T := TL) (N := 4) hx hb hts inL_addsUp_L hown hK hP 0 rfl rfl 0 (by decide) lkL_addsUp_10 rfl dL_addsUp_473 ?_
    refine lv_iload hx hb dL_addsUp_476 (lv_at hl 10 rfl) ?_
    refine lv_iload hx hb dL_addsUp_478 (lv_at hl 12 rfl) ?_
    refine kh_rS (As := [.ref (ad 0), .int x11, .int x13]) (rest := []) h1 ⟨hx, hb, hml, hown, hts⟩ (cL_standingM l D cy ad hh aa pa H.size u x11 x13) (vx_cwSW 3 hts gL_addsUp_L_standing rfl rfl rfl heL_standing ⟨Nat.le_of_ble_eq_true rfl, Nat.le_of_ble_eq_true rfl⟩) hK (k_sel1 (l := [lwW hLn (ad 0) Y.2.1 lbn un, [(raw, .inl (cy 0, 3, .inl uw))], [(raf, .inl (cy 0, 3, .inl uf))], wF cy ad hh aa pa u]) (n := 4) 3 [0, 1, 2] rfl rfl (by decide)) hP hD hS hA rfl hl.1 rfl (Nat.le_of_ble_eq_true rfl) dL_addsUp_480 ⟨Nat.le_of_ble_eq_true rfl, Nat.le_of_ble_eq_true rfl⟩ (fun r480 H locs h1 hP hS => ?_)
    refine lv_istore (lv' := [(14, .int r480), (0, .ref hLn), (2, .int x2), (3, .int x3), (4, .int x4), (5, .int x5), (6, .int x6), (7, .int x7), (8, .int x8), (9, .ref raw), (10, .ref raf), (11, .int x11), (12, .int x12), (13, .int x13)]) hx hb dL_addsUp_483 hl (by decide) rfl (fun ls hl => ?_)
    refine lv_aload_n hx hb dL_addsUp_485 rfl (lv_at hl 1 rfl) ?_
    refine k_get (v := .ref (ad 0)) (C := RL) (T := TL) (N := 4) hx hb hts inL_addsUp_L hown hK hP 0 rfl rfl 0 (by decide) lkL_addsUp_10 rfl dL_addsUp_486 ?_
    refine lv_iload hx hb dL_addsUp_489 (lv_at hl 0 rfl) ?_
    refine lv_iconst (v := 2) hx hb dL_addsUp_491 rfl ?_
    refine kh_rS (As := [.ref (ad 0), .int r480, .int 2]) (rest := []) h1 ⟨hx, hb, hml, hown, hts⟩ (cL_carM l D cy ad hh aa pa H.size u r480 2) (vx_cwSW 3 hts gL_addsUp_L_car rfl rfl rfl heL_car ⟨Nat.le_of_ble_eq_true rfl, Nat.le_of_ble_eq_true rfl⟩) hK (k_sel1 (l := [lwW hLn (ad 0) Y.2.1 lbn un, [(raw, .inl (cy 0, 3, .inl uw))], [(raf, .inl (cy 0, 3, .inl uf))], wF cy ad hh aa pa u]) (n := 4) 3 [0, 1, 2] rfl rfl (by decide)) hP hD hS hA rfl hl.1 rfl (Nat.le_of_ble_eq_true rfl) dL_addsUp_492 ⟨Nat.le_of_ble_eq_true rfl, Nat.le_of_ble_eq_true rfl⟩ (fun r492 H locs h1 hP hS => ?_)
    refine lv_iconst (v := 2) hx hb dL_addsUp_495 rfl ?_
    refine lv_icmp_ne (tgt := 529) hx hb dL_addsUp_496 (by decide) (fun c496 => ?_) (fun c496 => ?_)
    · replace h1 := Ok.neg c496 h1
      refine lv_iconst (v := 0) hx hb dL_addsUp_529 rfl ?_
      exact kret_dz hx hb hr rfl hlocks hP hD hS h1 dL_addsUp_530
    · replace h1 := Ok.pos c496 h1
      refine lv_aload_n hx hb dL_addsUp_499 rfl (lv_at hl 1 rfl) ?_
      refine k_get (v := .ref (ad 0)) (C := RL) (T := TL) (N := 4) hx hb hts inL_addsUp_L hown hK hP 0 rfl rfl 0 (by decide) lkL_addsUp_10 rfl dL_addsUp_500 ?_
      refine lv_iload hx hb dL_addsUp_503 (lv_at hl 0 rfl) ?_
      refine lv_iconst (v := 3) hx hb dL_addsUp_505 rfl ?_
      refine kh_rS (As := [.ref (ad 0), .int r480, .int 3]) (rest := []) h1 ⟨hx, hb, hml, hown, hts⟩ (cL_carM l D cy ad hh aa pa H.size u r480 3) (vx_cwSW 3 hts gL_addsUp_L_car rfl rfl rfl heL_car ⟨Nat.le_of_ble_eq_true rfl, Nat.le_of_ble_eq_true rfl⟩) hK (k_sel1 (l := [lwW hLn (ad 0) Y.2.1 lbn un, [(raw, .inl (cy 0, 3, .inl uw))], [(raf, .inl (cy 0, 3, .inl uf))], wF cy ad hh aa pa u]) (n := 4) 3 [0, 1, 2] rfl rfl (by decide)) hP hD hS hA rfl hl.1 rfl (Nat.le_of_ble_eq_true rfl) dL_addsUp_506 ⟨Nat.le_of_ble_eq_true rfl, Nat.le_of_ble_eq_true rfl⟩ (fun r506 H locs h1 hP hS => ?_)
      refine lv_iload hx hb dL_addsUp_509 (lv_at hl 11 rfl) ?_
      refine lv_icmp_ne (tgt := 529) hx hb dL_addsUp_511 (by decide) (fun c511 => ?_) (fun c511 => ?_)
      · replace h1 := Ok.neg c511 h1
        refine lv_iconst (v := 0) hx hb dL_addsUp_529 rfl ?_
        exact kret_dz hx hb hr rfl hlocks hP hD hS h1 dL_addsUp_530
      · replace h1 := Ok.pos c511 h1
        refine lv_aload_n hx hb dL_addsUp_514 rfl (lv_at hl 1 rfl) ?_
        refine k_get (v := .ref (ad 0)) (C := RL) (T := TL) (N := 4) hx hb hts inL_addsUp_L hown hK hP 0 rfl rfl 0 (by decide) lkL_addsUp_10 rfl dL_addsUp_515 ?_
        refine lv_iload hx hb dL_addsUp_518 (lv_at hl 0 rfl) ?_
        refine lv_iconst (v := 5) hx hb dL_addsUp_520 rfl ?_
        refine kh_rS (As := [.ref (ad 0), .int r480, .int 5]) (rest := []) h1 ⟨hx, hb, hml, hown, hts⟩ (cL_carM l D cy ad hh aa pa H.size u r480 5) (vx_cwSW 3 hts gL_addsUp_L_car rfl rfl rfl heL_car ⟨Nat.le_of_ble_eq_true rfl, Nat.le_of_ble_eq_true rfl⟩) hK (k_sel1 (l := [lwW hLn (ad 0) Y.2.1 lbn un, [(raw, .inl (cy 0, 3, .inl uw))], [(raf, .inl (cy 0, 3, .inl uf))], wF cy ad hh aa pa u]) (n := 4) 3 [0, 1, 2] rfl rfl (by decide)) hP hD hS hA rfl hl.1 rfl (Nat.le_of_ble_eq_true rfl) dL_addsUp_521 ⟨Nat.le_of_ble_eq_true rfl, Nat.le_of_ble_eq_true rfl⟩ (fun r521 H locs h1 hP hS => ?_)
        refine lv_iload hx hb dL_addsUp_524 (lv_at hl 12 rfl) ?_
        refine lv_icmp_gt (tgt := 531) hx hb dL_addsUp_526 (by decide) (fun c526 => ?_) (fun c526 => ?_)
        · replace h1 := Ok.pos c526 h1
          refine lv_aload_n hx hb dL_addsUp_531 rfl (lv_at hl 1 rfl) ?_
          refine k_get (v := .ref (ad 0)) (C := RL) (T := TL) (N := 4) hx hb hts inL_addsUp_L hown hK hP 0 rfl rfl 0 (by decide) lkL_addsUp_10 rfl dL_addsUp_532 ?_
          refine lv_iload hx hb dL_addsUp_535 (lv_at hl 0 rfl) ?_
          refine lv_iconst (v := 5) hx hb dL_addsUp_537 rfl ?_
          refine kh_rS (As := [.ref (ad 0), .int r480, .int 5]) (rest := []) h1 ⟨hx, hb, hml, hown, hts⟩ (cL_carM l D cy ad hh aa pa H.size u r480 5) (vx_cwSW 3 hts gL_addsUp_L_car rfl rfl rfl heL_car ⟨Nat.le_of_ble_eq_true rfl, Nat.le_of_ble_eq_true rfl⟩) hK (k_sel1 (l := [lwW hLn (ad 0) Y.2.1 lbn un, [(raw, .inl (cy 0, 3, .inl uw))], [(raf, .inl (cy 0, 3, .inl uf))], wF cy ad hh aa pa u]) (n := 4) 3 [0, 1, 2] rfl rfl (by decide)) hP hD hS hA rfl hl.1 rfl (Nat.le_of_ble_eq_true rfl) dL_addsUp_538 ⟨Nat.le_of_ble_eq_true rfl, Nat.le_of_ble_eq_true rfl⟩ (fun r538 H locs h1 hP hS => ?_)
          refine lv_istore (lv' := [(12, .int r538), (14, .int r480), (0, .ref hLn), (2, .int x2), (3, .int x3), (4, .int x4), (5, .int x5), (6, .int x6), (7, .int x7), (8, .int x8), (9, .ref raw), (10, .ref raf), (11, .int x11), (13, .int x13)]) hx hb dL_addsUp_541 hl (by decide) rfl (fun ls hl => ?_)
          refine lv_iinc (v := x4 + (-1)) (lv' := [(4, .int (x4 + (-1))), (12, .int r538), (14, .int r480), (0, .ref hLn), (2, .int x2), (3, .int x3), (5, .int x5), (6, .int x6), (7, .int x7), (8, .int x8), (9, .ref raw), (10, .ref raf), (11, .int x11), (13, .int x13)]) hx hb dL_addsUp_543 hl (k := 5) rfl rfl (by decide) rfl (fun ls hl => ?_)
          refine lv_iinc (v := x13 + 1) (lv' := [(13, .int (x13 + 1)), (4, .int (x4 + (-1))), (12, .int r538), (14, .int r480), (0, .ref hLn), (2, .int x2), (3, .int x3), (5, .int x5), (6, .int x6), (7, .int x7), (8, .int x8), (9, .ref raw), (10, .ref raf), (11, .int x11)]) hx hb dL_addsUp_546 hl (k := 13) rfl rfl (by decide) rfl (fun ls hl => ?_)
          refine lv_goto (tgt := 458) hx hb dL_addsUp_549 (by decide) ?_
          exact hk458 x2 x3 (x4 + (-1)) x5 x6 x7 x8 x11 r538 (x13 + 1) uw uf H locs ls (lv_sub hl [4, 5, 6, 1, 7, 8, 9, 10, 11, 12, 13, 2, 0] rfl) hP hD hS h1
        · replace h1 := Ok.neg c526 h1
          refine lv_iconst (v := 0) hx hb dL_addsUp_529 rfl ?_
          exact kret_dz hx hb hr rfl hlocks hP hD hS h1 dL_addsUp_530
theorem tL_addsUp_l458 {p : Program} {l : Launch} {e : Env} {s : State} {m : MethodId} {args : Array Value} {below : List Frame} {meth : Method} {c : Code} {D : va_G} {cy : Nat → ClassId} {A : Nat → Prop} {hLn : Nat} {lbn : Nat} {raw : Nat} {raf : Nat} {ad : Nat → Nat} {hh : Nat → Nat} {aa : Nat → Nat → Nat} {pa : Nat → Nat} {za zv : Nat → Nat} {Y : YB} (K : Int32 → Prop) (E : mE D cy RL cL_addsUp 17 (some .boolean) wsL_addsUp A p s m args meth c) (hZ : mZ za zv A s s.heap) (hY : mY Y A s s.heap) (un : Int32) (u : FS)
    (k400 : Int32 × Int32 × Int32 × Int32 × Int32 × Int32 × Int32 × Int32 × (Nat → Int32) × (Nat → Int32) → Option (Int32)) (hk400 : ∀ (x2 : Int32) (x3 : Int32) (x4 : Int32) (x5 : Int32) (x6 : Int32) (x7 : Int32) (x8 : Int32) (x11 : Int32) (uw : Nat → Int32) (uf : Nat → Int32) (H : Heap) (locs : List Loc) (ls : Array Slot), lv_has ls 17 [(0, .ref hLn), (2, .int x2), (3, .int x3), (4, .int x4), (5, .int x5), (6, .int x6), (7, .int x7), (8, .int x8), (9, .ref raw), (10, .ref raf), (11, .int x11)] → va_P D kCl (([lwW hLn (ad 0) Y.2.1 lbn un, [(raw, .inl (cy 0, 3, .inl uw))], [(raf, .inl (cy 0, 3, .inl uf))], wF cy ad hh aa pa u] : List va_W).flatten) H → va_D A (([lwW hLn (ad 0) Y.2.1 lbn un, [(raw, .inl (cy 0, 3, .inl uw))], [(raf, .inl (cy 0, 3, .inl uf))], wF cy ad hh aa pa u] : List va_W).flatten) → va_S A s.heap H locs → Ok (k400 (x2, x3, x4, x5, x6, x7, x8, x11, uw, uf)) K → kW2 p l e rmL_addsUp s m args below meth c H locs (va_Qi (fun r (_ : Unit) => K r) (fun _ => kPost D A ([lwW hLn (ad 0) Y.2.1 lbn un, wF cy ad hh aa pa u] : List va_W).flatten) A) A 400 ls []) : ∀ (n9 : Nat) (x2 : Int32) (x3 : Int32) (x4 : Int32) (x5 : Int32) (x6 : Int32) (x7 : Int32) (x8 : Int32) (x11 : Int32) (x12 : Int32) (x13 : Int32) (uw : Nat → Int32) (uf : Nat → Int32) (H : Heap) (locs : List Loc) (ls : Array Slot), lv_has ls 17 [(0, .ref hLn), (2, .int x2), (3, .int x3), (4, .int x4), (5, .int x5), (6, .int x6), (7, .int x7), (8, .int x8), (9, .ref raw), (10, .ref raf), (11, .int x11), (12, .int x12), (13, .int x13)] → va_P D kCl (([lwW hLn (ad 0) Y.2.1 lbn un, [(raw, .inl (cy 0, 3, .inl uw))], [(raf, .inl (cy 0, 3, .inl uf))], wF cy ad hh aa pa u] : List va_W).flatten) H → va_D A (([lwW hLn (ad 0) Y.2.1 lbn un, [(raw, .inl (cy 0, 3, .inl uw))], [(raf, .inl (cy 0, 3, .inl uf))], wF cy ad hh aa pa u] : List va_W).flatten) → va_S A s.heap H locs → Ok (lop (fun y z => fL_addsUp_b458 k400 y z.1 z.2.1 z.2.2.1 z.2.2.2.1 z.2.2.2.2.1 z.2.2.2.2.2.1 z.2.2.2.2.2.2.1 z.2.2.2.2.2.2.2.1 z.2.2.2.2.2.2.2.2.1 z.2.2.2.2.2.2.2.2.2.1 Y un z.2.2.2.2.2.2.2.2.2.2.1 z.2.2.2.2.2.2.2.2.2.2.2 u) n9 (x2, x3, x4, x5, x6, x7, x8, x11, x12, x13, uw, uf)) K → kW2 p l e rmL_addsUp s m args below meth c H locs (va_Qi (fun r (_ : Unit) => K r) (fun _ => kPost D A ([lwW hLn (ad 0) Y.2.1 lbn un, wF cy ad hh aa pa u] : List va_W).flatten) A) A 458 ls [] := by
  intro n9
  induction n9 with
  | zero =>
    intro x2 x3 x4 x5 x6 x7 x8 x11 x12 x13 uw uf H locs ls hl hP hD hS h1
    exact h1.no
  | succ n9 ih =>
    intro x2 x3 x4 x5 x6 x7 x8 x11 x12 x13 uw uf H locs ls hl hP hD hS h1
    exact tL_addsUp_b458 K E hZ hY un u k400 hk400 (lop (fun y z => fL_addsUp_b458 k400 y z.1 z.2.1 z.2.2.1 z.2.2.2.1 z.2.2.2.2.1 z.2.2.2.2.2.1 z.2.2.2.2.2.2.1 z.2.2.2.2.2.2.2.1 z.2.2.2.2.2.2.2.2.1 z.2.2.2.2.2.2.2.2.2.1 Y un z.2.2.2.2.2.2.2.2.2.2.1 z.2.2.2.2.2.2.2.2.2.2.2 u) n9) (fun x2 x3 x4 x5 x6 x7 x8 x11 x12 x13 uw uf H locs ls hl hP hD hS h1 => ih x2 x3 x4 x5 x6 x7 x8 x11 x12 x13 uw uf H locs ls hl hP hD hS h1) x2 x3 x4 x5 x6 x7 x8 x11 x12 x13 uw uf H locs ls hl hP hD hS h1
def fL_addsUp_b400 (k400 : Int32 × Int32 × Int32 × Int32 × Int32 × Int32 × Int32 × Int32 × (Nat → Int32) × (Nat → Int32) → Option (Int32)) (x2 : Int32) (x3 : Int32) (x4 : Int32) (x5 : Int32) (x6 : Int32) (x7 : Int32) (x8 : Int32) (x11 : Int32) (Y : YB) (un : Int32) (uw : Nat → Int32) (uf : Nat → Int32) (u : FS) : Option (Int32) :=
  (if 3 ≤ x11 then lop (fun y z => fL_addsUp_b561 y z.1 z.2.1 z.2.2.1 z.2.2.2.1 z.2.2.2.2.1 z.2.2.2.2.2.1 z.2.2.2.2.2.2.1 z.2.2.2.2.2.2.2.1 Y un z.2.2.2.2.2.2.2.2.1 z.2.2.2.2.2.2.2.2.2 u) LF (x2, x3, x4, x5, x6, x7, x8, 0, uw, uf) else bnd (fL_lane x11 0 u) (fun r413 => grd (inb x11 3) ((if r413 = (uw (ix x11)) then bnd (fL_lane x11 1 u) (fun r431 => grd (inb x11 3) ((if r431 = (uf (ix x11)) then grd (inb x11 3) ((if 0 ≤ (uf (ix x11)) then lop (fun y z => fL_addsUp_b458 k400 y z.1 z.2.1 z.2.2.1 z.2.2.2.1 z.2.2.2.2.1 z.2.2.2.2.2.1 z.2.2.2.2.2.2.1 z.2.2.2.2.2.2.2.1 z.2.2.2.2.2.2.2.2.1 z.2.2.2.2.2.2.2.2.2.1 Y un z.2.2.2.2.2.2.2.2.2.2.1 z.2.2.2.2.2.2.2.2.2.2.2 u) LF (x2, x3, x4, x5, x6, x7, x8, x11, (-1), 0, uw, uf) else some 0)) else some 0))) else some 0))))
set_option maxHeartbeats 4000000 in
set_option maxRecDepth 100000 in
theorem tL_addsUp_b400 {p : Program} {l : Launch} {e : Env} {s : State} {m : MethodId} {args : Array Value} {below : List Frame} {meth : Method} {c : Code} {D : va_G} {cy : Nat → ClassId} {A : Nat → Prop} {hLn : Nat} {lbn : Nat} {raw : Nat} {raf : Nat} {ad : Nat → Nat} {hh : Nat → Nat} {aa : Nat → Nat → Nat} {pa : Nat → Nat} {za zv : Nat → Nat} {Y : YB} (K : Int32 → Prop) (E : mE D cy RL cL_addsUp 17 (some .boolean) wsL_addsUp A p s m args meth c) (hZ : mZ za zv A s s.heap) (hY : mY Y A s s.heap) (un : Int32) (u : FS)
    (k400 : Int32 × Int32 × Int32 × Int32 × Int32 × Int32 × Int32 × Int32 × (Nat → Int32) × (Nat → Int32) → Option (Int32)) (hk400 : ∀ (x2 : Int32) (x3 : Int32) (x4 : Int32) (x5 : Int32) (x6 : Int32) (x7 : Int32) (x8 : Int32) (x11 : Int32) (uw : Nat → Int32) (uf : Nat → Int32) (H : Heap) (locs : List Loc) (ls : Array Slot), lv_has ls 17 [(0, .ref hLn), (2, .int x2), (3, .int x3), (4, .int x4), (5, .int x5), (6, .int x6), (7, .int x7), (8, .int x8), (9, .ref raw), (10, .ref raf), (11, .int x11)] → va_P D kCl (([lwW hLn (ad 0) Y.2.1 lbn un, [(raw, .inl (cy 0, 3, .inl uw))], [(raf, .inl (cy 0, 3, .inl uf))], wF cy ad hh aa pa u] : List va_W).flatten) H → va_D A (([lwW hLn (ad 0) Y.2.1 lbn un, [(raw, .inl (cy 0, 3, .inl uw))], [(raf, .inl (cy 0, 3, .inl uf))], wF cy ad hh aa pa u] : List va_W).flatten) → va_S A s.heap H locs → Ok (k400 (x2, x3, x4, x5, x6, x7, x8, x11, uw, uf)) K → kW2 p l e rmL_addsUp s m args below meth c H locs (va_Qi (fun r (_ : Unit) => K r) (fun _ => kPost D A ([lwW hLn (ad 0) Y.2.1 lbn un, wF cy ad hh aa pa u] : List va_W).flatten) A) A 400 ls [])
     (x2 : Int32) (x3 : Int32) (x4 : Int32) (x5 : Int32) (x6 : Int32) (x7 : Int32) (x8 : Int32) (x11 : Int32) (uw : Nat → Int32) (uf : Nat → Int32) (H : Heap) (locs : List Loc) (ls : Array Slot) (hl : lv_has ls 17 [(0, .ref hLn), (2, .int x2), (3, .int x3), (4, .int x4), (5, .int x5), (6, .int x6), (7, .int x7), (8, .int x8), (9, .ref raw), (10, .ref raf), (11, .int x11)]) (hP : va_P D kCl (([lwW hLn (ad 0) Y.2.1 lbn un, [(raw, .inl (cy 0, 3, .inl uw))], [(raf, .inl (cy 0, 3, .inl uf))], wF cy ad hh aa pa u] : List va_W).flatten) H) (hD : va_D A (([lwW hLn (ad 0) Y.2.1 lbn un, [(raw, .inl (cy 0, 3, .inl uw))], [(raf, .inl (cy 0, 3, .inl uf))], wF cy ad hh aa pa u] : List va_W).flatten)) (hS : va_S A s.heap H locs) (h1 : Ok (fL_addsUp_b400 k400 x2 x3 x4 x5 x6 x7 x8 x11 Y un uw uf u) K) :
    kW2 p l e rmL_addsUp s m args below meth c H locs (va_Qi (fun r (_ : Unit) => K r) (fun _ => kPost D A ([lwW hLn (ad 0) Y.2.1 lbn un, wF cy ad hh aa pa u] : List va_W).flatten) A) A 400 ls [] := by
  obtain ⟨hx, hb, hr, hml, hown, hts, hlocks, hK, hA⟩ := id E
  unfold fL_addsUp_b400 at h1
  refine lv_iload hx hb dL_addsUp_400 (lv_at hl 10 rfl) ?_
  refine lv_iconst (v := 3) hx hb dL_addsUp_402 rfl ?_
  refine lv_icmp_ge (tgt := 558) hx hb dL_addsUp_403 (by decide) (fun c403 => ?_) (fun c403 => ?_)
  · replace h1 := Ok.pos c403 h1
    refine lv_iconst (v := 0) hx hb dL_addsUp_558 rfl ?_
    refine lv_istore (lv' := [(11, .int 0), (0, .ref hLn), (2, .int x2), (3, .int x3), (4, .int x4), (5, .int x5), (6, .int x6), (7, .int x7), (8, .int x8), (9, .ref raw), (10, .ref raf)]) hx hb dL_addsUp_559 hl (by decide) rfl (fun ls hl => ?_)
    exact tL_addsUp_l561 K E hZ hY un u LF x2 x3 x4 x5 x6 x7 x8 0 uw uf H locs ls (lv_sub hl [1, 2, 3, 4, 5, 6, 7, 8, 9, 0] rfl) hP hD hS h1
  · replace h1 := Ok.neg c403 h1
    refine lv_aload_n hx hb dL_addsUp_406 rfl (lv_at hl 0 rfl) ?_
    refine k_get (v := .ref (ad 0)) (C := RL) (T := TL) (N := 4) hx hb hts inL_addsUp_L hown hK hP 0 rfl rfl 0 (by decide) lkL_addsUp_10 rfl dL_addsUp_407 ?_
    refine lv_iload hx hb dL_addsUp_410 (lv_at hl 10 rfl) ?_
    refine lv_iconst (v := 0) hx hb dL_addsUp_412 rfl ?_
    refine kh_rS (As := [.ref (ad 0), .int x11, .int 0]) (rest := []) h1 ⟨hx, hb, hml, hown, hts⟩ (cL_laneM l D cy ad hh aa pa H.size u x11 0) (vx_cwSW 3 hts gL_addsUp_L_lane rfl rfl rfl heL_lane ⟨Nat.le_of_ble_eq_true rfl, Nat.le_of_ble_eq_true rfl⟩) hK (k_sel1 (l := [lwW hLn (ad 0) Y.2.1 lbn un, [(raw, .inl (cy 0, 3, .inl uw))], [(raf, .inl (cy 0, 3, .inl uf))], wF cy ad hh aa pa u]) (n := 4) 3 [0, 1, 2] rfl rfl (by decide)) hP hD hS hA rfl hl.1 rfl (Nat.le_of_ble_eq_true rfl) dL_addsUp_413 ⟨Nat.le_of_ble_eq_true rfl, Nat.le_of_ble_eq_true rfl⟩ (fun r413 H locs h1 hP hS => ?_)
    refine lv_aload hx hb dL_addsUp_416 (lv_at hl 8 rfl) ?_
    refine lv_iload hx hb dL_addsUp_418 (lv_at hl 10 rfl) ?_
    have g420 := h1.grd1
    replace h1 := h1.grd2
    refine k_iald (k := (ix x11)) hx hb hK hP 1 rfl g420 rfl dL_addsUp_420 ?_
    refine lv_icmp_ne (tgt := 450) hx hb dL_addsUp_421 (by decide) (fun c421 => ?_) (fun c421 => ?_)
    · replace h1 := Ok.neg c421 h1
      refine lv_iconst (v := 0) hx hb dL_addsUp_450 rfl ?_
      exact kret_dz hx hb hr rfl hlocks hP hD hS h1 dL_addsUp_451
    · replace h1 := Ok.pos c421 h1
      refine lv_aload_n hx hb dL_addsUp_424 rfl (lv_at hl 0 rfl) ?_
      refine k_get (v := .ref (ad 0)) (C := RL) (T := TL) (N := 4) hx hb hts inL_addsUp_L hown hK hP 0 rfl rfl 0 (by decide) lkL_addsUp_10 rfl dL_addsUp_425 ?_
      refine lv_iload hx hb dL_addsUp_428 (lv_at hl 10 rfl) ?_
      refine lv_iconst (v := 1) hx hb dL_addsUp_430 rfl ?_
      refine kh_rS (As := [.ref (ad 0), .int x11, .int 1]) (rest := []) h1 ⟨hx, hb, hml, hown, hts⟩ (cL_laneM l D cy ad hh aa pa H.size u x11 1) (vx_cwSW 3 hts gL_addsUp_L_lane rfl rfl rfl heL_lane ⟨Nat.le_of_ble_eq_true rfl, Nat.le_of_ble_eq_true rfl⟩) hK (k_sel1 (l := [lwW hLn (ad 0) Y.2.1 lbn un, [(raw, .inl (cy 0, 3, .inl uw))], [(raf, .inl (cy 0, 3, .inl uf))], wF cy ad hh aa pa u]) (n := 4) 3 [0, 1, 2] rfl rfl (by decide)) hP hD hS hA rfl hl.1 rfl (Nat.le_of_ble_eq_true rfl) dL_addsUp_431 ⟨Nat.le_of_ble_eq_true rfl, Nat.le_of_ble_eq_true rfl⟩ (fun r431 H locs h1 hP hS => ?_)
      refine lv_aload hx hb dL_addsUp_434 (lv_at hl 9 rfl) ?_
      refine lv_iload hx hb dL_addsUp_436 (lv_at hl 10 rfl) ?_
      have g438 := h1.grd1
      replace h1 := h1.grd2
      refine k_iald (k := (ix x11)) hx hb hK hP 2 rfl g438 rfl dL_addsUp_438 ?_
      refine lv_icmp_ne (tgt := 450) hx hb dL_addsUp_439 (by decide) (fun c439 => ?_) (fun c439 => ?_)
      · replace h1 := Ok.neg c439 h1
        refine lv_iconst (v := 0) hx hb dL_addsUp_450 rfl ?_
        exact kret_dz hx hb hr rfl hlocks hP hD hS h1 dL_addsUp_451
      · replace h1 := Ok.pos c439 h1
        refine lv_aload hx hb dL_addsUp_442 (lv_at hl 9 rfl) ?_
        refine lv_iload hx hb dL_addsUp_444 (lv_at hl 10 rfl) ?_
        have g446 := h1.grd1
        replace h1 := h1.grd2
        refine k_iald (k := (ix x11)) hx hb hK hP 2 rfl g446 rfl dL_addsUp_446 ?_
        refine lv_if_ge (tgt := 452) hx hb dL_addsUp_447 (by decide) (fun c447 => ?_) (fun c447 => ?_)
        · replace h1 := Ok.pos c447 h1
          refine lv_iconst (v := (-1)) hx hb dL_addsUp_452 rfl ?_
          refine lv_istore (lv' := [(12, .int (-1)), (0, .ref hLn), (2, .int x2), (3, .int x3), (4, .int x4), (5, .int x5), (6, .int x6), (7, .int x7), (8, .int x8), (9, .ref raw), (10, .ref raf), (11, .int x11)]) hx hb dL_addsUp_453 hl (by decide) rfl (fun ls hl => ?_)
          refine lv_iconst (v := 0) hx hb dL_addsUp_455 rfl ?_
          refine lv_istore (lv' := [(13, .int 0), (12, .int (-1)), (0, .ref hLn), (2, .int x2), (3, .int x3), (4, .int x4), (5, .int x5), (6, .int x6), (7, .int x7), (8, .int x8), (9, .ref raw), (10, .ref raf), (11, .int x11)]) hx hb dL_addsUp_456 hl (by decide) rfl (fun ls hl => ?_)
          exact tL_addsUp_l458 K E hZ hY un u k400 hk400 LF x2 x3 x4 x5 x6 x7 x8 x11 (-1) 0 uw uf H locs ls (lv_sub hl [2, 3, 4, 5, 6, 7, 8, 9, 10, 11, 12, 1, 0] rfl) hP hD hS h1
        · replace h1 := Ok.neg c447 h1
          refine lv_iconst (v := 0) hx hb dL_addsUp_450 rfl ?_
          exact kret_dz hx hb hr rfl hlocks hP hD hS h1 dL_addsUp_451
theorem tL_addsUp_l400 {p : Program} {l : Launch} {e : Env} {s : State} {m : MethodId} {args : Array Value} {below : List Frame} {meth : Method} {c : Code} {D : va_G} {cy : Nat → ClassId} {A : Nat → Prop} {hLn : Nat} {lbn : Nat} {raw : Nat} {raf : Nat} {ad : Nat → Nat} {hh : Nat → Nat} {aa : Nat → Nat → Nat} {pa : Nat → Nat} {za zv : Nat → Nat} {Y : YB} (K : Int32 → Prop) (E : mE D cy RL cL_addsUp 17 (some .boolean) wsL_addsUp A p s m args meth c) (hZ : mZ za zv A s s.heap) (hY : mY Y A s s.heap) (un : Int32) (u : FS) : ∀ (n9 : Nat) (x2 : Int32) (x3 : Int32) (x4 : Int32) (x5 : Int32) (x6 : Int32) (x7 : Int32) (x8 : Int32) (x11 : Int32) (uw : Nat → Int32) (uf : Nat → Int32) (H : Heap) (locs : List Loc) (ls : Array Slot), lv_has ls 17 [(0, .ref hLn), (2, .int x2), (3, .int x3), (4, .int x4), (5, .int x5), (6, .int x6), (7, .int x7), (8, .int x8), (9, .ref raw), (10, .ref raf), (11, .int x11)] → va_P D kCl (([lwW hLn (ad 0) Y.2.1 lbn un, [(raw, .inl (cy 0, 3, .inl uw))], [(raf, .inl (cy 0, 3, .inl uf))], wF cy ad hh aa pa u] : List va_W).flatten) H → va_D A (([lwW hLn (ad 0) Y.2.1 lbn un, [(raw, .inl (cy 0, 3, .inl uw))], [(raf, .inl (cy 0, 3, .inl uf))], wF cy ad hh aa pa u] : List va_W).flatten) → va_S A s.heap H locs → Ok (lop (fun y z => fL_addsUp_b400 y z.1 z.2.1 z.2.2.1 z.2.2.2.1 z.2.2.2.2.1 z.2.2.2.2.2.1 z.2.2.2.2.2.2.1 z.2.2.2.2.2.2.2.1 Y un z.2.2.2.2.2.2.2.2.1 z.2.2.2.2.2.2.2.2.2 u) n9 (x2, x3, x4, x5, x6, x7, x8, x11, uw, uf)) K → kW2 p l e rmL_addsUp s m args below meth c H locs (va_Qi (fun r (_ : Unit) => K r) (fun _ => kPost D A ([lwW hLn (ad 0) Y.2.1 lbn un, wF cy ad hh aa pa u] : List va_W).flatten) A) A 400 ls [] := by
  intro n9
  induction n9 with
  | zero =>
    intro x2 x3 x4 x5 x6 x7 x8 x11 uw uf H locs ls hl hP hD hS h1
    exact h1.no
  | succ n9 ih =>
    intro x2 x3 x4 x5 x6 x7 x8 x11 uw uf H locs ls hl hP hD hS h1
    exact tL_addsUp_b400 K E hZ hY un u (lop (fun y z => fL_addsUp_b400 y z.1 z.2.1 z.2.2.1 z.2.2.2.1 z.2.2.2.2.1 z.2.2.2.2.2.1 z.2.2.2.2.2.2.1 z.2.2.2.2.2.2.2.1 Y un z.2.2.2.2.2.2.2.2.1 z.2.2.2.2.2.2.2.2.2 u) n9) (fun x2 x3 x4 x5 x6 x7 x8 x11 uw uf H locs ls hl hP hD hS h1 => ih x2 x3 x4 x5 x6 x7 x8 x11 uw uf H locs ls hl hP hD hS h1) x2 x3 x4 x5 x6 x7 x8 x11 uw uf H locs ls hl hP hD hS h1
def fL_addsUp_b391 (k77 : Int32 × Int32 × Int32 × Int32 × Int32 × Int32 × Int32 × Int32 × Int32 × (Nat → Int32) × (Nat → Int32) → Option (Int32)) (x1 : Int32) (x2 : Int32) (x3 : Int32) (x4 : Int32) (x5 : Int32) (x6 : Int32) (x7 : Int32) (x8 : Int32) (x11 : Int32) (Y : YB) (un : Int32) (uw : Nat → Int32) (uf : Nat → Int32) (u : FS) : Option (Int32) :=
  k77 (x1, x2, x3, x4, x5, x6, x7, x8, x11 + 1, uw, uf)
set_option maxHeartbeats 4000000 in
set_option maxRecDepth 100000 in
theorem tL_addsUp_b391 {p : Program} {l : Launch} {e : Env} {s : State} {m : MethodId} {args : Array Value} {below : List Frame} {meth : Method} {c : Code} {D : va_G} {cy : Nat → ClassId} {A : Nat → Prop} {hLn : Nat} {lbn : Nat} {raw : Nat} {raf : Nat} {ad : Nat → Nat} {hh : Nat → Nat} {aa : Nat → Nat → Nat} {pa : Nat → Nat} {za zv : Nat → Nat} {Y : YB} (K : Int32 → Prop) (E : mE D cy RL cL_addsUp 17 (some .boolean) wsL_addsUp A p s m args meth c) (hZ : mZ za zv A s s.heap) (hY : mY Y A s s.heap) (un : Int32) (u : FS)
    (k77 : Int32 × Int32 × Int32 × Int32 × Int32 × Int32 × Int32 × Int32 × Int32 × (Nat → Int32) × (Nat → Int32) → Option (Int32)) (hk77 : ∀ (x1 : Int32) (x2 : Int32) (x3 : Int32) (x4 : Int32) (x5 : Int32) (x6 : Int32) (x7 : Int32) (x8 : Int32) (x11 : Int32) (uw : Nat → Int32) (uf : Nat → Int32) (H : Heap) (locs : List Loc) (ls : Array Slot), lv_has ls 17 [(0, .ref hLn), (1, .int x1), (2, .int x2), (3, .int x3), (4, .int x4), (5, .int x5), (6, .int x6), (7, .int x7), (8, .int x8), (9, .ref raw), (10, .ref raf), (11, .int x11)] → va_P D kCl (([lwW hLn (ad 0) Y.2.1 lbn un, [(raw, .inl (cy 0, 3, .inl uw))], [(raf, .inl (cy 0, 3, .inl uf))], wF cy ad hh aa pa u] : List va_W).flatten) H → va_D A (([lwW hLn (ad 0) Y.2.1 lbn un, [(raw, .inl (cy 0, 3, .inl uw))], [(raf, .inl (cy 0, 3, .inl uf))], wF cy ad hh aa pa u] : List va_W).flatten) → va_S A s.heap H locs → Ok (k77 (x1, x2, x3, x4, x5, x6, x7, x8, x11, uw, uf)) K → kW2 p l e rmL_addsUp s m args below meth c H locs (va_Qi (fun r (_ : Unit) => K r) (fun _ => kPost D A ([lwW hLn (ad 0) Y.2.1 lbn un, wF cy ad hh aa pa u] : List va_W).flatten) A) A 77 ls [])
     (x1 : Int32) (x2 : Int32) (x3 : Int32) (x4 : Int32) (x5 : Int32) (x6 : Int32) (x7 : Int32) (x8 : Int32) (x11 : Int32) (uw : Nat → Int32) (uf : Nat → Int32) (H : Heap) (locs : List Loc) (ls : Array Slot) (hl : lv_has ls 17 [(0, .ref hLn), (1, .int x1), (2, .int x2), (3, .int x3), (4, .int x4), (5, .int x5), (6, .int x6), (7, .int x7), (8, .int x8), (9, .ref raw), (10, .ref raf), (11, .int x11)]) (hP : va_P D kCl (([lwW hLn (ad 0) Y.2.1 lbn un, [(raw, .inl (cy 0, 3, .inl uw))], [(raf, .inl (cy 0, 3, .inl uf))], wF cy ad hh aa pa u] : List va_W).flatten) H) (hD : va_D A (([lwW hLn (ad 0) Y.2.1 lbn un, [(raw, .inl (cy 0, 3, .inl uw))], [(raf, .inl (cy 0, 3, .inl uf))], wF cy ad hh aa pa u] : List va_W).flatten)) (hS : va_S A s.heap H locs) (h1 : Ok (fL_addsUp_b391 k77 x1 x2 x3 x4 x5 x6 x7 x8 x11 Y un uw uf u) K) :
    kW2 p l e rmL_addsUp s m args below meth c H locs (va_Qi (fun r (_ : Unit) => K r) (fun _ => kPost D A ([lwW hLn (ad 0) Y.2.1 lbn un, wF cy ad hh aa pa u] : List va_W).flatten) A) A 391 ls [] := by
  obtain ⟨hx, hb, hr, hml, hown, hts, hlocks, hK, hA⟩ := id E
  unfold fL_addsUp_b391 at h1
  refine lv_iinc (v := x11 + 1) (lv' := [(11, .int (x11 + 1)), (0, .ref hLn), (1, .int x1), (2, .int x2), (3, .int x3), (4, .int x4), (5, .int x5), (6, .int x6), (7, .int x7), (8, .int x8), (9, .ref raw), (10, .ref raf)]) hx hb dL_addsUp_391 hl (k := 11) rfl rfl (by decide) rfl (fun ls hl => ?_)
  refine lv_goto (tgt := 77) hx hb dL_addsUp_394 (by decide) ?_
  exact hk77 x1 x2 x3 x4 x5 x6 x7 x8 (x11 + 1) uw uf H locs ls (lv_sub hl [1, 2, 3, 4, 5, 6, 7, 8, 9, 10, 11, 0] rfl) hP hD hS h1
def fL_addsUp_b355 (k77 : Int32 × Int32 × Int32 × Int32 × Int32 × Int32 × Int32 × Int32 × Int32 × (Nat → Int32) × (Nat → Int32) → Option (Int32)) (x1 : Int32) (x2 : Int32) (x3 : Int32) (x4 : Int32) (x5 : Int32) (x6 : Int32) (x7 : Int32) (x8 : Int32) (x11 : Int32) (x13 : Int32) (x14 : Int32) (Y : YB) (un : Int32) (uw : Nat → Int32) (uf : Nat → Int32) (u : FS) : Option (Int32) :=
  grd (inb x14 3) (grd (inb x14 3) (grd (inb x14 3) (bnd (fL_car x11 0 u) (fun r382 => bnd (fL_kind r382 2 u) (fun r386 => grd (inb x14 3) (fL_addsUp_b391 k77 x1 x2 x3 x4 x5 x6 x7 x8 x11 Y un (upd uw (ix x14) ((uw (ix x14)) + x13)) (upd uf (ix x14) ((uf (ix x14)) - r386)) u))))))
set_option maxHeartbeats 4000000 in
set_option maxRecDepth 100000 in
theorem tL_addsUp_b355 {p : Program} {l : Launch} {e : Env} {s : State} {m : MethodId} {args : Array Value} {below : List Frame} {meth : Method} {c : Code} {D : va_G} {cy : Nat → ClassId} {A : Nat → Prop} {hLn : Nat} {lbn : Nat} {raw : Nat} {raf : Nat} {ad : Nat → Nat} {hh : Nat → Nat} {aa : Nat → Nat → Nat} {pa : Nat → Nat} {za zv : Nat → Nat} {Y : YB} (K : Int32 → Prop) (E : mE D cy RL cL_addsUp 17 (some .boolean) wsL_addsUp A p s m args meth c) (hZ : mZ za zv A s s.heap) (hY : mY Y A s s.heap) (un : Int32) (u : FS)
    (k77 : Int32 × Int32 × Int32 × Int32 × Int32 × Int32 × Int32 × Int32 × Int32 × (Nat → Int32) × (Nat → Int32) → Option (Int32)) (hk77 : ∀ (x1 : Int32) (x2 : Int32) (x3 : Int32) (x4 : Int32) (x5 : Int32) (x6 : Int32) (x7 : Int32) (x8 : Int32) (x11 : Int32) (uw : Nat → Int32) (uf : Nat → Int32) (H : Heap) (locs : List Loc) (ls : Array Slot), lv_has ls 17 [(0, .ref hLn), (1, .int x1), (2, .int x2), (3, .int x3), (4, .int x4), (5, .int x5), (6, .int x6), (7, .int x7), (8, .int x8), (9, .ref raw), (10, .ref raf), (11, .int x11)] → va_P D kCl (([lwW hLn (ad 0) Y.2.1 lbn un, [(raw, .inl (cy 0, 3, .inl uw))], [(raf, .inl (cy 0, 3, .inl uf))], wF cy ad hh aa pa u] : List va_W).flatten) H → va_D A (([lwW hLn (ad 0) Y.2.1 lbn un, [(raw, .inl (cy 0, 3, .inl uw))], [(raf, .inl (cy 0, 3, .inl uf))], wF cy ad hh aa pa u] : List va_W).flatten) → va_S A s.heap H locs → Ok (k77 (x1, x2, x3, x4, x5, x6, x7, x8, x11, uw, uf)) K → kW2 p l e rmL_addsUp s m args below meth c H locs (va_Qi (fun r (_ : Unit) => K r) (fun _ => kPost D A ([lwW hLn (ad 0) Y.2.1 lbn un, wF cy ad hh aa pa u] : List va_W).flatten) A) A 77 ls [])
     (x1 : Int32) (x2 : Int32) (x3 : Int32) (x4 : Int32) (x5 : Int32) (x6 : Int32) (x7 : Int32) (x8 : Int32) (x11 : Int32) (x13 : Int32) (x14 : Int32) (uw : Nat → Int32) (uf : Nat → Int32) (H : Heap) (locs : List Loc) (ls : Array Slot) (hl : lv_has ls 17 [(0, .ref hLn), (1, .int x1), (2, .int x2), (3, .int x3), (4, .int x4), (5, .int x5), (6, .int x6), (7, .int x7), (8, .int x8), (9, .ref raw), (10, .ref raf), (11, .int x11), (13, .int x13), (14, .int x14)]) (hP : va_P D kCl (([lwW hLn (ad 0) Y.2.1 lbn un, [(raw, .inl (cy 0, 3, .inl uw))], [(raf, .inl (cy 0, 3, .inl uf))], wF cy ad hh aa pa u] : List va_W).flatten) H) (hD : va_D A (([lwW hLn (ad 0) Y.2.1 lbn un, [(raw, .inl (cy 0, 3, .inl uw))], [(raf, .inl (cy 0, 3, .inl uf))], wF cy ad hh aa pa u] : List va_W).flatten)) (hS : va_S A s.heap H locs) (h1 : Ok (fL_addsUp_b355 k77 x1 x2 x3 x4 x5 x6 x7 x8 x11 x13 x14 Y un uw uf u) K) :
    kW2 p l e rmL_addsUp s m args below meth c H locs (va_Qi (fun r (_ : Unit) => K r) (fun _ => kPost D A ([lwW hLn (ad 0) Y.2.1 lbn un, wF cy ad hh aa pa u] : List va_W).flatten) A) A 355 ls [] := by
  obtain ⟨hx, hb, hr, hml, hown, hts, hlocks, hK, hA⟩ := id E
  unfold fL_addsUp_b355 at h1
  refine lv_aload hx hb dL_addsUp_355 (lv_at hl 9 rfl) ?_
  refine lv_iload hx hb dL_addsUp_357 (lv_at hl 13 rfl) ?_
  refine lv_dup2_11 hx hb dL_addsUp_359 rfl rfl ?_
  have g360 := h1.grd1
  replace h1 := h1.grd2
  refine k_iald (k := (ix x14)) hx hb hK hP 1 rfl g360 rfl dL_addsUp_360 ?_
  refine lv_iload hx hb dL_addsUp_361 (lv_at hl 12 rfl) ?_
  refine lv_iadd hx hb dL_addsUp_363 ?_
  have g364 := h1.grd1
  replace h1 := h1.grd2
  refine k_iast (k := (ix x14)) (ws' := ([lwW hLn (ad 0) Y.2.1 lbn un, [(raw, .inl (cy 0, 3, .inl (upd uw (ix x14) ((uw (ix x14)) + x13))))], [(raf, .inl (cy 0, 3, .inl uf))], wF cy ad hh aa pa u] : List va_W).flatten) hx hb hK hP hD hS 1 rfl g364 rfl rfl dL_addsUp_364 (fun H locs hP hD hS => ?_)
  refine lv_aload hx hb dL_addsUp_365 (lv_at hl 10 rfl) ?_
  refine lv_iload hx hb dL_addsUp_367 (lv_at hl 13 rfl) ?_
  refine lv_dup2_11 hx hb dL_addsUp_369 rfl rfl ?_
  have g370 := h1.grd1
  replace h1 := h1.grd2
  refine k_iald (k := (ix x14)) hx hb hK hP 2 rfl g370 rfl dL_addsUp_370 ?_
  refine lv_aload_n hx hb dL_addsUp_371 rfl (lv_at hl 0 rfl) ?_
  refine k_get (v := .ref (ad 0)) (C := RL) (T := TL) (N := 4) hx hb hts inL_addsUp_L hown hK hP 0 rfl rfl 0 (by decide) lkL_addsUp_10 rfl dL_addsUp_372 ?_
  refine lv_aload_n hx hb dL_addsUp_375 rfl (lv_at hl 0 rfl) ?_
  refine k_get (v := .ref (ad 0)) (C := RL) (T := TL) (N := 4) hx hb hts inL_addsUp_L hown hK hP 0 rfl rfl 0 (by decide) lkL_addsUp_10 rfl dL_addsUp_376 ?_
  refine lv_iload hx hb dL_addsUp_379 (lv_at hl 11 rfl) ?_
  refine lv_iconst (v := 0) hx hb dL_addsUp_381 rfl ?_
  refine kh_rS (As := [.ref (ad 0), .int x11, .int 0]) (rest := [.ref (ad 0), .int (uf (ix x14)), .int x14, .ref raf]) h1 ⟨hx, hb, hml, hown, hts⟩ (cL_carM l D cy ad hh aa pa H.size u x11 0) (vx_cwSW 3 hts gL_addsUp_L_car rfl rfl rfl heL_car ⟨Nat.le_of_ble_eq_true rfl, Nat.le_of_ble_eq_true rfl⟩) hK (k_sel1 (l := [lwW hLn (ad 0) Y.2.1 lbn un, [(raw, .inl (cy 0, 3, .inl (upd uw (ix x14) ((uw (ix x14)) + x13))))], [(raf, .inl (cy 0, 3, .inl uf))], wF cy ad hh aa pa u]) (n := 4) 3 [0, 1, 2] rfl rfl (by decide)) hP hD hS hA rfl hl.1 rfl (Nat.le_of_ble_eq_true rfl) dL_addsUp_382 ⟨Nat.le_of_ble_eq_true rfl, Nat.le_of_ble_eq_true rfl⟩ (fun r382 H locs h1 hP hS => ?_)
  refine lv_iconst (v := 2) hx hb dL_addsUp_385 rfl ?_
  refine kh_rS (As := [.ref (ad 0), .int r382, .int 2]) (rest := [.int (uf (ix x14)), .int x14, .ref raf]) h1 ⟨hx, hb, hml, hown, hts⟩ (cL_kindM l D cy ad hh aa pa H.size u r382 2) (vx_cwSW 3 hts gL_addsUp_L_kind rfl rfl rfl heL_kind ⟨Nat.le_of_ble_eq_true rfl, Nat.le_of_ble_eq_true rfl⟩) hK (k_sel1 (l := [lwW hLn (ad 0) Y.2.1 lbn un, [(raw, .inl (cy 0, 3, .inl (upd uw (ix x14) ((uw (ix x14)) + x13))))], [(raf, .inl (cy 0, 3, .inl uf))], wF cy ad hh aa pa u]) (n := 4) 3 [0, 1, 2] rfl rfl (by decide)) hP hD hS hA rfl hl.1 rfl (Nat.le_of_ble_eq_true rfl) dL_addsUp_386 ⟨Nat.le_of_ble_eq_true rfl, Nat.le_of_ble_eq_true rfl⟩ (fun r386 H locs h1 hP hS => ?_)
  refine lv_isub hx hb dL_addsUp_389 ?_
  have g390 := h1.grd1
  replace h1 := h1.grd2
  refine k_iast (k := (ix x14)) (ws' := ([lwW hLn (ad 0) Y.2.1 lbn un, [(raw, .inl (cy 0, 3, .inl (upd uw (ix x14) ((uw (ix x14)) + x13))))], [(raf, .inl (cy 0, 3, .inl (upd uf (ix x14) ((uf (ix x14)) - r386))))], wF cy ad hh aa pa u] : List va_W).flatten) hx hb hK hP hD hS 2 rfl g390 rfl rfl dL_addsUp_390 (fun H locs hP hD hS => ?_)
  exact tL_addsUp_b391 K E hZ hY un u k77 hk77 x1 x2 x3 x4 x5 x6 x7 x8 x11 (upd uw (ix x14) ((uw (ix x14)) + x13)) (upd uf (ix x14) ((uf (ix x14)) - r386)) H locs ls (lv_sub hl [0, 1, 2, 3, 4, 5, 6, 7, 8, 9, 10, 11] rfl) hP hD hS h1
def fL_addsUp_b340 (k77 : Int32 × Int32 × Int32 × Int32 × Int32 × Int32 × Int32 × Int32 × Int32 × (Nat → Int32) × (Nat → Int32) → Option (Int32)) (x1 : Int32) (x2 : Int32) (x3 : Int32) (x4 : Int32) (x5 : Int32) (x6 : Int32) (x7 : Int32) (x8 : Int32) (x11 : Int32) (x12 : Int32) (x13 : Int32) (x14 : Int32) (Y : YB) (un : Int32) (uw : Nat → Int32) (uf : Nat → Int32) (u : FS) : Option (Int32) :=
  (if x12 = 1 then fL_addsUp_b355 k77 x1 x2 x3 x4 x5 x6 x7 x8 x11 x13 x14 Y un uw uf u else (if x12 = 2 then fL_addsUp_b355 k77 x1 x2 x3 x4 x5 x6 x7 x8 x11 x13 x14 Y un uw uf u else fL_addsUp_b391 k77 x1 x2 x3 x4 x5 x6 x7 x8 x11 Y un uw uf u))
set_option maxHeartbeats 4000000 in
set_option maxRecDepth 100000 in
theorem tL_addsUp_b340 {p : Program} {l : Launch} {e : Env} {s : State} {m : MethodId} {args : Array Value} {below : List Frame} {meth : Method} {c : Code} {D : va_G} {cy : Nat → ClassId} {A : Nat → Prop} {hLn : Nat} {lbn : Nat} {raw : Nat} {raf : Nat} {ad : Nat → Nat} {hh : Nat → Nat} {aa : Nat → Nat → Nat} {pa : Nat → Nat} {za zv : Nat → Nat} {Y : YB} (K : Int32 → Prop) (E : mE D cy RL cL_addsUp 17 (some .boolean) wsL_addsUp A p s m args meth c) (hZ : mZ za zv A s s.heap) (hY : mY Y A s s.heap) (un : Int32) (u : FS)
    (k77 : Int32 × Int32 × Int32 × Int32 × Int32 × Int32 × Int32 × Int32 × Int32 × (Nat → Int32) × (Nat → Int32) → Option (Int32)) (hk77 : ∀ (x1 : Int32) (x2 : Int32) (x3 : Int32) (x4 : Int32) (x5 : Int32) (x6 : Int32) (x7 : Int32) (x8 : Int32) (x11 : Int32) (uw : Nat → Int32) (uf : Nat → Int32) (H : Heap) (locs : List Loc) (ls : Array Slot), lv_has ls 17 [(0, .ref hLn), (1, .int x1), (2, .int x2), (3, .int x3), (4, .int x4), (5, .int x5), (6, .int x6), (7, .int x7), (8, .int x8), (9, .ref raw), (10, .ref raf), (11, .int x11)] → va_P D kCl (([lwW hLn (ad 0) Y.2.1 lbn un, [(raw, .inl (cy 0, 3, .inl uw))], [(raf, .inl (cy 0, 3, .inl uf))], wF cy ad hh aa pa u] : List va_W).flatten) H → va_D A (([lwW hLn (ad 0) Y.2.1 lbn un, [(raw, .inl (cy 0, 3, .inl uw))], [(raf, .inl (cy 0, 3, .inl uf))], wF cy ad hh aa pa u] : List va_W).flatten) → va_S A s.heap H locs → Ok (k77 (x1, x2, x3, x4, x5, x6, x7, x8, x11, uw, uf)) K → kW2 p l e rmL_addsUp s m args below meth c H locs (va_Qi (fun r (_ : Unit) => K r) (fun _ => kPost D A ([lwW hLn (ad 0) Y.2.1 lbn un, wF cy ad hh aa pa u] : List va_W).flatten) A) A 77 ls [])
     (x1 : Int32) (x2 : Int32) (x3 : Int32) (x4 : Int32) (x5 : Int32) (x6 : Int32) (x7 : Int32) (x8 : Int32) (x11 : Int32) (x12 : Int32) (x13 : Int32) (x14 : Int32) (uw : Nat → Int32) (uf : Nat → Int32) (H : Heap) (locs : List Loc) (ls : Array Slot) (hl : lv_has ls 17 [(0, .ref hLn), (1, .int x1), (2, .int x2), (3, .int x3), (4, .int x4), (5, .int x5), (6, .int x6), (7, .int x7), (8, .int x8), (9, .ref raw), (10, .ref raf), (11, .int x11), (12, .int x12), (13, .int x13), (14, .int x14)]) (hP : va_P D kCl (([lwW hLn (ad 0) Y.2.1 lbn un, [(raw, .inl (cy 0, 3, .inl uw))], [(raf, .inl (cy 0, 3, .inl uf))], wF cy ad hh aa pa u] : List va_W).flatten) H) (hD : va_D A (([lwW hLn (ad 0) Y.2.1 lbn un, [(raw, .inl (cy 0, 3, .inl uw))], [(raf, .inl (cy 0, 3, .inl uf))], wF cy ad hh aa pa u] : List va_W).flatten)) (hS : va_S A s.heap H locs) (h1 : Ok (fL_addsUp_b340 k77 x1 x2 x3 x4 x5 x6 x7 x8 x11 x12 x13 x14 Y un uw uf u) K) :
    kW2 p l e rmL_addsUp s m args below meth c H locs (va_Qi (fun r (_ : Unit) => K r) (fun _ => kPost D A ([lwW hLn (ad 0) Y.2.1 lbn un, wF cy ad hh aa pa u] : List va_W).flatten) A) A 340 ls [] := by
  obtain ⟨hx, hb, hr, hml, hown, hts, hlocks, hK, hA⟩ := id E
  unfold fL_addsUp_b340 at h1
  refine lv_iload hx hb dL_addsUp_340 (lv_at hl 12 rfl) ?_
  refine lv_iconst (v := 1) hx hb dL_addsUp_342 rfl ?_
  refine lv_icmp_eq (tgt := 355) hx hb dL_addsUp_343 (by decide) (fun c343 => ?_) (fun c343 => ?_)
  · replace h1 := Ok.pos c343 h1
    exact tL_addsUp_b355 K E hZ hY un u k77 hk77 x1 x2 x3 x4 x5 x6 x7 x8 x11 x13 x14 uw uf H locs ls (lv_sub hl [0, 1, 2, 3, 4, 5, 6, 7, 8, 9, 10, 11, 13, 14] rfl) hP hD hS h1
  · replace h1 := Ok.neg c343 h1
    refine lv_iload hx hb dL_addsUp_346 (lv_at hl 12 rfl) ?_
    refine lv_iconst (v := 2) hx hb dL_addsUp_348 rfl ?_
    refine lv_icmp_eq (tgt := 355) hx hb dL_addsUp_349 (by decide) (fun c349 => ?_) (fun c349 => ?_)
    · replace h1 := Ok.pos c349 h1
      exact tL_addsUp_b355 K E hZ hY un u k77 hk77 x1 x2 x3 x4 x5 x6 x7 x8 x11 x13 x14 uw uf H locs ls (lv_sub hl [0, 1, 2, 3, 4, 5, 6, 7, 8, 9, 10, 11, 13, 14] rfl) hP hD hS h1
    · replace h1 := Ok.neg c349 h1
      refine lv_goto (tgt := 391) hx hb dL_addsUp_352 (by decide) ?_
      exact tL_addsUp_b391 K E hZ hY un u k77 hk77 x1 x2 x3 x4 x5 x6 x7 x8 x11 uw uf H locs ls (lv_sub hl [0, 1, 2, 3, 4, 5, 6, 7, 8, 9, 10, 11] rfl) hP hD hS h1
def fL_addsUp_b328 (k77 : Int32 × Int32 × Int32 × Int32 × Int32 × Int32 × Int32 × Int32 × Int32 × (Nat → Int32) × (Nat → Int32) → Option (Int32)) (x1 : Int32) (x2 : Int32) (x3 : Int32) (x4 : Int32) (x5 : Int32) (x6 : Int32) (x7 : Int32) (x8 : Int32) (x11 : Int32) (x12 : Int32) (x13 : Int32) (x14 : Int32) (x15 : Int32) (Y : YB) (un : Int32) (uw : Nat → Int32) (uf : Nat → Int32) (u : FS) : Option (Int32) :=
  (if x12 = 0 then (if x15 < 0 then fL_addsUp_b340 k77 x1 x2 x3 x4 x5 x6 x7 x8 x11 x12 x13 x14 Y un uw uf u else some 0) else fL_addsUp_b340 k77 x1 x2 x3 x4 x5 x6 x7 x8 x11 x12 x13 x14 Y un uw uf u)
set_option maxHeartbeats 4000000 in
set_option maxRecDepth 100000 in
theorem tL_addsUp_b328 {p : Program} {l : Launch} {e : Env} {s : State} {m : MethodId} {args : Array Value} {below : List Frame} {meth : Method} {c : Code} {D : va_G} {cy : Nat → ClassId} {A : Nat → Prop} {hLn : Nat} {lbn : Nat} {raw : Nat} {raf : Nat} {ad : Nat → Nat} {hh : Nat → Nat} {aa : Nat → Nat → Nat} {pa : Nat → Nat} {za zv : Nat → Nat} {Y : YB} (K : Int32 → Prop) (E : mE D cy RL cL_addsUp 17 (some .boolean) wsL_addsUp A p s m args meth c) (hZ : mZ za zv A s s.heap) (hY : mY Y A s s.heap) (un : Int32) (u : FS)
    (k77 : Int32 × Int32 × Int32 × Int32 × Int32 × Int32 × Int32 × Int32 × Int32 × (Nat → Int32) × (Nat → Int32) → Option (Int32)) (hk77 : ∀ (x1 : Int32) (x2 : Int32) (x3 : Int32) (x4 : Int32) (x5 : Int32) (x6 : Int32) (x7 : Int32) (x8 : Int32) (x11 : Int32) (uw : Nat → Int32) (uf : Nat → Int32) (H : Heap) (locs : List Loc) (ls : Array Slot), lv_has ls 17 [(0, .ref hLn), (1, .int x1), (2, .int x2), (3, .int x3), (4, .int x4), (5, .int x5), (6, .int x6), (7, .int x7), (8, .int x8), (9, .ref raw), (10, .ref raf), (11, .int x11)] → va_P D kCl (([lwW hLn (ad 0) Y.2.1 lbn un, [(raw, .inl (cy 0, 3, .inl uw))], [(raf, .inl (cy 0, 3, .inl uf))], wF cy ad hh aa pa u] : List va_W).flatten) H → va_D A (([lwW hLn (ad 0) Y.2.1 lbn un, [(raw, .inl (cy 0, 3, .inl uw))], [(raf, .inl (cy 0, 3, .inl uf))], wF cy ad hh aa pa u] : List va_W).flatten) → va_S A s.heap H locs → Ok (k77 (x1, x2, x3, x4, x5, x6, x7, x8, x11, uw, uf)) K → kW2 p l e rmL_addsUp s m args below meth c H locs (va_Qi (fun r (_ : Unit) => K r) (fun _ => kPost D A ([lwW hLn (ad 0) Y.2.1 lbn un, wF cy ad hh aa pa u] : List va_W).flatten) A) A 77 ls [])
     (x1 : Int32) (x2 : Int32) (x3 : Int32) (x4 : Int32) (x5 : Int32) (x6 : Int32) (x7 : Int32) (x8 : Int32) (x11 : Int32) (x12 : Int32) (x13 : Int32) (x14 : Int32) (x15 : Int32) (uw : Nat → Int32) (uf : Nat → Int32) (H : Heap) (locs : List Loc) (ls : Array Slot) (hl : lv_has ls 17 [(0, .ref hLn), (1, .int x1), (2, .int x2), (3, .int x3), (4, .int x4), (5, .int x5), (6, .int x6), (7, .int x7), (8, .int x8), (9, .ref raw), (10, .ref raf), (11, .int x11), (12, .int x12), (13, .int x13), (14, .int x14), (15, .int x15)]) (hP : va_P D kCl (([lwW hLn (ad 0) Y.2.1 lbn un, [(raw, .inl (cy 0, 3, .inl uw))], [(raf, .inl (cy 0, 3, .inl uf))], wF cy ad hh aa pa u] : List va_W).flatten) H) (hD : va_D A (([lwW hLn (ad 0) Y.2.1 lbn un, [(raw, .inl (cy 0, 3, .inl uw))], [(raf, .inl (cy 0, 3, .inl uf))], wF cy ad hh aa pa u] : List va_W).flatten)) (hS : va_S A s.heap H locs) (h1 : Ok (fL_addsUp_b328 k77 x1 x2 x3 x4 x5 x6 x7 x8 x11 x12 x13 x14 x15 Y un uw uf u) K) :
    kW2 p l e rmL_addsUp s m args below meth c H locs (va_Qi (fun r (_ : Unit) => K r) (fun _ => kPost D A ([lwW hLn (ad 0) Y.2.1 lbn un, wF cy ad hh aa pa u] : List va_W).flatten) A) A 328 ls [] := by
  obtain ⟨hx, hb, hr, hml, hown, hts, hlocks, hK, hA⟩ := id E
  unfold fL_addsUp_b328 at h1
  refine lv_iload hx hb dL_addsUp_328 (lv_at hl 12 rfl) ?_
  refine lv_if_ne (tgt := 340) hx hb dL_addsUp_330 (by decide) (fun c330 => ?_) (fun c330 => ?_)
  · replace h1 := Ok.neg c330 h1
    exact tL_addsUp_b340 K E hZ hY un u k77 hk77 x1 x2 x3 x4 x5 x6 x7 x8 x11 x12 x13 x14 uw uf H locs ls (lv_sub hl [0, 1, 2, 3, 4, 5, 6, 7, 8, 9, 10, 11, 12, 13, 14] rfl) hP hD hS h1
  · replace h1 := Ok.pos c330 h1
    refine lv_iload hx hb dL_addsUp_333 (lv_at hl 15 rfl) ?_
    refine lv_if_lt (tgt := 340) hx hb dL_addsUp_335 (by decide) (fun c335 => ?_) (fun c335 => ?_)
    · replace h1 := Ok.pos c335 h1
      exact tL_addsUp_b340 K E hZ hY un u k77 hk77 x1 x2 x3 x4 x5 x6 x7 x8 x11 x12 x13 x14 uw uf H locs ls (lv_sub hl [0, 1, 2, 3, 4, 5, 6, 7, 8, 9, 10, 11, 12, 13, 14] rfl) hP hD hS h1
    · replace h1 := Ok.neg c335 h1
      refine lv_iconst (v := 0) hx hb dL_addsUp_338 rfl ?_
      exact kret_dz hx hb hr rfl hlocks hP hD hS h1 dL_addsUp_339
def fL_addsUp_b301 (k77 : Int32 × Int32 × Int32 × Int32 × Int32 × Int32 × Int32 × Int32 × Int32 × (Nat → Int32) × (Nat → Int32) → Option (Int32)) (x1 : Int32) (x2 : Int32) (x3 : Int32) (x4 : Int32) (x5 : Int32) (x6 : Int32) (x7 : Int32) (x8 : Int32) (x11 : Int32) (x12 : Int32) (x13 : Int32) (x14 : Int32) (x15 : Int32) (Y : YB) (un : Int32) (uw : Nat → Int32) (uf : Nat → Int32) (u : FS) : Option (Int32) :=
  (if x8 < x15 then some 0 else (if x15 < 0 then fL_addsUp_b328 k77 x1 x2 x3 x4 x5 x6 x7 x8 x11 x12 x13 x14 x15 Y un uw uf u else bnd (fL_car x11 4 u) (fun r322 => (if x15 < r322 then some 0 else fL_addsUp_b328 k77 x1 x2 x3 x4 x5 x6 x7 x8 x11 x12 x13 x14 x15 Y un uw uf u))))
set_option maxHeartbeats 4000000 in
set_option maxRecDepth 100000 in
theorem tL_addsUp_b301 {p : Program} {l : Launch} {e : Env} {s : State} {m : MethodId} {args : Array Value} {below : List Frame} {meth : Method} {c : Code} {D : va_G} {cy : Nat → ClassId} {A : Nat → Prop} {hLn : Nat} {lbn : Nat} {raw : Nat} {raf : Nat} {ad : Nat → Nat} {hh : Nat → Nat} {aa : Nat → Nat → Nat} {pa : Nat → Nat} {za zv : Nat → Nat} {Y : YB} (K : Int32 → Prop) (E : mE D cy RL cL_addsUp 17 (some .boolean) wsL_addsUp A p s m args meth c) (hZ : mZ za zv A s s.heap) (hY : mY Y A s s.heap) (un : Int32) (u : FS)
    (k77 : Int32 × Int32 × Int32 × Int32 × Int32 × Int32 × Int32 × Int32 × Int32 × (Nat → Int32) × (Nat → Int32) → Option (Int32)) (hk77 : ∀ (x1 : Int32) (x2 : Int32) (x3 : Int32) (x4 : Int32) (x5 : Int32) (x6 : Int32) (x7 : Int32) (x8 : Int32) (x11 : Int32) (uw : Nat → Int32) (uf : Nat → Int32) (H : Heap) (locs : List Loc) (ls : Array Slot), lv_has ls 17 [(0, .ref hLn), (1, .int x1), (2, .int x2), (3, .int x3), (4, .int x4), (5, .int x5), (6, .int x6), (7, .int x7), (8, .int x8), (9, .ref raw), (10, .ref raf), (11, .int x11)] → va_P D kCl (([lwW hLn (ad 0) Y.2.1 lbn un, [(raw, .inl (cy 0, 3, .inl uw))], [(raf, .inl (cy 0, 3, .inl uf))], wF cy ad hh aa pa u] : List va_W).flatten) H → va_D A (([lwW hLn (ad 0) Y.2.1 lbn un, [(raw, .inl (cy 0, 3, .inl uw))], [(raf, .inl (cy 0, 3, .inl uf))], wF cy ad hh aa pa u] : List va_W).flatten) → va_S A s.heap H locs → Ok (k77 (x1, x2, x3, x4, x5, x6, x7, x8, x11, uw, uf)) K → kW2 p l e rmL_addsUp s m args below meth c H locs (va_Qi (fun r (_ : Unit) => K r) (fun _ => kPost D A ([lwW hLn (ad 0) Y.2.1 lbn un, wF cy ad hh aa pa u] : List va_W).flatten) A) A 77 ls [])
     (x1 : Int32) (x2 : Int32) (x3 : Int32) (x4 : Int32) (x5 : Int32) (x6 : Int32) (x7 : Int32) (x8 : Int32) (x11 : Int32) (x12 : Int32) (x13 : Int32) (x14 : Int32) (x15 : Int32) (uw : Nat → Int32) (uf : Nat → Int32) (H : Heap) (locs : List Loc) (ls : Array Slot) (hl : lv_has ls 17 [(0, .ref hLn), (1, .int x1), (2, .int x2), (3, .int x3), (4, .int x4), (5, .int x5), (6, .int x6), (7, .int x7), (8, .int x8), (9, .ref raw), (10, .ref raf), (11, .int x11), (12, .int x12), (13, .int x13), (14, .int x14), (15, .int x15)]) (hP : va_P D kCl (([lwW hLn (ad 0) Y.2.1 lbn un, [(raw, .inl (cy 0, 3, .inl uw))], [(raf, .inl (cy 0, 3, .inl uf))], wF cy ad hh aa pa u] : List va_W).flatten) H) (hD : va_D A (([lwW hLn (ad 0) Y.2.1 lbn un, [(raw, .inl (cy 0, 3, .inl uw))], [(raf, .inl (cy 0, 3, .inl uf))], wF cy ad hh aa pa u] : List va_W).flatten)) (hS : va_S A s.heap H locs) (h1 : Ok (fL_addsUp_b301 k77 x1 x2 x3 x4 x5 x6 x7 x8 x11 x12 x13 x14 x15 Y un uw uf u) K) :
    kW2 p l e rmL_addsUp s m args below meth c H locs (va_Qi (fun r (_ : Unit) => K r) (fun _ => kPost D A ([lwW hLn (ad 0) Y.2.1 lbn un, wF cy ad hh aa pa u] : List va_W).flatten) A) A 301 ls [] := by
  obtain ⟨hx, hb, hr, hml, hown, hts, hlocks, hK, hA⟩ := id E
  unfold fL_addsUp_b301 at h1
  refine lv_iload hx hb dL_addsUp_301 (lv_at hl 15 rfl) ?_
  refine lv_iload hx hb dL_addsUp_303 (lv_at hl 8 rfl) ?_
  refine lv_icmp_gt (tgt := 338) hx hb dL_addsUp_305 (by decide) (fun c305 => ?_) (fun c305 => ?_)
  · replace h1 := Ok.pos c305 h1
    refine lv_iconst (v := 0) hx hb dL_addsUp_338 rfl ?_
    exact kret_dz hx hb hr rfl hlocks hP hD hS h1 dL_addsUp_339
  · replace h1 := Ok.neg c305 h1
    refine lv_iload hx hb dL_addsUp_308 (lv_at hl 15 rfl) ?_
    refine lv_if_lt (tgt := 328) hx hb dL_addsUp_310 (by decide) (fun c310 => ?_) (fun c310 => ?_)
    · replace h1 := Ok.pos c310 h1
      exact tL_addsUp_b328 K E hZ hY un u k77 hk77 x1 x2 x3 x4 x5 x6 x7 x8 x11 x12 x13 x14 x15 uw uf H locs ls (lv_sub hl [0, 1, 2, 3, 4, 5, 6, 7, 8, 9, 10, 11, 12, 13, 14, 15] rfl) hP hD hS h1
    · replace h1 := Ok.neg c310 h1
      refine lv_iload hx hb dL_addsUp_313 (lv_at hl 15 rfl) ?_
      refine lv_aload_n hx hb dL_addsUp_315 rfl (lv_at hl 0 rfl) ?_
      refine k_get (v := .ref (ad 0)) (C := RL) (T := TL) (N := 4) hx hb hts inL_addsUp_L hown hK hP 0 rfl rfl 0 (by decide) lkL_addsUp_10 rfl dL_addsUp_316 ?_
      refine lv_iload hx hb dL_addsUp_319 (lv_at hl 11 rfl) ?_
      refine lv_iconst (v := 4) hx hb dL_addsUp_321 rfl ?_
      refine kh_rS (As := [.ref (ad 0), .int x11, .int 4]) (rest := [.int x15]) h1 ⟨hx, hb, hml, hown, hts⟩ (cL_carM l D cy ad hh aa pa H.size u x11 4) (vx_cwSW 3 hts gL_addsUp_L_car rfl rfl rfl heL_car ⟨Nat.le_of_ble_eq_true rfl, Nat.le_of_ble_eq_true rfl⟩) hK (k_sel1 (l := [lwW hLn (ad 0) Y.2.1 lbn un, [(raw, .inl (cy 0, 3, .inl uw))], [(raf, .inl (cy 0, 3, .inl uf))], wF cy ad hh aa pa u]) (n := 4) 3 [0, 1, 2] rfl rfl (by decide)) hP hD hS hA rfl hl.1 rfl (Nat.le_of_ble_eq_true rfl) dL_addsUp_322 ⟨Nat.le_of_ble_eq_true rfl, Nat.le_of_ble_eq_true rfl⟩ (fun r322 H locs h1 hP hS => ?_)
      refine lv_icmp_lt (tgt := 338) hx hb dL_addsUp_325 (by decide) (fun c325 => ?_) (fun c325 => ?_)
      · replace h1 := Ok.pos c325 h1
        refine lv_iconst (v := 0) hx hb dL_addsUp_338 rfl ?_
        exact kret_dz hx hb hr rfl hlocks hP hD hS h1 dL_addsUp_339
      · replace h1 := Ok.neg c325 h1
        exact tL_addsUp_b328 K E hZ hY un u k77 hk77 x1 x2 x3 x4 x5 x6 x7 x8 x11 x12 x13 x14 x15 uw uf H locs ls (lv_sub hl [0, 1, 2, 3, 4, 5, 6, 7, 8, 9, 10, 11, 12, 13, 14, 15] rfl) hP hD hS h1
def fL_addsUp_b284 (k77 : Int32 × Int32 × Int32 × Int32 × Int32 × Int32 × Int32 × Int32 × Int32 × (Nat → Int32) × (Nat → Int32) → Option (Int32)) (x1 : Int32) (x2 : Int32) (x3 : Int32) (x4 : Int32) (x5 : Int32) (x6 : Int32) (x7 : Int32) (x8 : Int32) (x11 : Int32) (x12 : Int32) (x13 : Int32) (x14 : Int32) (x15 : Int32) (x16 : Int32) (s0 : Int32) (s1 : Int32) (Y : YB) (un : Int32) (uw : Nat → Int32) (uf : Nat → Int32) (u : FS) : Option (Int32) :=
  (if s0 = s1 then (if x16 < 0 then fL_addsUp_b301 k77 x1 x2 x3 x4 x5 x6 x7 x8 x11 x12 x13 x14 x15 Y un uw uf u else (if x16 < (x15 + 1) then some 0 else fL_addsUp_b301 k77 x1 x2 x3 x4 x5 x6 x7 x8 x11 x12 x13 x14 x15 Y un uw uf u)) else some 0)
set_option maxHeartbeats 4000000 in
set_option maxRecDepth 100000 in
theorem tL_addsUp_b284 {p : Program} {l : Launch} {e : Env} {s : State} {m : MethodId} {args : Array Value} {below : List Frame} {meth : Method} {c : Code} {D : va_G} {cy : Nat → ClassId} {A : Nat → Prop} {hLn : Nat} {lbn : Nat} {raw : Nat} {raf : Nat} {ad : Nat → Nat} {hh : Nat → Nat} {aa : Nat → Nat → Nat} {pa : Nat → Nat} {za zv : Nat → Nat} {Y : YB} (K : Int32 → Prop) (E : mE D cy RL cL_addsUp 17 (some .boolean) wsL_addsUp A p s m args meth c) (hZ : mZ za zv A s s.heap) (hY : mY Y A s s.heap) (un : Int32) (u : FS)
    (k77 : Int32 × Int32 × Int32 × Int32 × Int32 × Int32 × Int32 × Int32 × Int32 × (Nat → Int32) × (Nat → Int32) → Option (Int32)) (hk77 : ∀ (x1 : Int32) (x2 : Int32) (x3 : Int32) (x4 : Int32) (x5 : Int32) (x6 : Int32) (x7 : Int32) (x8 : Int32) (x11 : Int32) (uw : Nat → Int32) (uf : Nat → Int32) (H : Heap) (locs : List Loc) (ls : Array Slot), lv_has ls 17 [(0, .ref hLn), (1, .int x1), (2, .int x2), (3, .int x3), (4, .int x4), (5, .int x5), (6, .int x6), (7, .int x7), (8, .int x8), (9, .ref raw), (10, .ref raf), (11, .int x11)] → va_P D kCl (([lwW hLn (ad 0) Y.2.1 lbn un, [(raw, .inl (cy 0, 3, .inl uw))], [(raf, .inl (cy 0, 3, .inl uf))], wF cy ad hh aa pa u] : List va_W).flatten) H → va_D A (([lwW hLn (ad 0) Y.2.1 lbn un, [(raw, .inl (cy 0, 3, .inl uw))], [(raf, .inl (cy 0, 3, .inl uf))], wF cy ad hh aa pa u] : List va_W).flatten) → va_S A s.heap H locs → Ok (k77 (x1, x2, x3, x4, x5, x6, x7, x8, x11, uw, uf)) K → kW2 p l e rmL_addsUp s m args below meth c H locs (va_Qi (fun r (_ : Unit) => K r) (fun _ => kPost D A ([lwW hLn (ad 0) Y.2.1 lbn un, wF cy ad hh aa pa u] : List va_W).flatten) A) A 77 ls [])
     (x1 : Int32) (x2 : Int32) (x3 : Int32) (x4 : Int32) (x5 : Int32) (x6 : Int32) (x7 : Int32) (x8 : Int32) (x11 : Int32) (x12 : Int32) (x13 : Int32) (x14 : Int32) (x15 : Int32) (x16 : Int32) (s0 : Int32) (s1 : Int32) (uw : Nat → Int32) (uf : Nat → Int32) (H : Heap) (locs : List Loc) (ls : Array Slot) (hl : lv_has ls 17 [(0, .ref hLn), (1, .int x1), (2, .int x2), (3, .int x3), (4, .int x4), (5, .int x5), (6, .int x6), (7, .int x7), (8, .int x8), (9, .ref raw), (10, .ref raf), (11, .int x11), (12, .int x12), (13, .int x13), (14, .int x14), (15, .int x15), (16, .int x16)]) (hP : va_P D kCl (([lwW hLn (ad 0) Y.2.1 lbn un, [(raw, .inl (cy 0, 3, .inl uw))], [(raf, .inl (cy 0, 3, .inl uf))], wF cy ad hh aa pa u] : List va_W).flatten) H) (hD : va_D A (([lwW hLn (ad 0) Y.2.1 lbn un, [(raw, .inl (cy 0, 3, .inl uw))], [(raf, .inl (cy 0, 3, .inl uf))], wF cy ad hh aa pa u] : List va_W).flatten)) (hS : va_S A s.heap H locs) (h1 : Ok (fL_addsUp_b284 k77 x1 x2 x3 x4 x5 x6 x7 x8 x11 x12 x13 x14 x15 x16 s0 s1 Y un uw uf u) K) :
    kW2 p l e rmL_addsUp s m args below meth c H locs (va_Qi (fun r (_ : Unit) => K r) (fun _ => kPost D A ([lwW hLn (ad 0) Y.2.1 lbn un, wF cy ad hh aa pa u] : List va_W).flatten) A) A 284 ls [.int s1, .int s0] := by
  obtain ⟨hx, hb, hr, hml, hown, hts, hlocks, hK, hA⟩ := id E
  unfold fL_addsUp_b284 at h1
  refine lv_icmp_ne (tgt := 338) hx hb dL_addsUp_284 (by decide) (fun c284 => ?_) (fun c284 => ?_)
  · replace h1 := Ok.neg c284 h1
    refine lv_iconst (v := 0) hx hb dL_addsUp_338 rfl ?_
    exact kret_dz hx hb hr rfl hlocks hP hD hS h1 dL_addsUp_339
  · replace h1 := Ok.pos c284 h1
    refine lv_iload hx hb dL_addsUp_287 (lv_at hl 16 rfl) ?_
    refine lv_if_lt (tgt := 301) hx hb dL_addsUp_289 (by decide) (fun c289 => ?_) (fun c289 => ?_)
    · replace h1 := Ok.pos c289 h1
      exact tL_addsUp_b301 K E hZ hY un u k77 hk77 x1 x2 x3 x4 x5 x6 x7 x8 x11 x12 x13 x14 x15 uw uf H locs ls (lv_sub hl [0, 1, 2, 3, 4, 5, 6, 7, 8, 9, 10, 11, 12, 13, 14, 15] rfl) hP hD hS h1
    · replace h1 := Ok.neg c289 h1
      refine lv_iload hx hb dL_addsUp_292 (lv_at hl 16 rfl) ?_
      refine lv_iload hx hb dL_addsUp_294 (lv_at hl 15 rfl) ?_
      refine lv_iconst (v := 1) hx hb dL_addsUp_296 rfl ?_
      refine lv_iadd hx hb dL_addsUp_297 ?_
      refine lv_icmp_lt (tgt := 338) hx hb dL_addsUp_298 (by decide) (fun c298 => ?_) (fun c298 => ?_)
      · replace h1 := Ok.pos c298 h1
        refine lv_iconst (v := 0) hx hb dL_addsUp_338 rfl ?_
        exact kret_dz hx hb hr rfl hlocks hP hD hS h1 dL_addsUp_339
      · replace h1 := Ok.neg c298 h1
        exact tL_addsUp_b301 K E hZ hY un u k77 hk77 x1 x2 x3 x4 x5 x6 x7 x8 x11 x12 x13 x14 x15 uw uf H locs ls (lv_sub hl [0, 1, 2, 3, 4, 5, 6, 7, 8, 9, 10, 11, 12, 13, 14, 15] rfl) hP hD hS h1
def fL_addsUp_b279 (k77 : Int32 × Int32 × Int32 × Int32 × Int32 × Int32 × Int32 × Int32 × Int32 × (Nat → Int32) × (Nat → Int32) → Option (Int32)) (x1 : Int32) (x2 : Int32) (x3 : Int32) (x4 : Int32) (x5 : Int32) (x6 : Int32) (x7 : Int32) (x8 : Int32) (x11 : Int32) (x12 : Int32) (x13 : Int32) (x14 : Int32) (x15 : Int32) (x16 : Int32) (s0 : Int32) (Y : YB) (un : Int32) (uw : Nat → Int32) (uf : Nat → Int32) (u : FS) : Option (Int32) :=
  fL_addsUp_b284 k77 x1 x2 x3 x4 x5 x6 x7 x8 x11 x12 x13 x14 x15 x16 s0 1 Y un uw uf u
set_option maxHeartbeats 4000000 in
set_option maxRecDepth 100000 in
theorem tL_addsUp_b279 {p : Program} {l : Launch} {e : Env} {s : State} {m : MethodId} {args : Array Value} {below : List Frame} {meth : Method} {c : Code} {D : va_G} {cy : Nat → ClassId} {A : Nat → Prop} {hLn : Nat} {lbn : Nat} {raw : Nat} {raf : Nat} {ad : Nat → Nat} {hh : Nat → Nat} {aa : Nat → Nat → Nat} {pa : Nat → Nat} {za zv : Nat → Nat} {Y : YB} (K : Int32 → Prop) (E : mE D cy RL cL_addsUp 17 (some .boolean) wsL_addsUp A p s m args meth c) (hZ : mZ za zv A s s.heap) (hY : mY Y A s s.heap) (un : Int32) (u : FS)
    (k77 : Int32 × Int32 × Int32 × Int32 × Int32 × Int32 × Int32 × Int32 × Int32 × (Nat → Int32) × (Nat → Int32) → Option (Int32)) (hk77 : ∀ (x1 : Int32) (x2 : Int32) (x3 : Int32) (x4 : Int32) (x5 : Int32) (x6 : Int32) (x7 : Int32) (x8 : Int32) (x11 : Int32) (uw : Nat → Int32) (uf : Nat → Int32) (H : Heap) (locs : List Loc) (ls : Array Slot), lv_has ls 17 [(0, .ref hLn), (1, .int x1), (2, .int x2), (3, .int x3), (4, .int x4), (5, .int x5), (6, .int x6), (7, .int x7), (8, .int x8), (9, .ref raw), (10, .ref raf), (11, .int x11)] → va_P D kCl (([lwW hLn (ad 0) Y.2.1 lbn un, [(raw, .inl (cy 0, 3, .inl uw))], [(raf, .inl (cy 0, 3, .inl uf))], wF cy ad hh aa pa u] : List va_W).flatten) H → va_D A (([lwW hLn (ad 0) Y.2.1 lbn un, [(raw, .inl (cy 0, 3, .inl uw))], [(raf, .inl (cy 0, 3, .inl uf))], wF cy ad hh aa pa u] : List va_W).flatten) → va_S A s.heap H locs → Ok (k77 (x1, x2, x3, x4, x5, x6, x7, x8, x11, uw, uf)) K → kW2 p l e rmL_addsUp s m args below meth c H locs (va_Qi (fun r (_ : Unit) => K r) (fun _ => kPost D A ([lwW hLn (ad 0) Y.2.1 lbn un, wF cy ad hh aa pa u] : List va_W).flatten) A) A 77 ls [])
     (x1 : Int32) (x2 : Int32) (x3 : Int32) (x4 : Int32) (x5 : Int32) (x6 : Int32) (x7 : Int32) (x8 : Int32) (x11 : Int32) (x12 : Int32) (x13 : Int32) (x14 : Int32) (x15 : Int32) (x16 : Int32) (s0 : Int32) (uw : Nat → Int32) (uf : Nat → Int32) (H : Heap) (locs : List Loc) (ls : Array Slot) (hl : lv_has ls 17 [(0, .ref hLn), (1, .int x1), (2, .int x2), (3, .int x3), (4, .int x4), (5, .int x5), (6, .int x6), (7, .int x7), (8, .int x8), (9, .ref raw), (10, .ref raf), (11, .int x11), (12, .int x12), (13, .int x13), (14, .int x14), (15, .int x15), (16, .int x16)]) (hP : va_P D kCl (([lwW hLn (ad 0) Y.2.1 lbn un, [(raw, .inl (cy 0, 3, .inl uw))], [(raf, .inl (cy 0, 3, .inl uf))], wF cy ad hh aa pa u] : List va_W).flatten) H) (hD : va_D A (([lwW hLn (ad 0) Y.2.1 lbn un, [(raw, .inl (cy 0, 3, .inl uw))], [(raf, .inl (cy 0, 3, .inl uf))], wF cy ad hh aa pa u] : List va_W).flatten)) (hS : va_S A s.heap H locs) (h1 : Ok (fL_addsUp_b279 k77 x1 x2 x3 x4 x5 x6 x7 x8 x11 x12 x13 x14 x15 x16 s0 Y un uw uf u) K) :
    kW2 p l e rmL_addsUp s m args below meth c H locs (va_Qi (fun r (_ : Unit) => K r) (fun _ => kPost D A ([lwW hLn (ad 0) Y.2.1 lbn un, wF cy ad hh aa pa u] : List va_W).flatten) A) A 279 ls [.int s0] := by
  obtain ⟨hx, hb, hr, hml, hown, hts, hlocks, hK, hA⟩ := id E
  unfold fL_addsUp_b279 at h1
  refine lv_iconst (v := 1) hx hb dL_addsUp_279 rfl ?_
  refine lv_goto (tgt := 284) hx hb dL_addsUp_280 (by decide) ?_
  exact tL_addsUp_b284 K E hZ hY un u k77 hk77 x1 x2 x3 x4 x5 x6 x7 x8 x11 x12 x13 x14 x15 x16 s0 1 uw uf H locs ls (lv_sub hl [0, 1, 2, 3, 4, 5, 6, 7, 8, 9, 10, 11, 12, 13, 14, 15, 16] rfl) hP hD hS h1
def fL_addsUp_b267 (k77 : Int32 × Int32 × Int32 × Int32 × Int32 × Int32 × Int32 × Int32 × Int32 × (Nat → Int32) × (Nat → Int32) → Option (Int32)) (x1 : Int32) (x2 : Int32) (x3 : Int32) (x4 : Int32) (x5 : Int32) (x6 : Int32) (x7 : Int32) (x8 : Int32) (x11 : Int32) (x12 : Int32) (x13 : Int32) (x14 : Int32) (x15 : Int32) (x16 : Int32) (s0 : Int32) (Y : YB) (un : Int32) (uw : Nat → Int32) (uf : Nat → Int32) (u : FS) : Option (Int32) :=
  (if x12 = 2 then fL_addsUp_b279 k77 x1 x2 x3 x4 x5 x6 x7 x8 x11 x12 x13 x14 x15 x16 s0 Y un uw uf u else (if x12 = 3 then fL_addsUp_b279 k77 x1 x2 x3 x4 x5 x6 x7 x8 x11 x12 x13 x14 x15 x16 s0 Y un uw uf u else fL_addsUp_b284 k77 x1 x2 x3 x4 x5 x6 x7 x8 x11 x12 x13 x14 x15 x16 s0 0 Y un uw uf u))
set_option maxHeartbeats 4000000 in
set_option maxRecDepth 100000 in
theorem tL_addsUp_b267 {p : Program} {l : Launch} {e : Env} {s : State} {m : MethodId} {args : Array Value} {below : List Frame} {meth : Method} {c : Code} {D : va_G} {cy : Nat → ClassId} {A : Nat → Prop} {hLn : Nat} {lbn : Nat} {raw : Nat} {raf : Nat} {ad : Nat → Nat} {hh : Nat → Nat} {aa : Nat → Nat → Nat} {pa : Nat → Nat} {za zv : Nat → Nat} {Y : YB} (K : Int32 → Prop) (E : mE D cy RL cL_addsUp 17 (some .boolean) wsL_addsUp A p s m args meth c) (hZ : mZ za zv A s s.heap) (hY : mY Y A s s.heap) (un : Int32) (u : FS)
    (k77 : Int32 × Int32 × Int32 × Int32 × Int32 × Int32 × Int32 × Int32 × Int32 × (Nat → Int32) × (Nat → Int32) → Option (Int32)) (hk77 : ∀ (x1 : Int32) (x2 : Int32) (x3 : Int32) (x4 : Int32) (x5 : Int32) (x6 : Int32) (x7 : Int32) (x8 : Int32) (x11 : Int32) (uw : Nat → Int32) (uf : Nat → Int32) (H : Heap) (locs : List Loc) (ls : Array Slot), lv_has ls 17 [(0, .ref hLn), (1, .int x1), (2, .int x2), (3, .int x3), (4, .int x4), (5, .int x5), (6, .int x6), (7, .int x7), (8, .int x8), (9, .ref raw), (10, .ref raf), (11, .int x11)] → va_P D kCl (([lwW hLn (ad 0) Y.2.1 lbn un, [(raw, .inl (cy 0, 3, .inl uw))], [(raf, .inl (cy 0, 3, .inl uf))], wF cy ad hh aa pa u] : List va_W).flatten) H → va_D A (([lwW hLn (ad 0) Y.2.1 lbn un, [(raw, .inl (cy 0, 3, .inl uw))], [(raf, .inl (cy 0, 3, .inl uf))], wF cy ad hh aa pa u] : List va_W).flatten) → va_S A s.heap H locs → Ok (k77 (x1, x2, x3, x4, x5, x6, x7, x8, x11, uw, uf)) K → kW2 p l e rmL_addsUp s m args below meth c H locs (va_Qi (fun r (_ : Unit) => K r) (fun _ => kPost D A ([lwW hLn (ad 0) Y.2.1 lbn un, wF cy ad hh aa pa u] : List va_W).flatten) A) A 77 ls [])
     (x1 : Int32) (x2 : Int32) (x3 : Int32) (x4 : Int32) (x5 : Int32) (x6 : Int32) (x7 : Int32) (x8 : Int32) (x11 : Int32) (x12 : Int32) (x13 : Int32) (x14 : Int32) (x15 : Int32) (x16 : Int32) (s0 : Int32) (uw : Nat → Int32) (uf : Nat → Int32) (H : Heap) (locs : List Loc) (ls : Array Slot) (hl : lv_has ls 17 [(0, .ref hLn), (1, .int x1), (2, .int x2), (3, .int x3), (4, .int x4), (5, .int x5), (6, .int x6), (7, .int x7), (8, .int x8), (9, .ref raw), (10, .ref raf), (11, .int x11), (12, .int x12), (13, .int x13), (14, .int x14), (15, .int x15), (16, .int x16)]) (hP : va_P D kCl (([lwW hLn (ad 0) Y.2.1 lbn un, [(raw, .inl (cy 0, 3, .inl uw))], [(raf, .inl (cy 0, 3, .inl uf))], wF cy ad hh aa pa u] : List va_W).flatten) H) (hD : va_D A (([lwW hLn (ad 0) Y.2.1 lbn un, [(raw, .inl (cy 0, 3, .inl uw))], [(raf, .inl (cy 0, 3, .inl uf))], wF cy ad hh aa pa u] : List va_W).flatten)) (hS : va_S A s.heap H locs) (h1 : Ok (fL_addsUp_b267 k77 x1 x2 x3 x4 x5 x6 x7 x8 x11 x12 x13 x14 x15 x16 s0 Y un uw uf u) K) :
    kW2 p l e rmL_addsUp s m args below meth c H locs (va_Qi (fun r (_ : Unit) => K r) (fun _ => kPost D A ([lwW hLn (ad 0) Y.2.1 lbn un, wF cy ad hh aa pa u] : List va_W).flatten) A) A 267 ls [.int s0] := by
  obtain ⟨hx, hb, hr, hml, hown, hts, hlocks, hK, hA⟩ := id E
  unfold fL_addsUp_b267 at h1
  refine lv_iload hx hb dL_addsUp_267 (lv_at hl 12 rfl) ?_
  refine lv_iconst (v := 2) hx hb dL_addsUp_269 rfl ?_
  refine lv_icmp_eq (tgt := 279) hx hb dL_addsUp_270 (by decide) (fun c270 => ?_) (fun c270 => ?_)
  · replace h1 := Ok.pos c270 h1
    exact tL_addsUp_b279 K E hZ hY un u k77 hk77 x1 x2 x3 x4 x5 x6 x7 x8 x11 x12 x13 x14 x15 x16 s0 uw uf H locs ls (lv_sub hl [0, 1, 2, 3, 4, 5, 6, 7, 8, 9, 10, 11, 12, 13, 14, 15, 16] rfl) hP hD hS h1
  · replace h1 := Ok.neg c270 h1
    refine lv_iload hx hb dL_addsUp_273 (lv_at hl 12 rfl) ?_
    refine lv_iconst (v := 3) hx hb dL_addsUp_275 rfl ?_
    refine lv_icmp_ne (tgt := 283) hx hb dL_addsUp_276 (by decide) (fun c276 => ?_) (fun c276 => ?_)
    · replace h1 := Ok.neg c276 h1
      refine lv_iconst (v := 0) hx hb dL_addsUp_283 rfl ?_
      exact tL_addsUp_b284 K E hZ hY un u k77 hk77 x1 x2 x3 x4 x5 x6 x7 x8 x11 x12 x13 x14 x15 x16 s0 0 uw uf H locs ls (lv_sub hl [0, 1, 2, 3, 4, 5, 6, 7, 8, 9, 10, 11, 12, 13, 14, 15, 16] rfl) hP hD hS h1
    · replace h1 := Ok.pos c276 h1
      exact tL_addsUp_b279 K E hZ hY un u k77 hk77 x1 x2 x3 x4 x5 x6 x7 x8 x11 x12 x13 x14 x15 x16 s0 uw uf H locs ls (lv_sub hl [0, 1, 2, 3, 4, 5, 6, 7, 8, 9, 10, 11, 12, 13, 14, 15, 16] rfl) hP hD hS h1
def fL_addsUp_b254 (k77 : Int32 × Int32 × Int32 × Int32 × Int32 × Int32 × Int32 × Int32 × Int32 × (Nat → Int32) × (Nat → Int32) → Option (Int32)) (x1 : Int32) (x2 : Int32) (x3 : Int32) (x4 : Int32) (x5 : Int32) (x6 : Int32) (x7 : Int32) (x8 : Int32) (x11 : Int32) (x12 : Int32) (x13 : Int32) (x14 : Int32) (x15 : Int32) (x16 : Int32) (s0 : Int32) (s1 : Int32) (Y : YB) (un : Int32) (uw : Nat → Int32) (uf : Nat → Int32) (u : FS) : Option (Int32) :=
  (if s0 = s1 then (if x16 < 0 then fL_addsUp_b267 k77 x1 x2 x3 x4 x5 x6 x7 x8 x11 x12 x13 x14 x15 x16 0 Y un uw uf u else fL_addsUp_b267 k77 x1 x2 x3 x4 x5 x6 x7 x8 x11 x12 x13 x14 x15 x16 1 Y un uw uf u) else some 0)
set_option maxHeartbeats 4000000 in
set_option maxRecDepth 100000 in
theorem tL_addsUp_b254 {p : Program} {l : Launch} {e : Env} {s : State} {m : MethodId} {args : Array Value} {below : List Frame} {meth : Method} {c : Code} {D : va_G} {cy : Nat → ClassId} {A : Nat → Prop} {hLn : Nat} {lbn : Nat} {raw : Nat} {raf : Nat} {ad : Nat → Nat} {hh : Nat → Nat} {aa : Nat → Nat → Nat} {pa : Nat → Nat} {za zv : Nat → Nat} {Y : YB} (K : Int32 → Prop) (E : mE D cy RL cL_addsUp 17 (some .boolean) wsL_addsUp A p s m args meth c) (hZ : mZ za zv A s s.heap) (hY : mY Y A s s.heap) (un : Int32) (u : FS)
    (k77 : Int32 × Int32 × Int32 × Int32 × Int32 × Int32 × Int32 × Int32 × Int32 × (Nat → Int32) × (Nat → Int32) → Option (Int32)) (hk77 : ∀ (x1 : Int32) (x2 : Int32) (x3 : Int32) (x4 : Int32) (x5 : Int32) (x6 : Int32) (x7 : Int32) (x8 : Int32) (x11 : Int32) (uw : Nat → Int32) (uf : Nat → Int32) (H : Heap) (locs : List Loc) (ls : Array Slot), lv_has ls 17 [(0, .ref hLn), (1, .int x1), (2, .int x2), (3, .int x3), (4, .int x4), (5, .int x5), (6, .int x6), (7, .int x7), (8, .int x8), (9, .ref raw), (10, .ref raf), (11, .int x11)] → va_P D kCl (([lwW hLn (ad 0) Y.2.1 lbn un, [(raw, .inl (cy 0, 3, .inl uw))], [(raf, .inl (cy 0, 3, .inl uf))], wF cy ad hh aa pa u] : List va_W).flatten) H → va_D A (([lwW hLn (ad 0) Y.2.1 lbn un, [(raw, .inl (cy 0, 3, .inl uw))], [(raf, .inl (cy 0, 3, .inl uf))], wF cy ad hh aa pa u] : List va_W).flatten) → va_S A s.heap H locs → Ok (k77 (x1, x2, x3, x4, x5, x6, x7, x8, x11, uw, uf)) K → kW2 p l e rmL_addsUp s m args below meth c H locs (va_Qi (fun r (_ : Unit) => K r) (fun _ => kPost D A ([lwW hLn (ad 0) Y.2.1 lbn un, wF cy ad hh aa pa u] : List va_W).flatten) A) A 77 ls [])
     (x1 : Int32) (x2 : Int32) (x3 : Int32) (x4 : Int32) (x5 : Int32) (x6 : Int32) (x7 : Int32) (x8 : Int32) (x11 : Int32) (x12 : Int32) (x13 : Int32) (x14 : Int32) (x15 : Int32) (x16 : Int32) (s0 : Int32) (s1 : Int32) (uw : Nat → Int32) (uf : Nat → Int32) (H : Heap) (locs : List Loc) (ls : Array Slot) (hl : lv_has ls 17 [(0, .ref hLn), (1, .int x1), (2, .int x2), (3, .int x3), (4, .int x4), (5, .int x5), (6, .int x6), (7, .int x7), (8, .int x8), (9, .ref raw), (10, .ref raf), (11, .int x11), (12, .int x12), (13, .int x13), (14, .int x14), (15, .int x15), (16, .int x16)]) (hP : va_P D kCl (([lwW hLn (ad 0) Y.2.1 lbn un, [(raw, .inl (cy 0, 3, .inl uw))], [(raf, .inl (cy 0, 3, .inl uf))], wF cy ad hh aa pa u] : List va_W).flatten) H) (hD : va_D A (([lwW hLn (ad 0) Y.2.1 lbn un, [(raw, .inl (cy 0, 3, .inl uw))], [(raf, .inl (cy 0, 3, .inl uf))], wF cy ad hh aa pa u] : List va_W).flatten)) (hS : va_S A s.heap H locs) (h1 : Ok (fL_addsUp_b254 k77 x1 x2 x3 x4 x5 x6 x7 x8 x11 x12 x13 x14 x15 x16 s0 s1 Y un uw uf u) K) :
    kW2 p l e rmL_addsUp s m args below meth c H locs (va_Qi (fun r (_ : Unit) => K r) (fun _ => kPost D A ([lwW hLn (ad 0) Y.2.1 lbn un, wF cy ad hh aa pa u] : List va_W).flatten) A) A 254 ls [.int s1, .int s0] := by
  obtain ⟨hx, hb, hr, hml, hown, hts, hlocks, hK, hA⟩ := id E
  unfold fL_addsUp_b254 at h1
  refine lv_icmp_ne (tgt := 338) hx hb dL_addsUp_254 (by decide) (fun c254 => ?_) (fun c254 => ?_)
  · replace h1 := Ok.neg c254 h1
    refine lv_iconst (v := 0) hx hb dL_addsUp_338 rfl ?_
    exact kret_dz hx hb hr rfl hlocks hP hD hS h1 dL_addsUp_339
  · replace h1 := Ok.pos c254 h1
    refine lv_iload hx hb dL_addsUp_257 (lv_at hl 16 rfl) ?_
    refine lv_if_lt (tgt := 266) hx hb dL_addsUp_259 (by decide) (fun c259 => ?_) (fun c259 => ?_)
    · replace h1 := Ok.pos c259 h1
      refine lv_iconst (v := 0) hx hb dL_addsUp_266 rfl ?_
      exact tL_addsUp_b267 K E hZ hY un u k77 hk77 x1 x2 x3 x4 x5 x6 x7 x8 x11 x12 x13 x14 x15 x16 0 uw uf H locs ls (lv_sub hl [0, 1, 2, 3, 4, 5, 6, 7, 8, 9, 10, 11, 12, 13, 14, 15, 16] rfl) hP hD hS h1
    · replace h1 := Ok.neg c259 h1
      refine lv_iconst (v := 1) hx hb dL_addsUp_262 rfl ?_
      refine lv_goto (tgt := 267) hx hb dL_addsUp_263 (by decide) ?_
      exact tL_addsUp_b267 K E hZ hY un u k77 hk77 x1 x2 x3 x4 x5 x6 x7 x8 x11 x12 x13 x14 x15 x16 1 uw uf H locs ls (lv_sub hl [0, 1, 2, 3, 4, 5, 6, 7, 8, 9, 10, 11, 12, 13, 14, 15, 16] rfl) hP hD hS h1
def fL_addsUp_b244 (k77 : Int32 × Int32 × Int32 × Int32 × Int32 × Int32 × Int32 × Int32 × Int32 × (Nat → Int32) × (Nat → Int32) → Option (Int32)) (x1 : Int32) (x2 : Int32) (x3 : Int32) (x4 : Int32) (x5 : Int32) (x6 : Int32) (x7 : Int32) (x8 : Int32) (x11 : Int32) (x12 : Int32) (x13 : Int32) (x14 : Int32) (x15 : Int32) (x16 : Int32) (s0 : Int32) (Y : YB) (un : Int32) (uw : Nat → Int32) (uf : Nat → Int32) (u : FS) : Option (Int32) :=
  (if 0 ≤ x15 then fL_addsUp_b254 k77 x1 x2 x3 x4 x5 x6 x7 x8 x11 x12 x13 x14 x15 x16 s0 0 Y un uw uf u else fL_addsUp_b254 k77 x1 x2 x3 x4 x5 x6 x7 x8 x11 x12 x13 x14 x15 x16 s0 1 Y un uw uf u)
set_option maxHeartbeats 4000000 in
set_option maxRecDepth 100000 in
theorem tL_addsUp_b244 {p : Program} {l : Launch} {e : Env} {s : State} {m : MethodId} {args : Array Value} {below : List Frame} {meth : Method} {c : Code} {D : va_G} {cy : Nat → ClassId} {A : Nat → Prop} {hLn : Nat} {lbn : Nat} {raw : Nat} {raf : Nat} {ad : Nat → Nat} {hh : Nat → Nat} {aa : Nat → Nat → Nat} {pa : Nat → Nat} {za zv : Nat → Nat} {Y : YB} (K : Int32 → Prop) (E : mE D cy RL cL_addsUp 17 (some .boolean) wsL_addsUp A p s m args meth c) (hZ : mZ za zv A s s.heap) (hY : mY Y A s s.heap) (un : Int32) (u : FS)
    (k77 : Int32 × Int32 × Int32 × Int32 × Int32 × Int32 × Int32 × Int32 × Int32 × (Nat → Int32) × (Nat → Int32) → Option (Int32)) (hk77 : ∀ (x1 : Int32) (x2 : Int32) (x3 : Int32) (x4 : Int32) (x5 : Int32) (x6 : Int32) (x7 : Int32) (x8 : Int32) (x11 : Int32) (uw : Nat → Int32) (uf : Nat → Int32) (H : Heap) (locs : List Loc) (ls : Array Slot), lv_has ls 17 [(0, .ref hLn), (1, .int x1), (2, .int x2), (3, .int x3), (4, .int x4), (5, .int x5), (6, .int x6), (7, .int x7), (8, .int x8), (9, .ref raw), (10, .ref raf), (11, .int x11)] → va_P D kCl (([lwW hLn (ad 0) Y.2.1 lbn un, [(raw, .inl (cy 0, 3, .inl uw))], [(raf, .inl (cy 0, 3, .inl uf))], wF cy ad hh aa pa u] : List va_W).flatten) H → va_D A (([lwW hLn (ad 0) Y.2.1 lbn un, [(raw, .inl (cy 0, 3, .inl uw))], [(raf, .inl (cy 0, 3, .inl uf))], wF cy ad hh aa pa u] : List va_W).flatten) → va_S A s.heap H locs → Ok (k77 (x1, x2, x3, x4, x5, x6, x7, x8, x11, uw, uf)) K → kW2 p l e rmL_addsUp s m args below meth c H locs (va_Qi (fun r (_ : Unit) => K r) (fun _ => kPost D A ([lwW hLn (ad 0) Y.2.1 lbn un, wF cy ad hh aa pa u] : List va_W).flatten) A) A 77 ls [])
     (x1 : Int32) (x2 : Int32) (x3 : Int32) (x4 : Int32) (x5 : Int32) (x6 : Int32) (x7 : Int32) (x8 : Int32) (x11 : Int32) (x12 : Int32) (x13 : Int32) (x14 : Int32) (x15 : Int32) (x16 : Int32) (s0 : Int32) (uw : Nat → Int32) (uf : Nat → Int32) (H : Heap) (locs : List Loc) (ls : Array Slot) (hl : lv_has ls 17 [(0, .ref hLn), (1, .int x1), (2, .int x2), (3, .int x3), (4, .int x4), (5, .int x5), (6, .int x6), (7, .int x7), (8, .int x8), (9, .ref raw), (10, .ref raf), (11, .int x11), (12, .int x12), (13, .int x13), (14, .int x14), (15, .int x15), (16, .int x16)]) (hP : va_P D kCl (([lwW hLn (ad 0) Y.2.1 lbn un, [(raw, .inl (cy 0, 3, .inl uw))], [(raf, .inl (cy 0, 3, .inl uf))], wF cy ad hh aa pa u] : List va_W).flatten) H) (hD : va_D A (([lwW hLn (ad 0) Y.2.1 lbn un, [(raw, .inl (cy 0, 3, .inl uw))], [(raf, .inl (cy 0, 3, .inl uf))], wF cy ad hh aa pa u] : List va_W).flatten)) (hS : va_S A s.heap H locs) (h1 : Ok (fL_addsUp_b244 k77 x1 x2 x3 x4 x5 x6 x7 x8 x11 x12 x13 x14 x15 x16 s0 Y un uw uf u) K) :
    kW2 p l e rmL_addsUp s m args below meth c H locs (va_Qi (fun r (_ : Unit) => K r) (fun _ => kPost D A ([lwW hLn (ad 0) Y.2.1 lbn un, wF cy ad hh aa pa u] : List va_W).flatten) A) A 244 ls [.int s0] := by
  obtain ⟨hx, hb, hr, hml, hown, hts, hlocks, hK, hA⟩ := id E
  unfold fL_addsUp_b244 at h1
  refine lv_iload hx hb dL_addsUp_244 (lv_at hl 15 rfl) ?_
  refine lv_if_ge (tgt := 253) hx hb dL_addsUp_246 (by decide) (fun c246 => ?_) (fun c246 => ?_)
  · replace h1 := Ok.pos c246 h1
    refine lv_iconst (v := 0) hx hb dL_addsUp_253 rfl ?_
    exact tL_addsUp_b254 K E hZ hY un u k77 hk77 x1 x2 x3 x4 x5 x6 x7 x8 x11 x12 x13 x14 x15 x16 s0 0 uw uf H locs ls (lv_sub hl [0, 1, 2, 3, 4, 5, 6, 7, 8, 9, 10, 11, 12, 13, 14, 15, 16] rfl) hP hD hS h1
  · replace h1 := Ok.neg c246 h1
    refine lv_iconst (v := 1) hx hb dL_addsUp_249 rfl ?_
    refine lv_goto (tgt := 254) hx hb dL_addsUp_250 (by decide) ?_
    exact tL_addsUp_b254 K E hZ hY un u k77 hk77 x1 x2 x3 x4 x5 x6 x7 x8 x11 x12 x13 x14 x15 x16 s0 1 uw uf H locs ls (lv_sub hl [0, 1, 2, 3, 4, 5, 6, 7, 8, 9, 10, 11, 12, 13, 14, 15, 16] rfl) hP hD hS h1
def fL_addsUp_b232 (k77 : Int32 × Int32 × Int32 × Int32 × Int32 × Int32 × Int32 × Int32 × Int32 × (Nat → Int32) × (Nat → Int32) → Option (Int32)) (x1 : Int32) (x2 : Int32) (x3 : Int32) (x4 : Int32) (x5 : Int32) (x6 : Int32) (x8 : Int32) (x11 : Int32) (x12 : Int32) (x13 : Int32) (x14 : Int32) (x15 : Int32) (x16 : Int32) (s0 : Int32) (Y : YB) (un : Int32) (uw : Nat → Int32) (uf : Nat → Int32) (u : FS) : Option (Int32) :=
  (if 0 ≤ x14 then fL_addsUp_b244 k77 x1 x2 x3 x4 x5 x6 s0 x8 x11 x12 x13 x14 x15 x16 0 Y un uw uf u else fL_addsUp_b244 k77 x1 x2 x3 x4 x5 x6 s0 x8 x11 x12 x13 x14 x15 x16 1 Y un uw uf u)
set_option maxHeartbeats 4000000 in
set_option maxRecDepth 100000 in
theorem tL_addsUp_b232 {p : Program} {l : Launch} {e : Env} {s : State} {m : MethodId} {args : Array Value} {below : List Frame} {meth : Method} {c : Code} {D : va_G} {cy : Nat → ClassId} {A : Nat → Prop} {hLn : Nat} {lbn : Nat} {raw : Nat} {raf : Nat} {ad : Nat → Nat} {hh : Nat → Nat} {aa : Nat → Nat → Nat} {pa : Nat → Nat} {za zv : Nat → Nat} {Y : YB} (K : Int32 → Prop) (E : mE D cy RL cL_addsUp 17 (some .boolean) wsL_addsUp A p s m args meth c) (hZ : mZ za zv A s s.heap) (hY : mY Y A s s.heap) (un : Int32) (u : FS)
    (k77 : Int32 × Int32 × Int32 × Int32 × Int32 × Int32 × Int32 × Int32 × Int32 × (Nat → Int32) × (Nat → Int32) → Option (Int32)) (hk77 : ∀ (x1 : Int32) (x2 : Int32) (x3 : Int32) (x4 : Int32) (x5 : Int32) (x6 : Int32) (x7 : Int32) (x8 : Int32) (x11 : Int32) (uw : Nat → Int32) (uf : Nat → Int32) (H : Heap) (locs : List Loc) (ls : Array Slot), lv_has ls 17 [(0, .ref hLn), (1, .int x1), (2, .int x2), (3, .int x3), (4, .int x4), (5, .int x5), (6, .int x6), (7, .int x7), (8, .int x8), (9, .ref raw), (10, .ref raf), (11, .int x11)] → va_P D kCl (([lwW hLn (ad 0) Y.2.1 lbn un, [(raw, .inl (cy 0, 3, .inl uw))], [(raf, .inl (cy 0, 3, .inl uf))], wF cy ad hh aa pa u] : List va_W).flatten) H → va_D A (([lwW hLn (ad 0) Y.2.1 lbn un, [(raw, .inl (cy 0, 3, .inl uw))], [(raf, .inl (cy 0, 3, .inl uf))], wF cy ad hh aa pa u] : List va_W).flatten) → va_S A s.heap H locs → Ok (k77 (x1, x2, x3, x4, x5, x6, x7, x8, x11, uw, uf)) K → kW2 p l e rmL_addsUp s m args below meth c H locs (va_Qi (fun r (_ : Unit) => K r) (fun _ => kPost D A ([lwW hLn (ad 0) Y.2.1 lbn un, wF cy ad hh aa pa u] : List va_W).flatten) A) A 77 ls [])
     (x1 : Int32) (x2 : Int32) (x3 : Int32) (x4 : Int32) (x5 : Int32) (x6 : Int32) (x8 : Int32) (x11 : Int32) (x12 : Int32) (x13 : Int32) (x14 : Int32) (x15 : Int32) (x16 : Int32) (s0 : Int32) (uw : Nat → Int32) (uf : Nat → Int32) (H : Heap) (locs : List Loc) (ls : Array Slot) (hl : lv_has ls 17 [(0, .ref hLn), (1, .int x1), (2, .int x2), (3, .int x3), (4, .int x4), (5, .int x5), (6, .int x6), (8, .int x8), (9, .ref raw), (10, .ref raf), (11, .int x11), (12, .int x12), (13, .int x13), (14, .int x14), (15, .int x15), (16, .int x16)]) (hP : va_P D kCl (([lwW hLn (ad 0) Y.2.1 lbn un, [(raw, .inl (cy 0, 3, .inl uw))], [(raf, .inl (cy 0, 3, .inl uf))], wF cy ad hh aa pa u] : List va_W).flatten) H) (hD : va_D A (([lwW hLn (ad 0) Y.2.1 lbn un, [(raw, .inl (cy 0, 3, .inl uw))], [(raf, .inl (cy 0, 3, .inl uf))], wF cy ad hh aa pa u] : List va_W).flatten)) (hS : va_S A s.heap H locs) (h1 : Ok (fL_addsUp_b232 k77 x1 x2 x3 x4 x5 x6 x8 x11 x12 x13 x14 x15 x16 s0 Y un uw uf u) K) :
    kW2 p l e rmL_addsUp s m args below meth c H locs (va_Qi (fun r (_ : Unit) => K r) (fun _ => kPost D A ([lwW hLn (ad 0) Y.2.1 lbn un, wF cy ad hh aa pa u] : List va_W).flatten) A) A 232 ls [.int s0] := by
  obtain ⟨hx, hb, hr, hml, hown, hts, hlocks, hK, hA⟩ := id E
  unfold fL_addsUp_b232 at h1
  refine lv_istore (lv' := [(7, .int s0), (0, .ref hLn), (1, .int x1), (2, .int x2), (3, .int x3), (4, .int x4), (5, .int x5), (6, .int x6), (8, .int x8), (9, .ref raw), (10, .ref raf), (11, .int x11), (12, .int x12), (13, .int x13), (14, .int x14), (15, .int x15), (16, .int x16)]) hx hb dL_addsUp_232 hl (by decide) rfl (fun ls hl => ?_)
  refine lv_iload hx hb dL_addsUp_234 (lv_at hl 14 rfl) ?_
  refine lv_if_ge (tgt := 243) hx hb dL_addsUp_236 (by decide) (fun c236 => ?_) (fun c236 => ?_)
  · replace h1 := Ok.pos c236 h1
    refine lv_iconst (v := 0) hx hb dL_addsUp_243 rfl ?_
    exact tL_addsUp_b244 K E hZ hY un u k77 hk77 x1 x2 x3 x4 x5 x6 s0 x8 x11 x12 x13 x14 x15 x16 0 uw uf H locs ls (lv_sub hl [1, 2, 3, 4, 5, 6, 7, 0, 8, 9, 10, 11, 12, 13, 14, 15, 16] rfl) hP hD hS h1
  · replace h1 := Ok.neg c236 h1
    refine lv_iconst (v := 1) hx hb dL_addsUp_239 rfl ?_
    refine lv_goto (tgt := 244) hx hb dL_addsUp_240 (by decide) ?_
    exact tL_addsUp_b244 K E hZ hY un u k77 hk77 x1 x2 x3 x4 x5 x6 s0 x8 x11 x12 x13 x14 x15 x16 1 uw uf H locs ls (lv_sub hl [1, 2, 3, 4, 5, 6, 7, 0, 8, 9, 10, 11, 12, 13, 14, 15, 16] rfl) hP hD hS h1
def fL_addsUp_b217 (k77 : Int32 × Int32 × Int32 × Int32 × Int32 × Int32 × Int32 × Int32 × Int32 × (Nat → Int32) × (Nat → Int32) → Option (Int32)) (x1 : Int32) (x3 : Int32) (x4 : Int32) (x5 : Int32) (x6 : Int32) (x7 : Int32) (x8 : Int32) (x11 : Int32) (x12 : Int32) (x13 : Int32) (x14 : Int32) (x15 : Int32) (x16 : Int32) (s0 : Int32) (s1 : Int32) (Y : YB) (un : Int32) (uw : Nat → Int32) (uf : Nat → Int32) (u : FS) : Option (Int32) :=
  (if x12 = 1 then fL_addsUp_b232 k77 x1 (s0 + s1) x3 x4 x5 x6 x8 x11 x12 x13 x14 x15 x16 x11 Y un uw uf u else fL_addsUp_b232 k77 x1 (s0 + s1) x3 x4 x5 x6 x8 x11 x12 x13 x14 x15 x16 x7 Y un uw uf u)
set_option maxHeartbeats 4000000 in
set_option maxRecDepth 100000 in
theorem tL_addsUp_b217 {p : Program} {l : Launch} {e : Env} {s : State} {m : MethodId} {args : Array Value} {below : List Frame} {meth : Method} {c : Code} {D : va_G} {cy : Nat → ClassId} {A : Nat → Prop} {hLn : Nat} {lbn : Nat} {raw : Nat} {raf : Nat} {ad : Nat → Nat} {hh : Nat → Nat} {aa : Nat → Nat → Nat} {pa : Nat → Nat} {za zv : Nat → Nat} {Y : YB} (K : Int32 → Prop) (E : mE D cy RL cL_addsUp 17 (some .boolean) wsL_addsUp A p s m args meth c) (hZ : mZ za zv A s s.heap) (hY : mY Y A s s.heap) (un : Int32) (u : FS)
    (k77 : Int32 × Int32 × Int32 × Int32 × Int32 × Int32 × Int32 × Int32 × Int32 × (Nat → Int32) × (Nat → Int32) → Option (Int32)) (hk77 : ∀ (x1 : Int32) (x2 : Int32) (x3 : Int32) (x4 : Int32) (x5 : Int32) (x6 : Int32) (x7 : Int32) (x8 : Int32) (x11 : Int32) (uw : Nat → Int32) (uf : Nat → Int32) (H : Heap) (locs : List Loc) (ls : Array Slot), lv_has ls 17 [(0, .ref hLn), (1, .int x1), (2, .int x2), (3, .int x3), (4, .int x4), (5, .int x5), (6, .int x6), (7, .int x7), (8, .int x8), (9, .ref raw), (10, .ref raf), (11, .int x11)] → va_P D kCl (([lwW hLn (ad 0) Y.2.1 lbn un, [(raw, .inl (cy 0, 3, .inl uw))], [(raf, .inl (cy 0, 3, .inl uf))], wF cy ad hh aa pa u] : List va_W).flatten) H → va_D A (([lwW hLn (ad 0) Y.2.1 lbn un, [(raw, .inl (cy 0, 3, .inl uw))], [(raf, .inl (cy 0, 3, .inl uf))], wF cy ad hh aa pa u] : List va_W).flatten) → va_S A s.heap H locs → Ok (k77 (x1, x2, x3, x4, x5, x6, x7, x8, x11, uw, uf)) K → kW2 p l e rmL_addsUp s m args below meth c H locs (va_Qi (fun r (_ : Unit) => K r) (fun _ => kPost D A ([lwW hLn (ad 0) Y.2.1 lbn un, wF cy ad hh aa pa u] : List va_W).flatten) A) A 77 ls [])
     (x1 : Int32) (x3 : Int32) (x4 : Int32) (x5 : Int32) (x6 : Int32) (x7 : Int32) (x8 : Int32) (x11 : Int32) (x12 : Int32) (x13 : Int32) (x14 : Int32) (x15 : Int32) (x16 : Int32) (s0 : Int32) (s1 : Int32) (uw : Nat → Int32) (uf : Nat → Int32) (H : Heap) (locs : List Loc) (ls : Array Slot) (hl : lv_has ls 17 [(0, .ref hLn), (1, .int x1), (3, .int x3), (4, .int x4), (5, .int x5), (6, .int x6), (7, .int x7), (8, .int x8), (9, .ref raw), (10, .ref raf), (11, .int x11), (12, .int x12), (13, .int x13), (14, .int x14), (15, .int x15), (16, .int x16)]) (hP : va_P D kCl (([lwW hLn (ad 0) Y.2.1 lbn un, [(raw, .inl (cy 0, 3, .inl uw))], [(raf, .inl (cy 0, 3, .inl uf))], wF cy ad hh aa pa u] : List va_W).flatten) H) (hD : va_D A (([lwW hLn (ad 0) Y.2.1 lbn un, [(raw, .inl (cy 0, 3, .inl uw))], [(raf, .inl (cy 0, 3, .inl uf))], wF cy ad hh aa pa u] : List va_W).flatten)) (hS : va_S A s.heap H locs) (h1 : Ok (fL_addsUp_b217 k77 x1 x3 x4 x5 x6 x7 x8 x11 x12 x13 x14 x15 x16 s0 s1 Y un uw uf u) K) :
    kW2 p l e rmL_addsUp s m args below meth c H locs (va_Qi (fun r (_ : Unit) => K r) (fun _ => kPost D A ([lwW hLn (ad 0) Y.2.1 lbn un, wF cy ad hh aa pa u] : List va_W).flatten) A) A 217 ls [.int s1, .int s0] := by
  obtain ⟨hx, hb, hr, hml, hown, hts, hlocks, hK, hA⟩ := id E
  unfold fL_addsUp_b217 at h1
  refine lv_iadd hx hb dL_addsUp_217 ?_
  refine lv_istore_n (lv' := [(2, .int (s0 + s1)), (0, .ref hLn), (1, .int x1), (3, .int x3), (4, .int x4), (5, .int x5), (6, .int x6), (7, .int x7), (8, .int x8), (9, .ref raw), (10, .ref raf), (11, .int x11), (12, .int x12), (13, .int x13), (14, .int x14), (15, .int x15), (16, .int x16)]) hx hb dL_addsUp_218 rfl hl (by decide) rfl (fun ls hl => ?_)
  refine lv_iload hx hb dL_addsUp_219 (lv_at hl 12 rfl) ?_
  refine lv_iconst (v := 1) hx hb dL_addsUp_221 rfl ?_
  refine lv_icmp_ne (tgt := 230) hx hb dL_addsUp_222 (by decide) (fun c222 => ?_) (fun c222 => ?_)
  · replace h1 := Ok.neg c222 h1
    refine lv_iload hx hb dL_addsUp_230 (lv_at hl 7 rfl) ?_
    exact tL_addsUp_b232 K E hZ hY un u k77 hk77 x1 (s0 + s1) x3 x4 x5 x6 x8 x11 x12 x13 x14 x15 x16 x7 uw uf H locs ls (lv_sub hl [1, 2, 0, 3, 4, 5, 6, 8, 9, 10, 11, 12, 13, 14, 15, 16] rfl) hP hD hS h1
  · replace h1 := Ok.pos c222 h1
    refine lv_iload hx hb dL_addsUp_225 (lv_at hl 11 rfl) ?_
    refine lv_goto (tgt := 232) hx hb dL_addsUp_227 (by decide) ?_
    exact tL_addsUp_b232 K E hZ hY un u k77 hk77 x1 (s0 + s1) x3 x4 x5 x6 x8 x11 x12 x13 x14 x15 x16 x11 uw uf H locs ls (lv_sub hl [1, 2, 0, 3, 4, 5, 6, 8, 9, 10, 11, 12, 13, 14, 15, 16] rfl) hP hD hS h1
def fL_addsUp_b201 (k77 : Int32 × Int32 × Int32 × Int32 × Int32 × Int32 × Int32 × Int32 × Int32 × (Nat → Int32) × (Nat → Int32) → Option (Int32)) (x1 : Int32) (x2 : Int32) (x3 : Int32) (x4 : Int32) (x5 : Int32) (x7 : Int32) (x8 : Int32) (x11 : Int32) (x12 : Int32) (x13 : Int32) (x14 : Int32) (x15 : Int32) (x16 : Int32) (s0 : Int32) (s1 : Int32) (Y : YB) (un : Int32) (uw : Nat → Int32) (uf : Nat → Int32) (u : FS) : Option (Int32) :=
  (if x12 = 2 then fL_addsUp_b217 k77 x1 x3 x4 x5 (s0 + s1) x7 x8 x11 x12 x13 x14 x15 x16 x2 x13 Y un uw uf u else fL_addsUp_b217 k77 x1 x3 x4 x5 (s0 + s1) x7 x8 x11 x12 x13 x14 x15 x16 x2 0 Y un uw uf u)
set_option maxHeartbeats 4000000 in
set_option maxRecDepth 100000 in
theorem tL_addsUp_b201 {p : Program} {l : Launch} {e : Env} {s : State} {m : MethodId} {args : Array Value} {below : List Frame} {meth : Method} {c : Code} {D : va_G} {cy : Nat → ClassId} {A : Nat → Prop} {hLn : Nat} {lbn : Nat} {raw : Nat} {raf : Nat} {ad : Nat → Nat} {hh : Nat → Nat} {aa : Nat → Nat → Nat} {pa : Nat → Nat} {za zv : Nat → Nat} {Y : YB} (K : Int32 → Prop) (E : mE D cy RL cL_addsUp 17 (some .boolean) wsL_addsUp A p s m args meth c) (hZ : mZ za zv A s s.heap) (hY : mY Y A s s.heap) (un : Int32) (u : FS)
    (k77 : Int32 × Int32 × Int32 × Int32 × Int32 × Int32 × Int32 × Int32 × Int32 × (Nat → Int32) × (Nat → Int32) → Option (Int32)) (hk77 : ∀ (x1 : Int32) (x2 : Int32) (x3 : Int32) (x4 : Int32) (x5 : Int32) (x6 : Int32) (x7 : Int32) (x8 : Int32) (x11 : Int32) (uw : Nat → Int32) (uf : Nat → Int32) (H : Heap) (locs : List Loc) (ls : Array Slot), lv_has ls 17 [(0, .ref hLn), (1, .int x1), (2, .int x2), (3, .int x3), (4, .int x4), (5, .int x5), (6, .int x6), (7, .int x7), (8, .int x8), (9, .ref raw), (10, .ref raf), (11, .int x11)] → va_P D kCl (([lwW hLn (ad 0) Y.2.1 lbn un, [(raw, .inl (cy 0, 3, .inl uw))], [(raf, .inl (cy 0, 3, .inl uf))], wF cy ad hh aa pa u] : List va_W).flatten) H → va_D A (([lwW hLn (ad 0) Y.2.1 lbn un, [(raw, .inl (cy 0, 3, .inl uw))], [(raf, .inl (cy 0, 3, .inl uf))], wF cy ad hh aa pa u] : List va_W).flatten) → va_S A s.heap H locs → Ok (k77 (x1, x2, x3, x4, x5, x6, x7, x8, x11, uw, uf)) K → kW2 p l e rmL_addsUp s m args below meth c H locs (va_Qi (fun r (_ : Unit) => K r) (fun _ => kPost D A ([lwW hLn (ad 0) Y.2.1 lbn un, wF cy ad hh aa pa u] : List va_W).flatten) A) A 77 ls [])
     (x1 : Int32) (x2 : Int32) (x3 : Int32) (x4 : Int32) (x5 : Int32) (x7 : Int32) (x8 : Int32) (x11 : Int32) (x12 : Int32) (x13 : Int32) (x14 : Int32) (x15 : Int32) (x16 : Int32) (s0 : Int32) (s1 : Int32) (uw : Nat → Int32) (uf : Nat → Int32) (H : Heap) (locs : List Loc) (ls : Array Slot) (hl : lv_has ls 17 [(0, .ref hLn), (1, .int x1), (2, .int x2), (3, .int x3), (4, .int x4), (5, .int x5), (7, .int x7), (8, .int x8), (9, .ref raw), (10, .ref raf), (11, .int x11), (12, .int x12), (13, .int x13), (14, .int x14), (15, .int x15), (16, .int x16)]) (hP : va_P D kCl (([lwW hLn (ad 0) Y.2.1 lbn un, [(raw, .inl (cy 0, 3, .inl uw))], [(raf, .inl (cy 0, 3, .inl uf))], wF cy ad hh aa pa u] : List va_W).flatten) H) (hD : va_D A (([lwW hLn (ad 0) Y.2.1 lbn un, [(raw, .inl (cy 0, 3, .inl uw))], [(raf, .inl (cy 0, 3, .inl uf))], wF cy ad hh aa pa u] : List va_W).flatten)) (hS : va_S A s.heap H locs) (h1 : Ok (fL_addsUp_b201 k77 x1 x2 x3 x4 x5 x7 x8 x11 x12 x13 x14 x15 x16 s0 s1 Y un uw uf u) K) :
    kW2 p l e rmL_addsUp s m args below meth c H locs (va_Qi (fun r (_ : Unit) => K r) (fun _ => kPost D A ([lwW hLn (ad 0) Y.2.1 lbn un, wF cy ad hh aa pa u] : List va_W).flatten) A) A 201 ls [.int s1, .int s0] := by
  obtain ⟨hx, hb, hr, hml, hown, hts, hlocks, hK, hA⟩ := id E
  unfold fL_addsUp_b201 at h1
  refine lv_iadd hx hb dL_addsUp_201 ?_
  refine lv_istore (lv' := [(6, .int (s0 + s1)), (0, .ref hLn), (1, .int x1), (2, .int x2), (3, .int x3), (4, .int x4), (5, .int x5), (7, .int x7), (8, .int x8), (9, .ref raw), (10, .ref raf), (11, .int x11), (12, .int x12), (13, .int x13), (14, .int x14), (15, .int x15), (16, .int x16)]) hx hb dL_addsUp_202 hl (by decide) rfl (fun ls hl => ?_)
  refine lv_iload_n hx hb dL_addsUp_204 rfl (lv_at hl 3 rfl) ?_
  refine lv_iload hx hb dL_addsUp_205 (lv_at hl 12 rfl) ?_
  refine lv_iconst (v := 2) hx hb dL_addsUp_207 rfl ?_
  refine lv_icmp_ne (tgt := 216) hx hb dL_addsUp_208 (by decide) (fun c208 => ?_) (fun c208 => ?_)
  · replace h1 := Ok.neg c208 h1
    refine lv_iconst (v := 0) hx hb dL_addsUp_216 rfl ?_
    exact tL_addsUp_b217 K E hZ hY un u k77 hk77 x1 x3 x4 x5 (s0 + s1) x7 x8 x11 x12 x13 x14 x15 x16 x2 0 uw uf H locs ls (lv_sub hl [1, 2, 4, 5, 6, 0, 7, 8, 9, 10, 11, 12, 13, 14, 15, 16] rfl) hP hD hS h1
  · replace h1 := Ok.pos c208 h1
    refine lv_iload hx hb dL_addsUp_211 (lv_at hl 13 rfl) ?_
    refine lv_goto (tgt := 217) hx hb dL_addsUp_213 (by decide) ?_
    exact tL_addsUp_b217 K E hZ hY un u k77 hk77 x1 x3 x4 x5 (s0 + s1) x7 x8 x11 x12 x13 x14 x15 x16 x2 x13 uw uf H locs ls (lv_sub hl [1, 2, 4, 5, 6, 0, 7, 8, 9, 10, 11, 12, 13, 14, 15, 16] rfl) hP hD hS h1
def fL_addsUp_b186 (k77 : Int32 × Int32 × Int32 × Int32 × Int32 × Int32 × Int32 × Int32 × Int32 × (Nat → Int32) × (Nat → Int32) → Option (Int32)) (x1 : Int32) (x2 : Int32) (x3 : Int32) (x4 : Int32) (x6 : Int32) (x7 : Int32) (x8 : Int32) (x11 : Int32) (x12 : Int32) (x13 : Int32) (x14 : Int32) (x15 : Int32) (x16 : Int32) (s0 : Int32) (s1 : Int32) (Y : YB) (un : Int32) (uw : Nat → Int32) (uf : Nat → Int32) (u : FS) : Option (Int32) :=
  (if x16 < 0 then fL_addsUp_b201 k77 x1 x2 x3 x4 (s0 + s1) x7 x8 x11 x12 x13 x14 x15 x16 x6 0 Y un uw uf u else fL_addsUp_b201 k77 x1 x2 x3 x4 (s0 + s1) x7 x8 x11 x12 x13 x14 x15 x16 x6 1 Y un uw uf u)
set_option maxHeartbeats 4000000 in
set_option maxRecDepth 100000 in
theorem tL_addsUp_b186 {p : Program} {l : Launch} {e : Env} {s : State} {m : MethodId} {args : Array Value} {below : List Frame} {meth : Method} {c : Code} {D : va_G} {cy : Nat → ClassId} {A : Nat → Prop} {hLn : Nat} {lbn : Nat} {raw : Nat} {raf : Nat} {ad : Nat → Nat} {hh : Nat → Nat} {aa : Nat → Nat → Nat} {pa : Nat → Nat} {za zv : Nat → Nat} {Y : YB} (K : Int32 → Prop) (E : mE D cy RL cL_addsUp 17 (some .boolean) wsL_addsUp A p s m args meth c) (hZ : mZ za zv A s s.heap) (hY : mY Y A s s.heap) (un : Int32) (u : FS)
    (k77 : Int32 × Int32 × Int32 × Int32 × Int32 × Int32 × Int32 × Int32 × Int32 × (Nat → Int32) × (Nat → Int32) → Option (Int32)) (hk77 : ∀ (x1 : Int32) (x2 : Int32) (x3 : Int32) (x4 : Int32) (x5 : Int32) (x6 : Int32) (x7 : Int32) (x8 : Int32) (x11 : Int32) (uw : Nat → Int32) (uf : Nat → Int32) (H : Heap) (locs : List Loc) (ls : Array Slot), lv_has ls 17 [(0, .ref hLn), (1, .int x1), (2, .int x2), (3, .int x3), (4, .int x4), (5, .int x5), (6, .int x6), (7, .int x7), (8, .int x8), (9, .ref raw), (10, .ref raf), (11, .int x11)] → va_P D kCl (([lwW hLn (ad 0) Y.2.1 lbn un, [(raw, .inl (cy 0, 3, .inl uw))], [(raf, .inl (cy 0, 3, .inl uf))], wF cy ad hh aa pa u] : List va_W).flatten) H → va_D A (([lwW hLn (ad 0) Y.2.1 lbn un, [(raw, .inl (cy 0, 3, .inl uw))], [(raf, .inl (cy 0, 3, .inl uf))], wF cy ad hh aa pa u] : List va_W).flatten) → va_S A s.heap H locs → Ok (k77 (x1, x2, x3, x4, x5, x6, x7, x8, x11, uw, uf)) K → kW2 p l e rmL_addsUp s m args below meth c H locs (va_Qi (fun r (_ : Unit) => K r) (fun _ => kPost D A ([lwW hLn (ad 0) Y.2.1 lbn un, wF cy ad hh aa pa u] : List va_W).flatten) A) A 77 ls [])
     (x1 : Int32) (x2 : Int32) (x3 : Int32) (x4 : Int32) (x6 : Int32) (x7 : Int32) (x8 : Int32) (x11 : Int32) (x12 : Int32) (x13 : Int32) (x14 : Int32) (x15 : Int32) (x16 : Int32) (s0 : Int32) (s1 : Int32) (uw : Nat → Int32) (uf : Nat → Int32) (H : Heap) (locs : List Loc) (ls : Array Slot) (hl : lv_has ls 17 [(0, .ref hLn), (1, .int x1), (2, .int x2), (3, .int x3), (4, .int x4), (6, .int x6), (7, .int x7), (8, .int x8), (9, .ref raw), (10, .ref raf), (11, .int x11), (12, .int x12), (13, .int x13), (14, .int x14), (15, .int x15), (16, .int x16)]) (hP : va_P D kCl (([lwW hLn (ad 0) Y.2.1 lbn un, [(raw, .inl (cy 0, 3, .inl uw))], [(raf, .inl (cy 0, 3, .inl uf))], wF cy ad hh aa pa u] : List va_W).flatten) H) (hD : va_D A (([lwW hLn (ad 0) Y.2.1 lbn un, [(raw, .inl (cy 0, 3, .inl uw))], [(raf, .inl (cy 0, 3, .inl uf))], wF cy ad hh aa pa u] : List va_W).flatten)) (hS : va_S A s.heap H locs) (h1 : Ok (fL_addsUp_b186 k77 x1 x2 x3 x4 x6 x7 x8 x11 x12 x13 x14 x15 x16 s0 s1 Y un uw uf u) K) :
    kW2 p l e rmL_addsUp s m args below meth c H locs (va_Qi (fun r (_ : Unit) => K r) (fun _ => kPost D A ([lwW hLn (ad 0) Y.2.1 lbn un, wF cy ad hh aa pa u] : List va_W).flatten) A) A 186 ls [.int s1, .int s0] := by
  obtain ⟨hx, hb, hr, hml, hown, hts, hlocks, hK, hA⟩ := id E
  unfold fL_addsUp_b186 at h1
  refine lv_iadd hx hb dL_addsUp_186 ?_
  refine lv_istore (lv' := [(5, .int (s0 + s1)), (0, .ref hLn), (1, .int x1), (2, .int x2), (3, .int x3), (4, .int x4), (6, .int x6), (7, .int x7), (8, .int x8), (9, .ref raw), (10, .ref raf), (11, .int x11), (12, .int x12), (13, .int x13), (14, .int x14), (15, .int x15), (16, .int x16)]) hx hb dL_addsUp_187 hl (by decide) rfl (fun ls hl => ?_)
  refine lv_iload hx hb dL_addsUp_189 (lv_at hl 6 rfl) ?_
  refine lv_iload hx hb dL_addsUp_191 (lv_at hl 16 rfl) ?_
  refine lv_if_lt (tgt := 200) hx hb dL_addsUp_193 (by decide) (fun c193 => ?_) (fun c193 => ?_)
  · replace h1 := Ok.pos c193 h1
    refine lv_iconst (v := 0) hx hb dL_addsUp_200 rfl ?_
    exact tL_addsUp_b201 K E hZ hY un u k77 hk77 x1 x2 x3 x4 (s0 + s1) x7 x8 x11 x12 x13 x14 x15 x16 x6 0 uw uf H locs ls (lv_sub hl [1, 2, 3, 4, 5, 0, 7, 8, 9, 10, 11, 12, 13, 14, 15, 16] rfl) hP hD hS h1
  · replace h1 := Ok.neg c193 h1
    refine lv_iconst (v := 1) hx hb dL_addsUp_196 rfl ?_
    refine lv_goto (tgt := 201) hx hb dL_addsUp_197 (by decide) ?_
    exact tL_addsUp_b201 K E hZ hY un u k77 hk77 x1 x2 x3 x4 (s0 + s1) x7 x8 x11 x12 x13 x14 x15 x16 x6 1 uw uf H locs ls (lv_sub hl [1, 2, 3, 4, 5, 0, 7, 8, 9, 10, 11, 12, 13, 14, 15, 16] rfl) hP hD hS h1
def fL_addsUp_b170 (k77 : Int32 × Int32 × Int32 × Int32 × Int32 × Int32 × Int32 × Int32 × Int32 × (Nat → Int32) × (Nat → Int32) → Option (Int32)) (x1 : Int32) (x2 : Int32) (x3 : Int32) (x5 : Int32) (x6 : Int32) (x7 : Int32) (x8 : Int32) (x11 : Int32) (x12 : Int32) (x13 : Int32) (x14 : Int32) (x15 : Int32) (x16 : Int32) (s0 : Int32) (s1 : Int32) (Y : YB) (un : Int32) (uw : Nat → Int32) (uf : Nat → Int32) (u : FS) : Option (Int32) :=
  (if x12 = 3 then fL_addsUp_b186 k77 x1 x2 x3 (s0 + s1) x6 x7 x8 x11 x12 x13 x14 x15 x16 x5 1 Y un uw uf u else fL_addsUp_b186 k77 x1 x2 x3 (s0 + s1) x6 x7 x8 x11 x12 x13 x14 x15 x16 x5 0 Y un uw uf u)
set_option maxHeartbeats 4000000 in
set_option maxRecDepth 100000 in
theorem tL_addsUp_b170 {p : Program} {l : Launch} {e : Env} {s : State} {m : MethodId} {args : Array Value} {below : List Frame} {meth : Method} {c : Code} {D : va_G} {cy : Nat → ClassId} {A : Nat → Prop} {hLn : Nat} {lbn : Nat} {raw : Nat} {raf : Nat} {ad : Nat → Nat} {hh : Nat → Nat} {aa : Nat → Nat → Nat} {pa : Nat → Nat} {za zv : Nat → Nat} {Y : YB} (K : Int32 → Prop) (E : mE D cy RL cL_addsUp 17 (some .boolean) wsL_addsUp A p s m args meth c) (hZ : mZ za zv A s s.heap) (hY : mY Y A s s.heap) (un : Int32) (u : FS)
    (k77 : Int32 × Int32 × Int32 × Int32 × Int32 × Int32 × Int32 × Int32 × Int32 × (Nat → Int32) × (Nat → Int32) → Option (Int32)) (hk77 : ∀ (x1 : Int32) (x2 : Int32) (x3 : Int32) (x4 : Int32) (x5 : Int32) (x6 : Int32) (x7 : Int32) (x8 : Int32) (x11 : Int32) (uw : Nat → Int32) (uf : Nat → Int32) (H : Heap) (locs : List Loc) (ls : Array Slot), lv_has ls 17 [(0, .ref hLn), (1, .int x1), (2, .int x2), (3, .int x3), (4, .int x4), (5, .int x5), (6, .int x6), (7, .int x7), (8, .int x8), (9, .ref raw), (10, .ref raf), (11, .int x11)] → va_P D kCl (([lwW hLn (ad 0) Y.2.1 lbn un, [(raw, .inl (cy 0, 3, .inl uw))], [(raf, .inl (cy 0, 3, .inl uf))], wF cy ad hh aa pa u] : List va_W).flatten) H → va_D A (([lwW hLn (ad 0) Y.2.1 lbn un, [(raw, .inl (cy 0, 3, .inl uw))], [(raf, .inl (cy 0, 3, .inl uf))], wF cy ad hh aa pa u] : List va_W).flatten) → va_S A s.heap H locs → Ok (k77 (x1, x2, x3, x4, x5, x6, x7, x8, x11, uw, uf)) K → kW2 p l e rmL_addsUp s m args below meth c H locs (va_Qi (fun r (_ : Unit) => K r) (fun _ => kPost D A ([lwW hLn (ad 0) Y.2.1 lbn un, wF cy ad hh aa pa u] : List va_W).flatten) A) A 77 ls [])
     (x1 : Int32) (x2 : Int32) (x3 : Int32) (x5 : Int32) (x6 : Int32) (x7 : Int32) (x8 : Int32) (x11 : Int32) (x12 : Int32) (x13 : Int32) (x14 : Int32) (x15 : Int32) (x16 : Int32) (s0 : Int32) (s1 : Int32) (uw : Nat → Int32) (uf : Nat → Int32) (H : Heap) (locs : List Loc) (ls : Array Slot) (hl : lv_has ls 17 [(0, .ref hLn), (1, .int x1), (2, .int x2), (3, .int x3), (5, .int x5), (6, .int x6), (7, .int x7), (8, .int x8), (9, .ref raw), (10, .ref raf), (11, .int x11), (12, .int x12), (13, .int x13), (14, .int x14), (15, .int x15), (16, .int x16)]) (hP : va_P D kCl (([lwW hLn (ad 0) Y.2.1 lbn un, [(raw, .inl (cy 0, 3, .inl uw))], [(raf, .inl (cy 0, 3, .inl uf))], wF cy ad hh aa pa u] : List va_W).flatten) H) (hD : va_D A (([lwW hLn (ad 0) Y.2.1 lbn un, [(raw, .inl (cy 0, 3, .inl uw))], [(raf, .inl (cy 0, 3, .inl uf))], wF cy ad hh aa pa u] : List va_W).flatten)) (hS : va_S A s.heap H locs) (h1 : Ok (fL_addsUp_b170 k77 x1 x2 x3 x5 x6 x7 x8 x11 x12 x13 x14 x15 x16 s0 s1 Y un uw uf u) K) :
    kW2 p l e rmL_addsUp s m args below meth c H locs (va_Qi (fun r (_ : Unit) => K r) (fun _ => kPost D A ([lwW hLn (ad 0) Y.2.1 lbn un, wF cy ad hh aa pa u] : List va_W).flatten) A) A 170 ls [.int s1, .int s0] := by
  obtain ⟨hx, hb, hr, hml, hown, hts, hlocks, hK, hA⟩ := id E
  unfold fL_addsUp_b170 at h1
  refine lv_iadd hx hb dL_addsUp_170 ?_
  refine lv_istore (lv' := [(4, .int (s0 + s1)), (0, .ref hLn), (1, .int x1), (2, .int x2), (3, .int x3), (5, .int x5), (6, .int x6), (7, .int x7), (8, .int x8), (9, .ref raw), (10, .ref raf), (11, .int x11), (12, .int x12), (13, .int x13), (14, .int x14), (15, .int x15), (16, .int x16)]) hx hb dL_addsUp_171 hl (by decide) rfl (fun ls hl => ?_)
  refine lv_iload hx hb dL_addsUp_173 (lv_at hl 5 rfl) ?_
  refine lv_iload hx hb dL_addsUp_175 (lv_at hl 12 rfl) ?_
  refine lv_iconst (v := 3) hx hb dL_addsUp_177 rfl ?_
  refine lv_icmp_ne (tgt := 185) hx hb dL_addsUp_178 (by decide) (fun c178 => ?_) (fun c178 => ?_)
  · replace h1 := Ok.neg c178 h1
    refine lv_iconst (v := 0) hx hb dL_addsUp_185 rfl ?_
    exact tL_addsUp_b186 K E hZ hY un u k77 hk77 x1 x2 x3 (s0 + s1) x6 x7 x8 x11 x12 x13 x14 x15 x16 x5 0 uw uf H locs ls (lv_sub hl [1, 2, 3, 4, 0, 6, 7, 8, 9, 10, 11, 12, 13, 14, 15, 16] rfl) hP hD hS h1
  · replace h1 := Ok.pos c178 h1
    refine lv_iconst (v := 1) hx hb dL_addsUp_181 rfl ?_
    refine lv_goto (tgt := 186) hx hb dL_addsUp_182 (by decide) ?_
    exact tL_addsUp_b186 K E hZ hY un u k77 hk77 x1 x2 x3 (s0 + s1) x6 x7 x8 x11 x12 x13 x14 x15 x16 x5 1 uw uf H locs ls (lv_sub hl [1, 2, 3, 4, 0, 6, 7, 8, 9, 10, 11, 12, 13, 14, 15, 16] rfl) hP hD hS h1
def fL_addsUp_b155 (k77 : Int32 × Int32 × Int32 × Int32 × Int32 × Int32 × Int32 × Int32 × Int32 × (Nat → Int32) × (Nat → Int32) → Option (Int32)) (x1 : Int32) (x2 : Int32) (x4 : Int32) (x5 : Int32) (x6 : Int32) (x7 : Int32) (x8 : Int32) (x11 : Int32) (x12 : Int32) (x13 : Int32) (x14 : Int32) (x15 : Int32) (x16 : Int32) (s0 : Int32) (s1 : Int32) (Y : YB) (un : Int32) (uw : Nat → Int32) (uf : Nat → Int32) (u : FS) : Option (Int32) :=
  (if x12 = 2 then fL_addsUp_b170 k77 x1 x2 (s0 + s1) x5 x6 x7 x8 x11 x12 x13 x14 x15 x16 x4 1 Y un uw uf u else fL_addsUp_b170 k77 x1 x2 (s0 + s1) x5 x6 x7 x8 x11 x12 x13 x14 x15 x16 x4 0 Y un uw uf u)
set_option maxHeartbeats 4000000 in
set_option maxRecDepth 100000 in
theorem tL_addsUp_b155 {p : Program} {l : Launch} {e : Env} {s : State} {m : MethodId} {args : Array Value} {below : List Frame} {meth : Method} {c : Code} {D : va_G} {cy : Nat → ClassId} {A : Nat → Prop} {hLn : Nat} {lbn : Nat} {raw : Nat} {raf : Nat} {ad : Nat → Nat} {hh : Nat → Nat} {aa : Nat → Nat → Nat} {pa : Nat → Nat} {za zv : Nat → Nat} {Y : YB} (K : Int32 → Prop) (E : mE D cy RL cL_addsUp 17 (some .boolean) wsL_addsUp A p s m args meth c) (hZ : mZ za zv A s s.heap) (hY : mY Y A s s.heap) (un : Int32) (u : FS)
    (k77 : Int32 × Int32 × Int32 × Int32 × Int32 × Int32 × Int32 × Int32 × Int32 × (Nat → Int32) × (Nat → Int32) → Option (Int32)) (hk77 : ∀ (x1 : Int32) (x2 : Int32) (x3 : Int32) (x4 : Int32) (x5 : Int32) (x6 : Int32) (x7 : Int32) (x8 : Int32) (x11 : Int32) (uw : Nat → Int32) (uf : Nat → Int32) (H : Heap) (locs : List Loc) (ls : Array Slot), lv_has ls 17 [(0, .ref hLn), (1, .int x1), (2, .int x2), (3, .int x3), (4, .int x4), (5, .int x5), (6, .int x6), (7, .int x7), (8, .int x8), (9, .ref raw), (10, .ref raf), (11, .int x11)] → va_P D kCl (([lwW hLn (ad 0) Y.2.1 lbn un, [(raw, .inl (cy 0, 3, .inl uw))], [(raf, .inl (cy 0, 3, .inl uf))], wF cy ad hh aa pa u] : List va_W).flatten) H → va_D A (([lwW hLn (ad 0) Y.2.1 lbn un, [(raw, .inl (cy 0, 3, .inl uw))], [(raf, .inl (cy 0, 3, .inl uf))], wF cy ad hh aa pa u] : List va_W).flatten) → va_S A s.heap H locs → Ok (k77 (x1, x2, x3, x4, x5, x6, x7, x8, x11, uw, uf)) K → kW2 p l e rmL_addsUp s m args below meth c H locs (va_Qi (fun r (_ : Unit) => K r) (fun _ => kPost D A ([lwW hLn (ad 0) Y.2.1 lbn un, wF cy ad hh aa pa u] : List va_W).flatten) A) A 77 ls [])
     (x1 : Int32) (x2 : Int32) (x4 : Int32) (x5 : Int32) (x6 : Int32) (x7 : Int32) (x8 : Int32) (x11 : Int32) (x12 : Int32) (x13 : Int32) (x14 : Int32) (x15 : Int32) (x16 : Int32) (s0 : Int32) (s1 : Int32) (uw : Nat → Int32) (uf : Nat → Int32) (H : Heap) (locs : List Loc) (ls : Array Slot) (hl : lv_has ls 17 [(0, .ref hLn), (1, .int x1), (2, .int x2), (4, .int x4), (5, .int x5), (6, .int x6), (7, .int x7), (8, .int x8), (9, .ref raw), (10, .ref raf), (11, .int x11), (12, .int x12), (13, .int x13), (14, .int x14), (15, .int x15), (16, .int x16)]) (hP : va_P D kCl (([lwW hLn (ad 0) Y.2.1 lbn un, [(raw, .inl (cy 0, 3, .inl uw))], [(raf, .inl (cy 0, 3, .inl uf))], wF cy ad hh aa pa u] : List va_W).flatten) H) (hD : va_D A (([lwW hLn (ad 0) Y.2.1 lbn un, [(raw, .inl (cy 0, 3, .inl uw))], [(raf, .inl (cy 0, 3, .inl uf))], wF cy ad hh aa pa u] : List va_W).flatten)) (hS : va_S A s.heap H locs) (h1 : Ok (fL_addsUp_b155 k77 x1 x2 x4 x5 x6 x7 x8 x11 x12 x13 x14 x15 x16 s0 s1 Y un uw uf u) K) :
    kW2 p l e rmL_addsUp s m args below meth c H locs (va_Qi (fun r (_ : Unit) => K r) (fun _ => kPost D A ([lwW hLn (ad 0) Y.2.1 lbn un, wF cy ad hh aa pa u] : List va_W).flatten) A) A 155 ls [.int s1, .int s0] := by
  obtain ⟨hx, hb, hr, hml, hown, hts, hlocks, hK, hA⟩ := id E
  unfold fL_addsUp_b155 at h1
  refine lv_iadd hx hb dL_addsUp_155 ?_
  refine lv_istore_n (lv' := [(3, .int (s0 + s1)), (0, .ref hLn), (1, .int x1), (2, .int x2), (4, .int x4), (5, .int x5), (6, .int x6), (7, .int x7), (8, .int x8), (9, .ref raw), (10, .ref raf), (11, .int x11), (12, .int x12), (13, .int x13), (14, .int x14), (15, .int x15), (16, .int x16)]) hx hb dL_addsUp_156 rfl hl (by decide) rfl (fun ls hl => ?_)
  refine lv_iload hx hb dL_addsUp_157 (lv_at hl 4 rfl) ?_
  refine lv_iload hx hb dL_addsUp_159 (lv_at hl 12 rfl) ?_
  refine lv_iconst (v := 2) hx hb dL_addsUp_161 rfl ?_
  refine lv_icmp_ne (tgt := 169) hx hb dL_addsUp_162 (by decide) (fun c162 => ?_) (fun c162 => ?_)
  · replace h1 := Ok.neg c162 h1
    refine lv_iconst (v := 0) hx hb dL_addsUp_169 rfl ?_
    exact tL_addsUp_b170 K E hZ hY un u k77 hk77 x1 x2 (s0 + s1) x5 x6 x7 x8 x11 x12 x13 x14 x15 x16 x4 0 uw uf H locs ls (lv_sub hl [1, 2, 3, 0, 5, 6, 7, 8, 9, 10, 11, 12, 13, 14, 15, 16] rfl) hP hD hS h1
  · replace h1 := Ok.pos c162 h1
    refine lv_iconst (v := 1) hx hb dL_addsUp_165 rfl ?_
    refine lv_goto (tgt := 170) hx hb dL_addsUp_166 (by decide) ?_
    exact tL_addsUp_b170 K E hZ hY un u k77 hk77 x1 x2 (s0 + s1) x5 x6 x7 x8 x11 x12 x13 x14 x15 x16 x4 1 uw uf H locs ls (lv_sub hl [1, 2, 3, 0, 5, 6, 7, 8, 9, 10, 11, 12, 13, 14, 15, 16] rfl) hP hD hS h1
def fL_addsUp_b77 (k77 : Int32 × Int32 × Int32 × Int32 × Int32 × Int32 × Int32 × Int32 × Int32 × (Nat → Int32) × (Nat → Int32) → Option (Int32)) (x1 : Int32) (x2 : Int32) (x3 : Int32) (x4 : Int32) (x5 : Int32) (x6 : Int32) (x7 : Int32) (x8 : Int32) (x11 : Int32) (Y : YB) (un : Int32) (uw : Nat → Int32) (uf : Nat → Int32) (u : FS) : Option (Int32) :=
  (if x1 ≤ x11 then lop (fun y z => fL_addsUp_b400 y z.1 z.2.1 z.2.2.1 z.2.2.2.1 z.2.2.2.2.1 z.2.2.2.2.2.1 z.2.2.2.2.2.2.1 z.2.2.2.2.2.2.2.1 Y un z.2.2.2.2.2.2.2.2.1 z.2.2.2.2.2.2.2.2.2 u) LF (x2, x3, x4, x5, x6, x7, x8, 0, uw, uf) else bnd (fL_car x11 2 u) (fun r90 => bnd (fL_car x11 1 u) (fun r102 => bnd (fL_car x11 3 u) (fun r114 => bnd (fL_car x11 5 u) (fun r126 => bnd (fL_car x11 6 u) (fun r139 => (if r90 = 0 then fL_addsUp_b155 k77 x1 x2 x4 x5 x6 x7 x8 x11 r90 r102 r114 r126 r139 x3 1 Y un uw uf u else fL_addsUp_b155 k77 x1 x2 x4 x5 x6 x7 x8 x11 r90 r102 r114 r126 r139 x3 0 Y un uw uf u)))))))
set_option maxHeartbeats 4000000 in
set_option maxRecDepth 100000 in
theorem tL_addsUp_b77 {p : Program} {l : Launch} {e : Env} {s : State} {m : MethodId} {args : Array Value} {below : List Frame} {meth : Method} {c : Code} {D : va_G} {cy : Nat → ClassId} {A : Nat → Prop} {hLn : Nat} {lbn : Nat} {raw : Nat} {raf : Nat} {ad : Nat → Nat} {hh : Nat → Nat} {aa : Nat → Nat → Nat} {pa : Nat → Nat} {za zv : Nat → Nat} {Y : YB} (K : Int32 → Prop) (E : mE D cy RL cL_addsUp 17 (some .boolean) wsL_addsUp A p s m args meth c) (hZ : mZ za zv A s s.heap) (hY : mY Y A s s.heap) (un : Int32) (u : FS)
    (k77 : Int32 × Int32 × Int32 × Int32 × Int32 × Int32 × Int32 × Int32 × Int32 × (Nat → Int32) × (Nat → Int32) → Option (Int32)) (hk77 : ∀ (x1 : Int32) (x2 : Int32) (x3 : Int32) (x4 : Int32) (x5 : Int32) (x6 : Int32) (x7 : Int32) (x8 : Int32) (x11 : Int32) (uw : Nat → Int32) (uf : Nat → Int32) (H : Heap) (locs : List Loc) (ls : Array Slot), lv_has ls 17 [(0, .ref hLn), (1, .int x1), (2, .int x2), (3, .int x3), (4, .int x4), (5, .int x5), (6, .int x6), (7, .int x7), (8, .int x8), (9, .ref raw), (10, .ref raf), (11, .int x11)] → va_P D kCl (([lwW hLn (ad 0) Y.2.1 lbn un, [(raw, .inl (cy 0, 3, .inl uw))], [(raf, .inl (cy 0, 3, .inl uf))], wF cy ad hh aa pa u] : List va_W).flatten) H → va_D A (([lwW hLn (ad 0) Y.2.1 lbn un, [(raw, .inl (cy 0, 3, .inl uw))], [(raf, .inl (cy 0, 3, .inl uf))], wF cy ad hh aa pa u] : List va_W).flatten) → va_S A s.heap H locs → Ok (k77 (x1, x2, x3, x4, x5, x6, x7, x8, x11, uw, uf)) K → kW2 p l e rmL_addsUp s m args below meth c H locs (va_Qi (fun r (_ : Unit) => K r) (fun _ => kPost D A ([lwW hLn (ad 0) Y.2.1 lbn un, wF cy ad hh aa pa u] : List va_W).flatten) A) A 77 ls [])
     (x1 : Int32) (x2 : Int32) (x3 : Int32) (x4 : Int32) (x5 : Int32) (x6 : Int32) (x7 : Int32) (x8 : Int32) (x11 : Int32) (uw : Nat → Int32) (uf : Nat → Int32) (H : Heap) (locs : List Loc) (ls : Array Slot) (hl : lv_has ls 17 [(0, .ref hLn), (1, .int x1), (2, .int x2), (3, .int x3), (4, .int x4), (5, .int x5), (6, .int x6), (7, .int x7), (8, .int x8), (9, .ref raw), (10, .ref raf), (11, .int x11)]) (hP : va_P D kCl (([lwW hLn (ad 0) Y.2.1 lbn un, [(raw, .inl (cy 0, 3, .inl uw))], [(raf, .inl (cy 0, 3, .inl uf))], wF cy ad hh aa pa u] : List va_W).flatten) H) (hD : va_D A (([lwW hLn (ad 0) Y.2.1 lbn un, [(raw, .inl (cy 0, 3, .inl uw))], [(raf, .inl (cy 0, 3, .inl uf))], wF cy ad hh aa pa u] : List va_W).flatten)) (hS : va_S A s.heap H locs) (h1 : Ok (fL_addsUp_b77 k77 x1 x2 x3 x4 x5 x6 x7 x8 x11 Y un uw uf u) K) :
    kW2 p l e rmL_addsUp s m args below meth c H locs (va_Qi (fun r (_ : Unit) => K r) (fun _ => kPost D A ([lwW hLn (ad 0) Y.2.1 lbn un, wF cy ad hh aa pa u] : List va_W).flatten) A) A 77 ls [] := by
  obtain ⟨hx, hb, hr, hml, hown, hts, hlocks, hK, hA⟩ := id E
  unfold fL_addsUp_b77 at h1
  refine lv_iload hx hb dL_addsUp_77 (lv_at hl 11 rfl) ?_
  refine lv_iload_n hx hb dL_addsUp_79 rfl (lv_at hl 1 rfl) ?_
  refine lv_icmp_ge (tgt := 397) hx hb dL_addsUp_80 (by decide) (fun c80 => ?_) (fun c80 => ?_)
  · replace h1 := Ok.pos c80 h1
    refine lv_iconst (v := 0) hx hb dL_addsUp_397 rfl ?_
    refine lv_istore (lv' := [(11, .int 0), (0, .ref hLn), (1, .int x1), (2, .int x2), (3, .int x3), (4, .int x4), (5, .int x5), (6, .int x6), (7, .int x7), (8, .int x8), (9, .ref raw), (10, .ref raf)]) hx hb dL_addsUp_398 hl (by decide) rfl (fun ls hl => ?_)
    exact tL_addsUp_l400 K E hZ hY un u LF x2 x3 x4 x5 x6 x7 x8 0 uw uf H locs ls (lv_sub hl [1, 3, 4, 5, 6, 7, 8, 9, 10, 11, 0] rfl) hP hD hS h1
  · replace h1 := Ok.neg c80 h1
    refine lv_aload_n hx hb dL_addsUp_83 rfl (lv_at hl 0 rfl) ?_
    refine k_get (v := .ref (ad 0)) (C := RL) (T := TL) (N := 4) hx hb hts inL_addsUp_L hown hK hP 0 rfl rfl 0 (by decide) lkL_addsUp_10 rfl dL_addsUp_84 ?_
    refine lv_iload hx hb dL_addsUp_87 (lv_at hl 11 rfl) ?_
    refine lv_iconst (v := 2) hx hb dL_addsUp_89 rfl ?_
    refine kh_rS (As := [.ref (ad 0), .int x11, .int 2]) (rest := []) h1 ⟨hx, hb, hml, hown, hts⟩ (cL_carM l D cy ad hh aa pa H.size u x11 2) (vx_cwSW 3 hts gL_addsUp_L_car rfl rfl rfl heL_car ⟨Nat.le_of_ble_eq_true rfl, Nat.le_of_ble_eq_true rfl⟩) hK (k_sel1 (l := [lwW hLn (ad 0) Y.2.1 lbn un, [(raw, .inl (cy 0, 3, .inl uw))], [(raf, .inl (cy 0, 3, .inl uf))], wF cy ad hh aa pa u]) (n := 4) 3 [0, 1, 2] rfl rfl (by decide)) hP hD hS hA rfl hl.1 rfl (Nat.le_of_ble_eq_true rfl) dL_addsUp_90 ⟨Nat.le_of_ble_eq_true rfl, Nat.le_of_ble_eq_true rfl⟩ (fun r90 H locs h1 hP hS => ?_)
    refine lv_istore (lv' := [(12, .int r90), (0, .ref hLn), (1, .int x1), (2, .int x2), (3, .int x3), (4, .int x4), (5, .int x5), (6, .int x6), (7, .int x7), (8, .int x8), (9, .ref raw), (10, .ref raf), (11, .int x11)]) hx hb dL_addsUp_93 hl (by decide) rfl (fun ls hl => ?_)
    refine lv_aload_n hx hb dL_addsUp_95 rfl (lv_at hl 1 rfl) ?_
    refine k_get (v := .ref (ad 0)) (C := RL) (T := TL) (N := 4) hx hb hts inL_addsUp_L hown hK hP 0 rfl rfl 0 (by decide) lkL_addsUp_10 rfl dL_addsUp_96 ?_
    refine lv_iload hx hb dL_addsUp_99 (lv_at hl 12 rfl) ?_
    refine lv_iconst (v := 1) hx hb dL_addsUp_101 rfl ?_
    refine kh_rS (As := [.ref (ad 0), .int x11, .int 1]) (rest := []) h1 ⟨hx, hb, hml, hown, hts⟩ (cL_carM l D cy ad hh aa pa H.size u x11 1) (vx_cwSW 3 hts gL_addsUp_L_car rfl rfl rfl heL_car ⟨Nat.le_of_ble_eq_true rfl, Nat.le_of_ble_eq_true rfl⟩) hK (k_sel1 (l := [lwW hLn (ad 0) Y.2.1 lbn un, [(raw, .inl (cy 0, 3, .inl uw))], [(raf, .inl (cy 0, 3, .inl uf))], wF cy ad hh aa pa u]) (n := 4) 3 [0, 1, 2] rfl rfl (by decide)) hP hD hS hA rfl hl.1 rfl (Nat.le_of_ble_eq_true rfl) dL_addsUp_102 ⟨Nat.le_of_ble_eq_true rfl, Nat.le_of_ble_eq_true rfl⟩ (fun r102 H locs h1 hP hS => ?_)
    refine lv_istore (lv' := [(13, .int r102), (12, .int r90), (0, .ref hLn), (1, .int x1), (2, .int x2), (3, .int x3), (4, .int x4), (5, .int x5), (6, .int x6), (7, .int x7), (8, .int x8), (9, .ref raw), (10, .ref raf), (11, .int x11)]) hx hb dL_addsUp_105 hl (by decide) rfl (fun ls hl => ?_)
    refine lv_aload_n hx hb dL_addsUp_107 rfl (lv_at hl 2 rfl) ?_
    refine k_get (v := .ref (ad 0)) (C := RL) (T := TL) (N := 4) hx hb hts inL_addsUp_L hown hK hP 0 rfl rfl 0 (by decide) lkL_addsUp_10 rfl dL_addsUp_108 ?_
    refine lv_iload hx hb dL_addsUp_111 (lv_at hl 13 rfl) ?_
    refine lv_iconst (v := 3) hx hb dL_addsUp_113 rfl ?_
    refine kh_rS (As := [.ref (ad 0), .int x11, .int 3]) (rest := []) h1 ⟨hx, hb, hml, hown, hts⟩ (cL_carM l D cy ad hh aa pa H.size u x11 3) (vx_cwSW 3 hts gL_addsUp_L_car rfl rfl rfl heL_car ⟨Nat.le_of_ble_eq_true rfl, Nat.le_of_ble_eq_true rfl⟩) hK (k_sel1 (l := [lwW hLn (ad 0) Y.2.1 lbn un, [(raw, .inl (cy 0, 3, .inl uw))], [(raf, .inl (cy 0, 3, .inl uf))], wF cy ad hh aa pa u]) (n := 4) 3 [0, 1, 2] rfl rfl (by decide)) hP hD hS hA rfl hl.1 rfl (Nat.le_of_ble_eq_true rfl) dL_addsUp_114 ⟨Nat.le_of_ble_eq_true rfl, Nat.le_of_ble_eq_true rfl⟩ (fun r114 H locs h1 hP hS => ?_)
    refine lv_istore (lv' := [(14, .int r114), (13, .int r102), (12, .int r90), (0, .ref hLn), (1, .int x1), (2, .int x2), (3, .int x3), (4, .int x4), (5, .int x5), (6, .int x6), (7, .int x7), (8, .int x8), (9, .ref raw), (10, .ref raf), (11, .int x11)]) hx hb dL_addsUp_117 hl (by decide) rfl (fun ls hl => ?_)
    refine lv_aload_n hx hb dL_addsUp_119 rfl (lv_at hl 3 rfl) ?_
    refine k_get (v := .ref (ad 0)) (C := RL) (T := TL) (N := 4) hx hb hts inL_addsUp_L hown hK hP 0 rfl rfl 0 (by decide) lkL_addsUp_10 rfl dL_addsUp_120 ?_
    refine lv_iload hx hb dL_addsUp_123 (lv_at hl 14 rfl) ?_
    refine lv_iconst (v := 5) hx hb dL_addsUp_125 rfl ?_
    refine kh_rS (As := [.ref (ad 0), .int x11, .int 5]) (rest := []) h1 ⟨hx, hb, hml, hown, hts⟩ (cL_carM l D cy ad hh aa pa H.size u x11 5) (vx_cwSW 3 hts gL_addsUp_L_car rfl rfl rfl heL_car ⟨Nat.le_of_ble_eq_true rfl, Nat.le_of_ble_eq_true rfl⟩) hK (k_sel1 (l := [lwW hLn (ad 0) Y.2.1 lbn un, [(raw, .inl (cy 0, 3, .inl uw))], [(raf, .inl (cy 0, 3, .inl uf))], wF cy ad hh aa pa u]) (n := 4) 3 [0, 1, 2] rfl rfl (by decide)) hP hD hS hA rfl hl.1 rfl (Nat.le_of_ble_eq_true rfl) dL_addsUp_126 ⟨Nat.le_of_ble_eq_true rfl, Nat.le_of_ble_eq_true rfl⟩ (fun r126 H locs h1 hP hS => ?_)
    refine lv_istore (lv' := [(15, .int r126), (14, .int r114), (13, .int r102), (12, .int r90), (0, .ref hLn), (1, .int x1), (2, .int x2), (3, .int x3), (4, .int x4), (5, .int x5), (6, .int x6), (7, .int x7), (8, .int x8), (9, .ref raw), (10, .ref raf), (11, .int x11)]) hx hb dL_addsUp_129 hl (by decide) rfl (fun ls hl => ?_)
    refine lv_aload_n hx hb dL_addsUp_131 rfl (lv_at hl 4 rfl) ?_
    refine k_get (v := .ref (ad 0)) (C := RL) (T := TL) (N := 4) hx hb hts inL_addsUp_L hown hK hP 0 rfl rfl 0 (by decide) lkL_addsUp_10 rfl dL_addsUp_132 ?_
    refine lv_iload hx hb dL_addsUp_135 (lv_at hl 15 rfl) ?_
    refine lv_bipush (v := 6) hx hb dL_addsUp_137 rfl ?_
    refine kh_rS (As := [.ref (ad 0), .int x11, .int 6]) (rest := []) h1 ⟨hx, hb, hml, hown, hts⟩ (cL_carM l D cy ad hh aa pa H.size u x11 6) (vx_cwSW 3 hts gL_addsUp_L_car rfl rfl rfl heL_car ⟨Nat.le_of_ble_eq_true rfl, Nat.le_of_ble_eq_true rfl⟩) hK (k_sel1 (l := [lwW hLn (ad 0) Y.2.1 lbn un, [(raw, .inl (cy 0, 3, .inl uw))], [(raf, .inl (cy 0, 3, .inl uf))], wF cy ad hh aa pa u]) (n := 4) 3 [0, 1, 2] rfl rfl (by decide)) hP hD hS hA rfl hl.1 rfl (Nat.le_of_ble_eq_true rfl) dL_addsUp_139 ⟨Nat.le_of_ble_eq_true rfl, Nat.le_of_ble_eq_true rfl⟩ (fun r139 H locs h1 hP hS => ?_)
    refine lv_istore (lv' := [(16, .int r139), (15, .int r126), (14, .int r114), (13, .int r102), (12, .int r90), (0, .ref hLn), (1, .int x1), (2, .int x2), (3, .int x3), (4, .int x4), (5, .int x5), (6, .int x6), (7, .int x7), (8, .int x8), (9, .ref raw), (10, .ref raf), (11, .int x11)]) hx hb dL_addsUp_142 hl (by decide) rfl (fun ls hl => ?_)
    refine lv_iload_n hx hb dL_addsUp_144 rfl (lv_at hl 8 rfl) ?_
    refine lv_iload hx hb dL_addsUp_145 (lv_at hl 4 rfl) ?_
    refine lv_if_ne (tgt := 154) hx hb dL_addsUp_147 (by decide) (fun c147 => ?_) (fun c147 => ?_)
    · replace h1 := Ok.neg c147 h1
      refine lv_iconst (v := 0) hx hb dL_addsUp_154 rfl ?_
      exact tL_addsUp_b155 K E hZ hY un u k77 hk77 x1 x2 x4 x5 x6 x7 x8 x11 r90 r102 r114 r126 r139 x3 0 uw uf H locs ls (lv_sub hl [5, 6, 7, 9, 10, 11, 12, 13, 14, 15, 16, 4, 3, 2, 1, 0] rfl) hP hD hS h1
    · replace h1 := Ok.pos c147 h1
      refine lv_iconst (v := 1) hx hb dL_addsUp_150 rfl ?_
      refine lv_goto (tgt := 155) hx hb dL_addsUp_151 (by decide) ?_
      exact tL_addsUp_b155 K E hZ hY un u k77 hk77 x1 x2 x4 x5 x6 x7 x8 x11 r90 r102 r114 r126 r139 x3 1 uw uf H locs ls (lv_sub hl [5, 6, 7, 9, 10, 11, 12, 13, 14, 15, 16, 4, 3, 2, 1, 0] rfl) hP hD hS h1
theorem tL_addsUp_l77 {p : Program} {l : Launch} {e : Env} {s : State} {m : MethodId} {args : Array Value} {below : List Frame} {meth : Method} {c : Code} {D : va_G} {cy : Nat → ClassId} {A : Nat → Prop} {hLn : Nat} {lbn : Nat} {raw : Nat} {raf : Nat} {ad : Nat → Nat} {hh : Nat → Nat} {aa : Nat → Nat → Nat} {pa : Nat → Nat} {za zv : Nat → Nat} {Y : YB} (K : Int32 → Prop) (E : mE D cy RL cL_addsUp 17 (some .boolean) wsL_addsUp A p s m args meth c) (hZ : mZ za zv A s s.heap) (hY : mY Y A s s.heap) (un : Int32) (u : FS) : ∀ (n9 : Nat) (x1 : Int32) (x2 : Int32) (x3 : Int32) (x4 : Int32) (x5 : Int32) (x6 : Int32) (x7 : Int32) (x8 : Int32) (x11 : Int32) (uw : Nat → Int32) (uf : Nat → Int32) (H : Heap) (locs : List Loc) (ls : Array Slot), lv_has ls 17 [(0, .ref hLn), (1, .int x1), (2, .int x2), (3, .int x3), (4, .int x4), (5, .int x5), (6, .int x6), (7, .int x7), (8, .int x8), (9, .ref raw), (10, .ref raf), (11, .int x11)] → va_P D kCl (([lwW hLn (ad 0) Y.2.1 lbn un, [(raw, .inl (cy 0, 3, .inl uw))], [(raf, .inl (cy 0, 3, .inl uf))], wF cy ad hh aa pa u] : List va_W).flatten) H → va_D A (([lwW hLn (ad 0) Y.2.1 lbn un, [(raw, .inl (cy 0, 3, .inl uw))], [(raf, .inl (cy 0, 3, .inl uf))], wF cy ad hh aa pa u] : List va_W).flatten) → va_S A s.heap H locs → Ok (lop (fun y z => fL_addsUp_b77 y z.1 z.2.1 z.2.2.1 z.2.2.2.1 z.2.2.2.2.1 z.2.2.2.2.2.1 z.2.2.2.2.2.2.1 z.2.2.2.2.2.2.2.1 z.2.2.2.2.2.2.2.2.1 Y un z.2.2.2.2.2.2.2.2.2.1 z.2.2.2.2.2.2.2.2.2.2 u) n9 (x1, x2, x3, x4, x5, x6, x7, x8, x11, uw, uf)) K → kW2 p l e rmL_addsUp s m args below meth c H locs (va_Qi (fun r (_ : Unit) => K r) (fun _ => kPost D A ([lwW hLn (ad 0) Y.2.1 lbn un, wF cy ad hh aa pa u] : List va_W).flatten) A) A 77 ls [] := by
  intro n9
  induction n9 with
  | zero =>
    intro x1 x2 x3 x4 x5 x6 x7 x8 x11 uw uf H locs ls hl hP hD hS h1
    exact h1.no
  | succ n9 ih =>
    intro x1 x2 x3 x4 x5 x6 x7 x8 x11 uw uf H locs ls hl hP hD hS h1
    exact tL_addsUp_b77 K E hZ hY un u (lop (fun y z => fL_addsUp_b77 y z.1 z.2.1 z.2.2.1 z.2.2.2.1 z.2.2.2.2.1 z.2.2.2.2.2.1 z.2.2.2.2.2.2.1 z.2.2.2.2.2.2.2.1 z.2.2.2.2.2.2.2.2.1 Y un z.2.2.2.2.2.2.2.2.2.1 z.2.2.2.2.2.2.2.2.2.2 u) n9) (fun x1 x2 x3 x4 x5 x6 x7 x8 x11 uw uf H locs ls hl hP hD hS h1 => ih x1 x2 x3 x4 x5 x6 x7 x8 x11 uw uf H locs ls hl hP hD hS h1) x1 x2 x3 x4 x5 x6 x7 x8 x11 uw uf H locs ls hl hP hD hS h1
def fL_addsUp_b48 (k48 : Int32 × Int32 × Int32 × Int32 × Int32 × Int32 × Int32 × Int32 × Int32 × (Nat → Int32) × (Nat → Int32) → Option (Int32)) (x1 : Int32) (x2 : Int32) (x3 : Int32) (x4 : Int32) (x5 : Int32) (x6 : Int32) (x7 : Int32) (x8 : Int32) (x11 : Int32) (Y : YB) (un : Int32) (uw : Nat → Int32) (uf : Nat → Int32) (u : FS) : Option (Int32) :=
  (if 3 ≤ x11 then lop (fun y z => fL_addsUp_b77 y z.1 z.2.1 z.2.2.1 z.2.2.2.1 z.2.2.2.2.1 z.2.2.2.2.2.1 z.2.2.2.2.2.2.1 z.2.2.2.2.2.2.2.1 z.2.2.2.2.2.2.2.2.1 Y un z.2.2.2.2.2.2.2.2.2.1 z.2.2.2.2.2.2.2.2.2.2 u) LF (x1, x2, x3, x4, x5, x6, x7, x8, 0, uw, uf) else bnd (fL_setting 6 u) (fun r64 => grd (inb x11 3) (k48 (x1, x2, x3, x4, x5, x6, x7, x8, x11 + 1, uw, upd uf (ix x11) r64))))
set_option maxHeartbeats 4000000 in
set_option maxRecDepth 100000 in
theorem tL_addsUp_b48 {p : Program} {l : Launch} {e : Env} {s : State} {m : MethodId} {args : Array Value} {below : List Frame} {meth : Method} {c : Code} {D : va_G} {cy : Nat → ClassId} {A : Nat → Prop} {hLn : Nat} {lbn : Nat} {raw : Nat} {raf : Nat} {ad : Nat → Nat} {hh : Nat → Nat} {aa : Nat → Nat → Nat} {pa : Nat → Nat} {za zv : Nat → Nat} {Y : YB} (K : Int32 → Prop) (E : mE D cy RL cL_addsUp 17 (some .boolean) wsL_addsUp A p s m args meth c) (hZ : mZ za zv A s s.heap) (hY : mY Y A s s.heap) (un : Int32) (u : FS)
    (k48 : Int32 × Int32 × Int32 × Int32 × Int32 × Int32 × Int32 × Int32 × Int32 × (Nat → Int32) × (Nat → Int32) → Option (Int32)) (hk48 : ∀ (x1 : Int32) (x2 : Int32) (x3 : Int32) (x4 : Int32) (x5 : Int32) (x6 : Int32) (x7 : Int32) (x8 : Int32) (x11 : Int32) (uw : Nat → Int32) (uf : Nat → Int32) (H : Heap) (locs : List Loc) (ls : Array Slot), lv_has ls 17 [(0, .ref hLn), (1, .int x1), (2, .int x2), (3, .int x3), (4, .int x4), (5, .int x5), (6, .int x6), (7, .int x7), (8, .int x8), (9, .ref raw), (10, .ref raf), (11, .int x11)] → va_P D kCl (([lwW hLn (ad 0) Y.2.1 lbn un, [(raw, .inl (cy 0, 3, .inl uw))], [(raf, .inl (cy 0, 3, .inl uf))], wF cy ad hh aa pa u] : List va_W).flatten) H → va_D A (([lwW hLn (ad 0) Y.2.1 lbn un, [(raw, .inl (cy 0, 3, .inl uw))], [(raf, .inl (cy 0, 3, .inl uf))], wF cy ad hh aa pa u] : List va_W).flatten) → va_S A s.heap H locs → Ok (k48 (x1, x2, x3, x4, x5, x6, x7, x8, x11, uw, uf)) K → kW2 p l e rmL_addsUp s m args below meth c H locs (va_Qi (fun r (_ : Unit) => K r) (fun _ => kPost D A ([lwW hLn (ad 0) Y.2.1 lbn un, wF cy ad hh aa pa u] : List va_W).flatten) A) A 48 ls [])
     (x1 : Int32) (x2 : Int32) (x3 : Int32) (x4 : Int32) (x5 : Int32) (x6 : Int32) (x7 : Int32) (x8 : Int32) (x11 : Int32) (uw : Nat → Int32) (uf : Nat → Int32) (H : Heap) (locs : List Loc) (ls : Array Slot) (hl : lv_has ls 17 [(0, .ref hLn), (1, .int x1), (2, .int x2), (3, .int x3), (4, .int x4), (5, .int x5), (6, .int x6), (7, .int x7), (8, .int x8), (9, .ref raw), (10, .ref raf), (11, .int x11)]) (hP : va_P D kCl (([lwW hLn (ad 0) Y.2.1 lbn un, [(raw, .inl (cy 0, 3, .inl uw))], [(raf, .inl (cy 0, 3, .inl uf))], wF cy ad hh aa pa u] : List va_W).flatten) H) (hD : va_D A (([lwW hLn (ad 0) Y.2.1 lbn un, [(raw, .inl (cy 0, 3, .inl uw))], [(raf, .inl (cy 0, 3, .inl uf))], wF cy ad hh aa pa u] : List va_W).flatten)) (hS : va_S A s.heap H locs) (h1 : Ok (fL_addsUp_b48 k48 x1 x2 x3 x4 x5 x6 x7 x8 x11 Y un uw uf u) K) :
    kW2 p l e rmL_addsUp s m args below meth c H locs (va_Qi (fun r (_ : Unit) => K r) (fun _ => kPost D A ([lwW hLn (ad 0) Y.2.1 lbn un, wF cy ad hh aa pa u] : List va_W).flatten) A) A 48 ls [] := by
  obtain ⟨hx, hb, hr, hml, hown, hts, hlocks, hK, hA⟩ := id E
  unfold fL_addsUp_b48 at h1
  refine lv_iload hx hb dL_addsUp_48 (lv_at hl 11 rfl) ?_
  refine lv_iconst (v := 3) hx hb dL_addsUp_50 rfl ?_
  refine lv_icmp_ge (tgt := 74) hx hb dL_addsUp_51 (by decide) (fun c51 => ?_) (fun c51 => ?_)
  · replace h1 := Ok.pos c51 h1
    refine lv_iconst (v := 0) hx hb dL_addsUp_74 rfl ?_
    refine lv_istore (lv' := [(11, .int 0), (0, .ref hLn), (1, .int x1), (2, .int x2), (3, .int x3), (4, .int x4), (5, .int x5), (6, .int x6), (7, .int x7), (8, .int x8), (9, .ref raw), (10, .ref raf)]) hx hb dL_addsUp_75 hl (by decide) rfl (fun ls hl => ?_)
    exact tL_addsUp_l77 K E hZ hY un u LF x1 x2 x3 x4 x5 x6 x7 x8 0 uw uf H locs ls (lv_sub hl [1, 2, 3, 4, 5, 6, 7, 8, 9, 10, 11, 0] rfl) hP hD hS h1
  · replace h1 := Ok.neg c51 h1
    refine lv_aload hx hb dL_addsUp_54 (lv_at hl 10 rfl) ?_
    refine lv_iload hx hb dL_addsUp_56 (lv_at hl 11 rfl) ?_
    refine lv_aload_n hx hb dL_addsUp_58 rfl (lv_at hl 0 rfl) ?_
    refine k_get (v := .ref (ad 0)) (C := RL) (T := TL) (N := 4) hx hb hts inL_addsUp_L hown hK hP 0 rfl rfl 0 (by decide) lkL_addsUp_10 rfl dL_addsUp_59 ?_
    refine lv_bipush (v := 6) hx hb dL_addsUp_62 rfl ?_
    refine kh_rS (As := [.ref (ad 0), .int 6]) (rest := [.int x11, .ref raf]) h1 ⟨hx, hb, hml, hown, hts⟩ (cL_settingM l D cy ad hh aa pa H.size u 6) (vx_cwSW 2 hts gL_addsUp_L_setting rfl rfl rfl heL_setting ⟨Nat.le_of_ble_eq_true rfl, Nat.le_of_ble_eq_true rfl⟩) hK (k_sel1 (l := [lwW hLn (ad 0) Y.2.1 lbn un, [(raw, .inl (cy 0, 3, .inl uw))], [(raf, .inl (cy 0, 3, .inl uf))], wF cy ad hh aa pa u]) (n := 4) 3 [0, 1, 2] rfl rfl (by decide)) hP hD hS hA rfl hl.1 rfl (Nat.le_of_ble_eq_true rfl) dL_addsUp_64 ⟨Nat.le_of_ble_eq_true rfl, Nat.le_of_ble_eq_true rfl⟩ (fun r64 H locs h1 hP hS => ?_)
    have g67 := h1.grd1
    replace h1 := h1.grd2
    refine k_iast (k := (ix x11)) (ws' := ([lwW hLn (ad 0) Y.2.1 lbn un, [(raw, .inl (cy 0, 3, .inl uw))], [(raf, .inl (cy 0, 3, .inl (upd uf (ix x11) r64)))], wF cy ad hh aa pa u] : List va_W).flatten) hx hb hK hP hD hS 2 rfl g67 rfl rfl dL_addsUp_67 (fun H locs hP hD hS => ?_)
    refine lv_iinc (v := x11 + 1) (lv' := [(11, .int (x11 + 1)), (0, .ref hLn), (1, .int x1), (2, .int x2), (3, .int x3), (4, .int x4), (5, .int x5), (6, .int x6), (7, .int x7), (8, .int x8), (9, .ref raw), (10, .ref raf)]) hx hb dL_addsUp_68 hl (k := 11) rfl rfl (by decide) rfl (fun ls hl => ?_)
    refine lv_goto (tgt := 48) hx hb dL_addsUp_71 (by decide) ?_
    exact hk48 x1 x2 x3 x4 x5 x6 x7 x8 (x11 + 1) uw (upd uf (ix x11) r64) H locs ls (lv_sub hl [1, 2, 3, 4, 5, 6, 7, 8, 9, 10, 11, 0] rfl) hP hD hS h1
theorem tL_addsUp_l48 {p : Program} {l : Launch} {e : Env} {s : State} {m : MethodId} {args : Array Value} {below : List Frame} {meth : Method} {c : Code} {D : va_G} {cy : Nat → ClassId} {A : Nat → Prop} {hLn : Nat} {lbn : Nat} {raw : Nat} {raf : Nat} {ad : Nat → Nat} {hh : Nat → Nat} {aa : Nat → Nat → Nat} {pa : Nat → Nat} {za zv : Nat → Nat} {Y : YB} (K : Int32 → Prop) (E : mE D cy RL cL_addsUp 17 (some .boolean) wsL_addsUp A p s m args meth c) (hZ : mZ za zv A s s.heap) (hY : mY Y A s s.heap) (un : Int32) (u : FS) : ∀ (n9 : Nat) (x1 : Int32) (x2 : Int32) (x3 : Int32) (x4 : Int32) (x5 : Int32) (x6 : Int32) (x7 : Int32) (x8 : Int32) (x11 : Int32) (uw : Nat → Int32) (uf : Nat → Int32) (H : Heap) (locs : List Loc) (ls : Array Slot), lv_has ls 17 [(0, .ref hLn), (1, .int x1), (2, .int x2), (3, .int x3), (4, .int x4), (5, .int x5), (6, .int x6), (7, .int x7), (8, .int x8), (9, .ref raw), (10, .ref raf), (11, .int x11)] → va_P D kCl (([lwW hLn (ad 0) Y.2.1 lbn un, [(raw, .inl (cy 0, 3, .inl uw))], [(raf, .inl (cy 0, 3, .inl uf))], wF cy ad hh aa pa u] : List va_W).flatten) H → va_D A (([lwW hLn (ad 0) Y.2.1 lbn un, [(raw, .inl (cy 0, 3, .inl uw))], [(raf, .inl (cy 0, 3, .inl uf))], wF cy ad hh aa pa u] : List va_W).flatten) → va_S A s.heap H locs → Ok (lop (fun y z => fL_addsUp_b48 y z.1 z.2.1 z.2.2.1 z.2.2.2.1 z.2.2.2.2.1 z.2.2.2.2.2.1 z.2.2.2.2.2.2.1 z.2.2.2.2.2.2.2.1 z.2.2.2.2.2.2.2.2.1 Y un z.2.2.2.2.2.2.2.2.2.1 z.2.2.2.2.2.2.2.2.2.2 u) n9 (x1, x2, x3, x4, x5, x6, x7, x8, x11, uw, uf)) K → kW2 p l e rmL_addsUp s m args below meth c H locs (va_Qi (fun r (_ : Unit) => K r) (fun _ => kPost D A ([lwW hLn (ad 0) Y.2.1 lbn un, wF cy ad hh aa pa u] : List va_W).flatten) A) A 48 ls [] := by
  intro n9
  induction n9 with
  | zero =>
    intro x1 x2 x3 x4 x5 x6 x7 x8 x11 uw uf H locs ls hl hP hD hS h1
    exact h1.no
  | succ n9 ih =>
    intro x1 x2 x3 x4 x5 x6 x7 x8 x11 uw uf H locs ls hl hP hD hS h1
    exact tL_addsUp_b48 K E hZ hY un u (lop (fun y z => fL_addsUp_b48 y z.1 z.2.1 z.2.2.1 z.2.2.2.1 z.2.2.2.2.1 z.2.2.2.2.2.1 z.2.2.2.2.2.2.1 z.2.2.2.2.2.2.2.1 z.2.2.2.2.2.2.2.2.1 Y un z.2.2.2.2.2.2.2.2.2.1 z.2.2.2.2.2.2.2.2.2.2 u) n9) (fun x1 x2 x3 x4 x5 x6 x7 x8 x11 uw uf H locs ls hl hP hD hS h1 => ih x1 x2 x3 x4 x5 x6 x7 x8 x11 uw uf H locs ls hl hP hD hS h1) x1 x2 x3 x4 x5 x6 x7 x8 x11 uw uf H locs ls hl hP hD hS h1
def fL_addsUp_b45 (x1 : Int32) (x2 : Int32) (x3 : Int32) (x4 : Int32) (x5 : Int32) (x6 : Int32) (x7 : Int32) (x8 : Int32) (Y : YB) (un : Int32) (uw : Nat → Int32) (uf : Nat → Int32) (u : FS) : Option (Int32) :=
  lop (fun y z => fL_addsUp_b48 y z.1 z.2.1 z.2.2.1 z.2.2.2.1 z.2.2.2.2.1 z.2.2.2.2.2.1 z.2.2.2.2.2.2.1 z.2.2.2.2.2.2.2.1 z.2.2.2.2.2.2.2.2.1 Y un z.2.2.2.2.2.2.2.2.2.1 z.2.2.2.2.2.2.2.2.2.2 u) LF (x1, x2, x3, x4, x5, x6, x7, x8, 0, uw, uf)
set_option maxHeartbeats 4000000 in
set_option maxRecDepth 100000 in
theorem tL_addsUp_b45 {p : Program} {l : Launch} {e : Env} {s : State} {m : MethodId} {args : Array Value} {below : List Frame} {meth : Method} {c : Code} {D : va_G} {cy : Nat → ClassId} {A : Nat → Prop} {hLn : Nat} {lbn : Nat} {raw : Nat} {raf : Nat} {ad : Nat → Nat} {hh : Nat → Nat} {aa : Nat → Nat → Nat} {pa : Nat → Nat} {za zv : Nat → Nat} {Y : YB} (K : Int32 → Prop) (E : mE D cy RL cL_addsUp 17 (some .boolean) wsL_addsUp A p s m args meth c) (hZ : mZ za zv A s s.heap) (hY : mY Y A s s.heap) (un : Int32) (u : FS)
     (x1 : Int32) (x2 : Int32) (x3 : Int32) (x4 : Int32) (x5 : Int32) (x6 : Int32) (x7 : Int32) (x8 : Int32) (uw : Nat → Int32) (uf : Nat → Int32) (H : Heap) (locs : List Loc) (ls : Array Slot) (hl : lv_has ls 17 [(0, .ref hLn), (1, .int x1), (2, .int x2), (3, .int x3), (4, .int x4), (5, .int x5), (6, .int x6), (7, .int x7), (8, .int x8), (9, .ref raw), (10, .ref raf)]) (hP : va_P D kCl (([lwW hLn (ad 0) Y.2.1 lbn un, [(raw, .inl (cy 0, 3, .inl uw))], [(raf, .inl (cy 0, 3, .inl uf))], wF cy ad hh aa pa u] : List va_W).flatten) H) (hD : va_D A (([lwW hLn (ad 0) Y.2.1 lbn un, [(raw, .inl (cy 0, 3, .inl uw))], [(raf, .inl (cy 0, 3, .inl uf))], wF cy ad hh aa pa u] : List va_W).flatten)) (hS : va_S A s.heap H locs) (h1 : Ok (fL_addsUp_b45 x1 x2 x3 x4 x5 x6 x7 x8 Y un uw uf u) K) :
    kW2 p l e rmL_addsUp s m args below meth c H locs (va_Qi (fun r (_ : Unit) => K r) (fun _ => kPost D A ([lwW hLn (ad 0) Y.2.1 lbn un, wF cy ad hh aa pa u] : List va_W).flatten) A) A 45 ls [] := by
  obtain ⟨hx, hb, hr, hml, hown, hts, hlocks, hK, hA⟩ := id E
  unfold fL_addsUp_b45 at h1
  refine lv_iconst (v := 0) hx hb dL_addsUp_45 rfl ?_
  refine lv_istore (lv' := [(11, .int 0), (0, .ref hLn), (1, .int x1), (2, .int x2), (3, .int x3), (4, .int x4), (5, .int x5), (6, .int x6), (7, .int x7), (8, .int x8), (9, .ref raw), (10, .ref raf)]) hx hb dL_addsUp_46 hl (by decide) rfl (fun ls hl => ?_)
  exact tL_addsUp_l48 K E hZ hY un u LF x1 x2 x3 x4 x5 x6 x7 x8 0 uw uf H locs ls (lv_sub hl [1, 2, 3, 4, 5, 6, 7, 8, 9, 10, 11, 0] rfl) hP hD hS h1
def fL_addsUp (Y : YB) (un : Int32) (u : FS) : Option Int32 := bnd (fL_count 3 u) (fun r5 => bnd (fL_count 0 u) (fun r30 => fL_addsUp_b45 r5 0 0 0 0 0 (-1) r30 Y un (fun _ => 0) (fun _ => 0) u))
set_option maxHeartbeats 4000000 in
set_option maxRecDepth 100000 in
theorem cL_addsUpM (l : Launch) (D : va_G) (cy : Nat → ClassId) (za zv : Nat → Nat) (Y : YB) (hLn lbn : Nat) (ad : Nat → Nat) (hh : Nat → Nat) (aa : Nat → Nat → Nat) (pa : Nat → Nat) (sz : Nat) (un : Int32) (u : FS) : ∀ (K : Int32 → Prop), Ok (fL_addsUp Y un u) K → Met l yL_addsUp wsL_addsUp rmL_addsUp (va_Pc [.ref hLn] (kPreY D cy za zv Y sz (([lwW hLn (ad 0) Y.2.1 lbn un, wF cy ad hh aa pa u] : List va_W).flatten))) (va_Qi (fun r (_ : Unit) => K r) (fun _ => kPost D (va_A (([lwW hLn (ad 0) Y.2.1 lbn un, wF cy ad hh aa pa u] : List va_W).flatten) sz) (([lwW hLn (ad 0) Y.2.1 lbn un, wF cy ad hh aa pa u] : List va_W).flatten)) (va_A (([lwW hLn (ad 0) Y.2.1 lbn un, wF cy ad hh aa pa u] : List va_W).flatten) sz)) 2 6 (va_A (([lwW hLn (ad 0) Y.2.1 lbn un, wF cy ad hh aa pa u] : List va_W).flatten) sz) := by
  intro K h1
  refine Met.ofW (cc := cL_addsUp) (maxL := 17) (ret := (some .boolean)) (by decide) rfl ?_
  intro p e s m args below meth c s₁ B hml hv
  obtain ⟨rfl, ⟨⟨hsz, hP, hK, hD0⟩, hZ⟩, hY⟩ := hv
  subst hsz
  have E : mE D cy RL cL_addsUp 17 (some .boolean) wsL_addsUp (va_A (([lwW hLn (ad 0) Y.2.1 lbn un, wF cy ad hh aa pa u] : List va_W).flatten) s.heap.size) p s m _ meth c := ⟨B.exec, B.bytes, B.returns, hml, findClass_of_methodNamed B.named, atoms_spec (ws := wsL_addsUp) B.pre, B.notSynchronized, hK, fun q h => Or.inr h⟩
  obtain ⟨hx, hb, hr, hml, hown, hts, hlocks, hK, hA⟩ := id E
  have hS : va_S (va_A (([lwW hLn (ad 0) Y.2.1 lbn un, wF cy ad hh aa pa u] : List va_W).flatten) s.heap.size) s.heap s.heap [] := va_S.rf
  have hD : va_D (va_A (([lwW hLn (ad 0) Y.2.1 lbn un, wF cy ad hh aa pa u] : List va_W).flatten) s.heap.size) (([lwW hLn (ad 0) Y.2.1 lbn un, wF cy ad hh aa pa u] : List va_W).flatten) := hD0.self
  have hl := lv_entry ([.ref hLn]) (n := 17) (Nat.le_of_ble_eq_true rfl)
  rw [lg_entry_eq]
  generalize (lg_sl ([.ref hLn]) ++ List.replicate (17 - (lg_sl ([.ref hLn])).length) Slot.unset).toArray = ls at hl ⊢
  have hl : lv_has ls 17 [(0, .ref hLn)] := hl
  unfold fL_addsUp at h1
  refine lv_aload_n hx hb dL_addsUp_0 rfl (lv_at hl 0 rfl) ?_
  refine k_get (v := .ref (ad 0)) (C := RL) (T := TL) (N := 4) hx hb hts inL_addsUp_L hown hK hP 0 rfl rfl 0 (by decide) lkL_addsUp_10 rfl dL_addsUp_1 ?_
  refine lv_iconst (v := 3) hx hb dL_addsUp_4 rfl ?_
  refine kh_rS (As := [.ref (ad 0), .int 3]) (rest := []) h1 ⟨hx, hb, hml, hown, hts⟩ (cL_countM l D cy ad hh aa pa s.heap.size u 3) (vx_cwSW 2 hts gL_addsUp_L_count rfl rfl rfl heL_count ⟨Nat.le_of_ble_eq_true rfl, Nat.le_of_ble_eq_true rfl⟩) hK (k_sel1 (l := [lwW hLn (ad 0) Y.2.1 lbn un, wF cy ad hh aa pa u]) (n := 2) 1 [0] rfl rfl (by decide)) hP hD hS hA rfl hl.1 rfl (Nat.le_of_ble_eq_true rfl) dL_addsUp_5 ⟨Nat.le_of_ble_eq_true rfl, Nat.le_of_ble_eq_true rfl⟩ (fun r5 H locs h1 hP hS => ?_)
  refine lv_istore_n (lv' := [(1, .int r5), (0, .ref hLn)]) hx hb dL_addsUp_8 rfl hl (by decide) rfl (fun ls hl => ?_)
  refine lv_iconst (v := 0) hx hb dL_addsUp_9 rfl ?_
  refine lv_istore_n (lv' := [(2, .int 0), (1, .int r5), (0, .ref hLn)]) hx hb dL_addsUp_10 rfl hl (by decide) rfl (fun ls hl => ?_)
  refine lv_iconst (v := 0) hx hb dL_addsUp_11 rfl ?_
  refine lv_istore_n (lv' := [(3, .int 0), (2, .int 0), (1, .int r5), (0, .ref hLn)]) hx hb dL_addsUp_12 rfl hl (by decide) rfl (fun ls hl => ?_)
  refine lv_iconst (v := 0) hx hb dL_addsUp_13 rfl ?_
  refine lv_istore (lv' := [(4, .int 0), (3, .int 0), (2, .int 0), (1, .int r5), (0, .ref hLn)]) hx hb dL_addsUp_14 hl (by decide) rfl (fun ls hl => ?_)
  refine lv_iconst (v := 0) hx hb dL_addsUp_16 rfl ?_
  refine lv_istore (lv' := [(5, .int 0), (4, .int 0), (3, .int 0), (2, .int 0), (1, .int r5), (0, .ref hLn)]) hx hb dL_addsUp_17 hl (by decide) rfl (fun ls hl => ?_)
  refine lv_iconst (v := 0) hx hb dL_addsUp_19 rfl ?_
  refine lv_istore (lv' := [(6, .int 0), (5, .int 0), (4, .int 0), (3, .int 0), (2, .int 0), (1, .int r5), (0, .ref hLn)]) hx hb dL_addsUp_20 hl (by decide) rfl (fun ls hl => ?_)
  refine lv_iconst (v := (-1)) hx hb dL_addsUp_22 rfl ?_
  refine lv_istore (lv' := [(7, .int (-1)), (6, .int 0), (5, .int 0), (4, .int 0), (3, .int 0), (2, .int 0), (1, .int r5), (0, .ref hLn)]) hx hb dL_addsUp_23 hl (by decide) rfl (fun ls hl => ?_)
  refine lv_aload_n hx hb dL_addsUp_25 rfl (lv_at hl 7 rfl) ?_
  refine k_get (v := .ref (ad 0)) (C := RL) (T := TL) (N := 4) hx hb hts inL_addsUp_L hown hK hP 0 rfl rfl 0 (by decide) lkL_addsUp_10 rfl dL_addsUp_26 ?_
  refine lv_iconst (v := 0) hx hb dL_addsUp_29 rfl ?_
  refine kh_rS (As := [.ref (ad 0), .int 0]) (rest := []) h1 ⟨hx, hb, hml, hown, hts⟩ (cL_countM l D cy ad hh aa pa H.size u 0) (vx_cwSW 2 hts gL_addsUp_L_count rfl rfl rfl heL_count ⟨Nat.le_of_ble_eq_true rfl, Nat.le_of_ble_eq_true rfl⟩) hK (k_sel1 (l := [lwW hLn (ad 0) Y.2.1 lbn un, wF cy ad hh aa pa u]) (n := 2) 1 [0] rfl rfl (by decide)) hP hD hS hA rfl hl.1 rfl (Nat.le_of_ble_eq_true rfl) dL_addsUp_30 ⟨Nat.le_of_ble_eq_true rfl, Nat.le_of_ble_eq_true rfl⟩ (fun r30 H locs h1 hP hS => ?_)
  refine lv_istore (lv' := [(8, .int r30), (7, .int (-1)), (6, .int 0), (5, .int 0), (4, .int 0), (3, .int 0), (2, .int 0), (1, .int r5), (0, .ref hLn)]) hx hb dL_addsUp_33 hl (by decide) rfl (fun ls hl => ?_)
  refine lv_iconst (v := 3) hx hb dL_addsUp_35 rfl ?_
  refine k_newi (k := 3) hx hb (hts _ (List.mem_of_getElem? (i := 2) rfl)) hK hP hD hS hA (by decide) rfl (Nat.le_of_ble_eq_true rfl) (Nat.le_of_ble_eq_true rfl) (Nat.le_of_ble_eq_true rfl) dL_addsUp_36 (fun raw H hP hD hS => ?_)
  refine lv_astore (lv' := [(9, .ref raw), (8, .int r30), (7, .int (-1)), (6, .int 0), (5, .int 0), (4, .int 0), (3, .int 0), (2, .int 0), (1, .int r5), (0, .ref hLn)]) hx hb dL_addsUp_38 hl (by decide) rfl (fun ls hl => ?_)
  refine lv_iconst (v := 3) hx hb dL_addsUp_40 rfl ?_
  refine k_newi (k := 3) hx hb (hts _ (List.mem_of_getElem? (i := 2) rfl)) hK hP hD hS hA (by decide) rfl (Nat.le_of_ble_eq_true rfl) (Nat.le_of_ble_eq_true rfl) (Nat.le_of_ble_eq_true rfl) dL_addsUp_41 (fun raf H hP hD hS => ?_)
  refine lv_astore (lv' := [(10, .ref raf), (9, .ref raw), (8, .int r30), (7, .int (-1)), (6, .int 0), (5, .int 0), (4, .int 0), (3, .int 0), (2, .int 0), (1, .int r5), (0, .ref hLn)]) hx hb dL_addsUp_43 hl (by decide) rfl (fun ls hl => ?_)
  have hp4 : ((([lwW hLn (ad 0) Y.2.1 lbn un, wF cy ad hh aa pa u] : List va_W).flatten ++ [(raw, .inl (cy 0, 3, .inl (fun _ => 0)))]) ++ [(raf, .inl (cy 0, 3, .inl (fun _ => 0)))] : va_W).Perm (([lwW hLn (ad 0) Y.2.1 lbn un, [(raw, .inl (cy 0, 3, .inl (fun _ => 0)))], [(raf, .inl (cy 0, 3, .inl (fun _ => 0)))], wF cy ad hh aa pa u] : List va_W).flatten) := by
    have h := (pD4 (lwW hLn (ad 0) Y.2.1 lbn un) [(raw, .inl (cy 0, 3, .inl (fun _ => 0)))] [(raf, .inl (cy 0, 3, .inl (fun _ => 0)))] (wF cy ad hh aa pa u)).symm
    rw [List.append_assoc]
    exact h
  replace hP := kP_perm hp4 hP
  replace hD := kD_perm hp4 hD
  exact tL_addsUp_b45 K E hZ hY un u r5 0 0 0 0 0 (-1) r30 (fun _ => 0) (fun _ => 0) H _ ls (lv_sub hl [10, 9, 8, 7, 6, 5, 4, 3, 2, 1, 0] rfl) hP hD hS h1
