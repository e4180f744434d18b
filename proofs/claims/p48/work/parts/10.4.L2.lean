-- L_comes
theorem hdL_draw : yL_draw.cls = RL ∧ yL_draw.cls ≠ "java/lang/invoke/MethodHandle" ∧ yL_draw.cls ≠ "java/lang/invoke/VarHandle" ∧ (parseMethodDescriptor yL_draw.desc).map (fun d => d.parameters.length) = some 1 := by decide +kernel
theorem inL_comes_L : ∀ w ∈ u_ws RL TL 4, w ∈ wsL_comes := k_lays 242 rfl
theorem lkL_comes_10 : Cond.fieldLink RL 10 "FerryRampLaw" "x" "LFerryRamp;" ∈ wsL_comes := List.mem_of_getElem? (i := 1) rfl
theorem heL_easyIn : yL_easyIn.cls ≠ "java/lang/invoke/MethodHandle" ∧ yL_easyIn.cls ≠ "java/lang/invoke/VarHandle" ∧ (parseMethodDescriptor yL_easyIn.desc).map (fun d => d.parameters.length) = some 2 := by decide +kernel
theorem heL_save : yL_save.cls ≠ "java/lang/invoke/MethodHandle" ∧ yL_save.cls ≠ "java/lang/invoke/VarHandle" ∧ (parseMethodDescriptor yL_save.desc).map (fun d => d.parameters.length) = some 2 := by decide +kernel
theorem heL_restore : yL_restore.cls ≠ "java/lang/invoke/MethodHandle" ∧ yL_restore.cls ≠ "java/lang/invoke/VarHandle" ∧ (parseMethodDescriptor yL_restore.desc).map (fun d => d.parameters.length) = some 2 := by decide +kernel
theorem hdX9_slope : yX9_slope.cls = RX9 ∧ yX9_slope.cls ≠ "java/lang/invoke/MethodHandle" ∧ yX9_slope.cls ≠ "java/lang/invoke/VarHandle" ∧ (parseMethodDescriptor yX9_slope.desc).map (fun d => d.parameters.length) = some 0 := by decide +kernel
theorem heL_kind : yL_kind.cls ≠ "java/lang/invoke/MethodHandle" ∧ yL_kind.cls ≠ "java/lang/invoke/VarHandle" ∧ (parseMethodDescriptor yL_kind.desc).map (fun d => d.parameters.length) = some 3 := by decide +kernel
theorem hdX9_lip : yX9_lip.cls = RX9 ∧ yX9_lip.cls ≠ "java/lang/invoke/MethodHandle" ∧ yX9_lip.cls ≠ "java/lang/invoke/VarHandle" ∧ (parseMethodDescriptor yX9_lip.desc).map (fun d => d.parameters.length) = some 0 := by decide +kernel
abbrev rmL_comes : Room := { frames := 8, cells := 0, slots := 0, locals := 185 }
def fL_comes_b318 (x1 : Int32) (x2 : Int32) (x7 : Int32) (x8 : Int32) (x9 : Int32) (Y : YB) (un : Int32) (u : FS) : Option (Int32 × Int32 × FS) :=
  bnd2 (fL_tick (x1 - x9) u) (fun r328 u328 => (if (x8 + r328) = x2 then bnd (fL_count 13 u328) (fun r346 => (if r346 = (x7 + x2) then bnd2 (fL_boardIn 200 u328) (fun r363 u363 => bnd2 (fL_boardIn 1 u363) (fun r371 u371 => (if r363 < r371 then some (0, (un, u371)) else bnd2 (fL_draw 2 Y un u371) (fun r379 u379 => (if r379 = 0 then some (1, (u379, u371)) else bnd2 (fL_restore 0 u371) (fun r390 u390 => (if r390 = 0 then bnd (fL_count 13 u390) (fun r402 => (if r402 = x7 then some (1, (u379, u390)) else some (0, (u379, u390)))) else some (0, (u379, u390))))))))) else some (0, (un, u328)))) else some (0, (un, u328))))
set_option maxHeartbeats 4000000 in
set_option maxRecDepth 100000 in
theorem tL_comes_b318 {p : Program} {l : Launch} {e : Env} {s : State} {m : MethodId} {args : Array Value} {below : List Frame} {meth : Method} {c : Code} {D : va_G} {cy : Nat → ClassId} {A : Nat → Prop} {hLn : Nat} {lbn : Nat} {ad : Nat → Nat} {hh : Nat → Nat} {aa : Nat → Nat → Nat} {pa : Nat → Nat} {za zv : Nat → Nat} {Y : YB} (K : Int32 × Int32 × FS → Prop) (E : mE D cy RL cL_comes 10 (some .boolean) wsL_comes A p s m args meth c) (hZ : mZ za zv A s s.heap) (hY : mY Y A s s.heap)
     (x1 : Int32) (x2 : Int32) (x7 : Int32) (x8 : Int32) (x9 : Int32) (un : Int32) (u : FS) (H : Heap) (locs : List Loc) (ls : Array Slot) (hl : lv_has ls 10 [(0, .ref hLn), (1, .int x1), (2, .int x2), (7, .int x7), (8, .int x8), (9, .int x9)]) (hP : va_P D kCl (([lwW hLn (ad 0) Y.2.1 lbn un, wF cy ad hh aa pa u] : List va_W).flatten) H) (hD : va_D A (([lwW hLn (ad 0) Y.2.1 lbn un, wF cy ad hh aa pa u] : List va_W).flatten)) (hS : va_S A s.heap H locs) (h1 : Ok (fL_comes_b318 x1 x2 x7 x8 x9 Y un u) K) :
    kW p l e rmL_comes s m args below meth c H locs (va_Qi (fun r q => K (r, q)) (fun q => kPost D A (([lwW hLn (ad 0) Y.2.1 lbn q.1, wF cy ad hh aa pa q.2] : List va_W).flatten)) A) A 318 ls [] := by
  obtain ⟨hx, hb, hr, hml, hown, hts, hlocks, hK, hA⟩ := id E
  unfold fL_comes_b318 at h1
  refine lv_iload hx hb dL_comes_318 (lv_at hl 4 rfl) ?_
  refine lv_aload_n hx hb dL_comes_320 rfl (lv_at hl 0 rfl) ?_
  refine k_get (v := .ref (ad 0)) (C := RL) (T := TL) (N := 4) hx hb hts inL_comes_L hown hK hP 0 rfl rfl 0 (by decide) lkL_comes_10 rfl dL_comes_321 ?_
  refine lv_iload_n hx hb dL_comes_324 rfl (lv_at hl 1 rfl) ?_
  refine lv_iload hx hb dL_comes_325 (lv_at hl 5 rfl) ?_
  refine lv_isub hx hb dL_comes_327 ?_
  refine kh_iS (As := [.ref (ad 0), .int (x1 - x9)]) (rest := [.int x8]) h1 ⟨hx, hb, hml, hown, hts⟩ (cL_tickM l D cy ad hh aa pa H.size u (x1 - x9)) (vx_cwSW 2 hts gL_comes_L_tick rfl rfl rfl heL_tick ⟨Nat.le_of_ble_eq_true rfl, Nat.le_of_ble_eq_true rfl⟩) hK (k_sel1 (l := [lwW hLn (ad 0) Y.2.1 lbn un, wF cy ad hh aa pa u]) (n := 2) 1 [0] rfl rfl (by decide)) hP hD hS hA rfl hl.1 rfl (Nat.le_of_ble_eq_true rfl) dL_comes_328 ⟨Nat.zero_le _, Nat.zero_le _⟩ (fun r328 u328 H locs h1 hP hD hS => ?_)
  replace hP := kP_perm (List.Perm.symm (k_sel1 (l := [lwW hLn (ad 0) Y.2.1 lbn un, wF cy ad hh aa pa u328]) (n := 2) 1 [0] rfl rfl (by decide))) hP
  replace hD := kD_perm (List.Perm.symm (k_sel1 (l := [lwW hLn (ad 0) Y.2.1 lbn un, wF cy ad hh aa pa u328]) (n := 2) 1 [0] rfl rfl (by decide))) hD
  refine lv_iadd hx hb dL_comes_331 ?_
  refine lv_istore (lv' := [(8, .int (x8 + r328)), (0, .ref hLn), (1, .int x1), (2, .int x2), (7, .int x7), (9, .int x9)]) hx hb dL_comes_332 hl (by decide) rfl (fun ls hl => ?_)
  refine lv_iload hx hb dL_comes_334 (lv_at hl 0 rfl) ?_
  refine lv_iload_n hx hb dL_comes_336 rfl (lv_at hl 3 rfl) ?_
  refine lv_icmp_ne (tgt := 414) hx hb dL_comes_337 (by decide) (fun c337 => ?_) (fun c337 => ?_)
  · replace h1 := Ok.neg c337 h1
    refine lv_iconst (v := 0) hx hb dL_comes_414 rfl ?_
    exact kret_iz hx hb hr rfl hlocks hP hD hS h1 dL_comes_415
  · replace h1 := Ok.pos c337 h1
    refine lv_aload_n hx hb dL_comes_340 rfl (lv_at hl 1 rfl) ?_
    refine k_get (v := .ref (ad 0)) (C := RL) (T := TL) (N := 4) hx hb hts inL_comes_L hown hK hP 0 rfl rfl 0 (by decide) lkL_comes_10 rfl dL_comes_341 ?_
    refine lv_bipush (v := 13) hx hb dL_comes_344 rfl ?_
    refine kh_rS (As := [.ref (ad 0), .int 13]) (rest := []) h1 ⟨hx, hb, hml, hown, hts⟩ (cL_countM l D cy ad hh aa pa H.size u328 13) (vx_cwSW 2 hts gL_comes_L_count rfl rfl rfl heL_count ⟨Nat.le_of_ble_eq_true rfl, Nat.le_of_ble_eq_true rfl⟩) hK (k_sel1 (l := [lwW hLn (ad 0) Y.2.1 lbn un, wF cy ad hh aa pa u328]) (n := 2) 1 [0] rfl rfl (by decide)) hP hD hS hA rfl hl.1 rfl (Nat.le_of_ble_eq_true rfl) dL_comes_346 ⟨Nat.zero_le _, Nat.zero_le _⟩ (fun r346 H locs h1 hP hS => ?_)
    refine lv_iload hx hb dL_comes_349 (lv_at hl 4 rfl) ?_
    refine lv_iload_n hx hb dL_comes_351 rfl (lv_at hl 3 rfl) ?_
    refine lv_iadd hx hb dL_comes_352 ?_
    refine lv_icmp_ne (tgt := 414) hx hb dL_comes_353 (by decide) (fun c353 => ?_) (fun c353 => ?_)
    · replace h1 := Ok.neg c353 h1
      refine lv_iconst (v := 0) hx hb dL_comes_414 rfl ?_
      exact kret_iz hx hb hr rfl hlocks hP hD hS h1 dL_comes_415
    · replace h1 := Ok.pos c353 h1
      refine lv_aload_n hx hb dL_comes_356 rfl (lv_at hl 1 rfl) ?_
      refine k_get (v := .ref (ad 0)) (C := RL) (T := TL) (N := 4) hx hb hts inL_comes_L hown hK hP 0 rfl rfl 0 (by decide) lkL_comes_10 rfl dL_comes_357 ?_
      refine lv_sipush (v := 200) hx hb dL_comes_360 rfl ?_
      refine kh_iS (As := [.ref (ad 0), .int 200]) (rest := []) h1 ⟨hx, hb, hml, hown, hts⟩ (cL_boardInM l D cy ad hh aa pa H.size u328 200) (vx_cwSW 2 hts gL_comes_L_boardIn rfl rfl rfl heL_boardIn ⟨Nat.le_of_ble_eq_true rfl, Nat.le_of_ble_eq_true rfl⟩) hK (k_sel1 (l := [lwW hLn (ad 0) Y.2.1 lbn un, wF cy ad hh aa pa u328]) (n := 2) 1 [0] rfl rfl (by decide)) hP hD hS hA rfl hl.1 rfl (Nat.le_of_ble_eq_true rfl) dL_comes_363 ⟨Nat.zero_le _, Nat.zero_le _⟩ (fun r363 u363 H locs h1 hP hD hS => ?_)
      replace hP := kP_perm (List.Perm.symm (k_sel1 (l := [lwW hLn (ad 0) Y.2.1 lbn un, wF cy ad hh aa pa u363]) (n := 2) 1 [0] rfl rfl (by decide))) hP
      replace hD := kD_perm (List.Perm.symm (k_sel1 (l := [lwW hLn (ad 0) Y.2.1 lbn un, wF cy ad hh aa pa u363]) (n := 2) 1 [0] rfl rfl (by decide))) hD
      refine lv_aload_n hx hb dL_comes_366 rfl (lv_at hl 1 rfl) ?_
      refine k_get (v := .ref (ad 0)) (C := RL) (T := TL) (N := 4) hx hb hts inL_comes_L hown hK hP 0 rfl rfl 0 (by decide) lkL_comes_10 rfl dL_comes_367 ?_
      refine lv_iconst (v := 1) hx hb dL_comes_370 rfl ?_
      refine kh_iS (As := [.ref (ad 0), .int 1]) (rest := [.int r363]) h1 ⟨hx, hb, hml, hown, hts⟩ (cL_boardInM l D cy ad hh aa pa H.size u363 1) (vx_cwSW 2 hts gL_comes_L_boardIn rfl rfl rfl heL_boardIn ⟨Nat.le_of_ble_eq_true rfl, Nat.le_of_ble_eq_true rfl⟩) hK (k_sel1 (l := [lwW hLn (ad 0) Y.2.1 lbn un, wF cy ad hh aa pa u363]) (n := 2) 1 [0] rfl rfl (by decide)) hP hD hS hA rfl hl.1 rfl (Nat.le_of_ble_eq_true rfl) dL_comes_371 ⟨Nat.zero_le _, Nat.zero_le _⟩ (fun r371 u371 H locs h1 hP hD hS => ?_)
      replace hP := kP_perm (List.Perm.symm (k_sel1 (l := [lwW hLn (ad 0) Y.2.1 lbn un, wF cy ad hh aa pa u371]) (n := 2) 1 [0] rfl rfl (by decide))) hP
      replace hD := kD_perm (List.Perm.symm (k_sel1 (l := [lwW hLn (ad 0) Y.2.1 lbn un, wF cy ad hh aa pa u371]) (n := 2) 1 [0] rfl rfl (by decide))) hD
      refine lv_icmp_lt (tgt := 414) hx hb dL_comes_374 (by decide) (fun c374 => ?_) (fun c374 => ?_)
      · replace h1 := Ok.pos c374 h1
        refine lv_iconst (v := 0) hx hb dL_comes_414 rfl ?_
        exact kret_iz hx hb hr rfl hlocks hP hD hS h1 dL_comes_415
      · replace h1 := Ok.neg c374 h1
        refine lv_aload_n hx hb dL_comes_377 rfl (lv_at hl 1 rfl) ?_
        refine lv_iconst (v := 2) hx hb dL_comes_378 rfl ?_
        refine ky_iV0 (b := hLn) (As := [.int 2]) (rest := []) h1 ⟨hx, hb, hml, hown, hts⟩ (cL_drawM l D cy za zv Y hLn lbn ad hh aa pa H.size un u371 2) (cwV 1 hts gL_comes_L_draw rfl rfl rfl hdL_draw ⟨Nat.le_of_ble_eq_true rfl, Nat.le_of_ble_eq_true rfl⟩) hY hZ hK hP hD hS hA (q0 := 0) rfl rfl rfl hl.1 rfl (Nat.le_of_ble_eq_true rfl) dL_comes_379 ⟨Nat.zero_le _, Nat.zero_le _⟩ (fun r379 u379 H locs h1 hP hD hS => ?_)
        refine lv_if_eq (tgt := 410) hx hb dL_comes_382 (by decide) (fun c382 => ?_) (fun c382 => ?_)
        · replace h1 := Ok.pos c382 h1
          refine lv_iconst (v := 1) hx hb dL_comes_410 rfl ?_
          refine lv_goto (tgt := 415) hx hb dL_comes_411 (by decide) ?_
          exact kret_iz hx hb hr rfl hlocks hP hD hS h1 dL_comes_415
        · replace h1 := Ok.neg c382 h1
          refine lv_aload_n hx hb dL_comes_385 rfl (lv_at hl 1 rfl) ?_
          refine k_get (v := .ref (ad 0)) (C := RL) (T := TL) (N := 4) hx hb hts inL_comes_L hown hK hP 0 rfl rfl 0 (by decide) lkL_comes_10 rfl dL_comes_386 ?_
          refine lv_iconst (v := 0) hx hb dL_comes_389 rfl ?_
          refine kh_iS (As := [.ref (ad 0), .int 0]) (rest := []) h1 ⟨hx, hb, hml, hown, hts⟩ (cL_restoreM l D cy ad hh aa pa H.size u371 0) (vx_cwSW 2 hts gL_comes_L_restore rfl rfl rfl heL_restore ⟨Nat.le_of_ble_eq_true rfl, Nat.le_of_ble_eq_true rfl⟩) hK (k_sel1 (l := [lwW hLn (ad 0) Y.2.1 lbn u379, wF cy ad hh aa pa u371]) (n := 2) 1 [0] rfl rfl (by decide)) hP hD hS hA rfl hl.1 rfl (Nat.le_of_ble_eq_true rfl) dL_comes_390 ⟨Nat.zero_le _, Nat.zero_le _⟩ (fun r390 u390 H locs h1 hP hD hS => ?_)
          replace hP := kP_perm (List.Perm.symm (k_sel1 (l := [lwW hLn (ad 0) Y.2.1 lbn u379, wF cy ad hh aa pa u390]) (n := 2) 1 [0] rfl rfl (by decide))) hP
          replace hD := kD_perm (List.Perm.symm (k_sel1 (l := [lwW hLn (ad 0) Y.2.1 lbn u379, wF cy ad hh aa pa u390]) (n := 2) 1 [0] rfl rfl (by decide))) hD
          refine lv_if_ne (tgt := 414) hx hb dL_comes_393 (by decide) (fun c393 => ?_) (fun c393 => ?_)
          · replace h1 := Ok.neg c393 h1
            refine lv_iconst (v := 0) hx hb dL_comes_414 rfl ?_
            exact kret_iz hx hb hr rfl hlocks hP hD hS h1 dL_comes_415
          · replace h1 := Ok.pos c393 h1
            refine lv_aload_n hx hb dL_comes_396 rfl (lv_at hl 1 rfl) ?_
            refine k_get (v := .ref (ad 0)) (C := RL) (T := TL) (N := 4) hx hb hts inL_comes_L hown hK hP 0 rfl rfl 0 (by decide) lkL_comes_10 rfl dL_comes_397 ?_
            refine lv_bipush (v := 13) hx hb dL_comes_400 rfl ?_
            refine kh_rS (As := [.ref (ad 0), .int 13]) (rest := []) h1 ⟨hx, hb, hml, hown, hts⟩ (cL_countM l D cy ad hh aa pa H.size u390 13) (vx_cwSW 2 hts gL_comes_L_count rfl rfl rfl heL_count ⟨Nat.le_of_ble_eq_true rfl, Nat.le_of_ble_eq_true rfl⟩) hK (k_sel1 (l := [lwW hLn (ad 0) Y.2.1 lbn u379, wF cy ad hh aa pa u390]) (n := 2) 1 [0] rfl rfl (by decide)) hP hD hS hA rfl hl.1 rfl (Nat.le_of_ble_eq_true rfl) dL_comes_402 ⟨Nat.zero_le _, Nat.zero_le _⟩ (fun r402 H locs h1 hP hS => ?_)
            refine lv_iload hx hb dL_comes_405 (lv_at hl 4 rfl) ?_
            refine lv_icmp_ne (tgt := 414) hx hb dL_comes_407 (by decide) (fun c407 => ?_) (fun c407 => ?_)
            · replace h1 := Ok.neg c407 h1
              refine lv_iconst (v := 0) hx hb dL_comes_414 rfl ?_
              exact kret_iz hx hb hr rfl hlocks hP hD hS h1 dL_comes_415
            · replace h1 := Ok.pos c407 h1
              refine lv_iconst (v := 1) hx hb dL_comes_410 rfl ?_
              refine lv_goto (tgt := 415) hx hb dL_comes_411 (by decide) ?_
              exact kret_iz hx hb hr rfl hlocks hP hD hS h1 dL_comes_415
def fL_comes_b281 (x1 : Int32) (x2 : Int32) (Y : YB) (un : Int32) (u : FS) : Option (Int32 × Int32 × FS) :=
  bnd (fL_count 13 u) (fun r287 => bnd2 (fL_draw x1 Y un u) (fun r297 u297 => (if r297 ≤ 0 then fL_comes_b318 x1 x2 r287 0 r297 Y u297 u else bnd2 (fL_tick r297 u) (fun r313 u313 => fL_comes_b318 x1 x2 r287 r313 r297 Y u297 u313))))
set_option maxHeartbeats 4000000 in
set_option maxRecDepth 100000 in
theorem tL_comes_b281 {p : Program} {l : Launch} {e : Env} {s : State} {m : MethodId} {args : Array Value} {below : List Frame} {meth : Method} {c : Code} {D : va_G} {cy : Nat → ClassId} {A : Nat → Prop} {hLn : Nat} {lbn : Nat} {ad : Nat → Nat} {hh : Nat → Nat} {aa : Nat → Nat → Nat} {pa : Nat → Nat} {za zv : Nat → Nat} {Y : YB} (K : Int32 × Int32 × FS → Prop) (E : mE D cy RL cL_comes 10 (some .boolean) wsL_comes A p s m args meth c) (hZ : mZ za zv A s s.heap) (hY : mY Y A s s.heap)
     (x1 : Int32) (x2 : Int32) (un : Int32) (u : FS) (H : Heap) (locs : List Loc) (ls : Array Slot) (hl : lv_has ls 10 [(0, .ref hLn), (1, .int x1), (2, .int x2)]) (hP : va_P D kCl (([lwW hLn (ad 0) Y.2.1 lbn un, wF cy ad hh aa pa u] : List va_W).flatten) H) (hD : va_D A (([lwW hLn (ad 0) Y.2.1 lbn un, wF cy ad hh aa pa u] : List va_W).flatten)) (hS : va_S A s.heap H locs) (h1 : Ok (fL_comes_b281 x1 x2 Y un u) K) :
    kW p l e rmL_comes s m args below meth c H locs (va_Qi (fun r q => K (r, q)) (fun q => kPost D A (([lwW hLn (ad 0) Y.2.1 lbn q.1, wF cy ad hh aa pa q.2] : List va_W).flatten)) A) A 281 ls [] := by
  obtain ⟨hx, hb, hr, hml, hown, hts, hlocks, hK, hA⟩ := id E
  unfold fL_comes_b281 at h1
  refine lv_aload_n hx hb dL_comes_281 rfl (lv_at hl 0 rfl) ?_
  refine k_get (v := .ref (ad 0)) (C := RL) (T := TL) (N := 4) hx hb hts inL_comes_L hown hK hP 0 rfl rfl 0 (by decide) lkL_comes_10 rfl dL_comes_282 ?_
  refine lv_bipush (v := 13) hx hb dL_comes_285 rfl ?_
  refine kh_rS (As := [.ref (ad 0), .int 13]) (rest := []) h1 ⟨hx, hb, hml, hown, hts⟩ (cL_countM l D cy ad hh aa pa H.size u 13) (vx_cwSW 2 hts gL_comes_L_count rfl rfl rfl heL_count ⟨Nat.le_of_ble_eq_true rfl, Nat.le_of_ble_eq_true rfl⟩) hK (k_sel1 (l := [lwW hLn (ad 0) Y.2.1 lbn un, wF cy ad hh aa pa u]) (n := 2) 1 [0] rfl rfl (by decide)) hP hD hS hA rfl hl.1 rfl (Nat.le_of_ble_eq_true rfl) dL_comes_287 ⟨Nat.zero_le _, Nat.zero_le _⟩ (fun r287 H locs h1 hP hS => ?_)
  refine lv_istore (lv' := [(7, .int r287), (0, .ref hLn), (1, .int x1), (2, .int x2)]) hx hb dL_comes_290 hl (by decide) rfl (fun ls hl => ?_)
  refine lv_iconst (v := 0) hx hb dL_comes_292 rfl ?_
  refine lv_istore (lv' := [(8, .int 0), (7, .int r287), (0, .ref hLn), (1, .int x1), (2, .int x2)]) hx hb dL_comes_293 hl (by decide) rfl (fun ls hl => ?_)
  refine lv_aload_n hx hb dL_comes_295 rfl (lv_at hl 2 rfl) ?_
  refine lv_iload_n hx hb dL_comes_296 rfl (lv_at hl 3 rfl) ?_
  refine ky_iV0 (b := hLn) (As := [.int x1]) (rest := []) h1 ⟨hx, hb, hml, hown, hts⟩ (cL_drawM l D cy za zv Y hLn lbn ad hh aa pa H.size un u x1) (cwV 1 hts gL_comes_L_draw rfl rfl rfl hdL_draw ⟨Nat.le_of_ble_eq_true rfl, Nat.le_of_ble_eq_true rfl⟩) hY hZ hK hP hD hS hA (q0 := 0) rfl rfl rfl hl.1 rfl (Nat.le_of_ble_eq_true rfl) dL_comes_297 ⟨Nat.zero_le _, Nat.zero_le _⟩ (fun r297 u297 H locs h1 hP hD hS => ?_)
  refine lv_istore (lv' := [(9, .int r297), (8, .int 0), (7, .int r287), (0, .ref hLn), (1, .int x1), (2, .int x2)]) hx hb dL_comes_300 hl (by decide) rfl (fun ls hl => ?_)
  refine lv_iload hx hb dL_comes_302 (lv_at hl 0 rfl) ?_
  refine lv_if_le (tgt := 318) hx hb dL_comes_304 (by decide) (fun c304 => ?_) (fun c304 => ?_)
  · replace h1 := Ok.pos c304 h1
    exact tL_comes_b318 K E hZ hY x1 x2 r287 0 r297 u297 u H locs ls (lv_sub hl [3, 4, 5, 2, 1, 0] rfl) hP hD hS h1
  · replace h1 := Ok.neg c304 h1
    refine lv_aload_n hx hb dL_comes_307 rfl (lv_at hl 3 rfl) ?_
    refine k_get (v := .ref (ad 0)) (C := RL) (T := TL) (N := 4) hx hb hts inL_comes_L hown hK hP 0 rfl rfl 0 (by decide) lkL_comes_10 rfl dL_comes_308 ?_
    refine lv_iload hx hb dL_comes_311 (lv_at hl 0 rfl) ?_
    refine kh_iS (As := [.ref (ad 0), .int r297]) (rest := []) h1 ⟨hx, hb, hml, hown, hts⟩ (cL_tickM l D cy ad hh aa pa H.size u r297) (vx_cwSW 2 hts gL_comes_L_tick rfl rfl rfl heL_tick ⟨Nat.le_of_ble_eq_true rfl, Nat.le_of_ble_eq_true rfl⟩) hK (k_sel1 (l := [lwW hLn (ad 0) Y.2.1 lbn u297, wF cy ad hh aa pa u]) (n := 2) 1 [0] rfl rfl (by decide)) hP hD hS hA rfl hl.1 rfl (Nat.le_of_ble_eq_true rfl) dL_comes_313 ⟨Nat.zero_le _, Nat.zero_le _⟩ (fun r313 u313 H locs h1 hP hD hS => ?_)
    replace hP := kP_perm (List.Perm.symm (k_sel1 (l := [lwW hLn (ad 0) Y.2.1 lbn u297, wF cy ad hh aa pa u313]) (n := 2) 1 [0] rfl rfl (by decide))) hP
    replace hD := kD_perm (List.Perm.symm (k_sel1 (l := [lwW hLn (ad 0) Y.2.1 lbn u297, wF cy ad hh aa pa u313]) (n := 2) 1 [0] rfl rfl (by decide))) hD
    refine lv_istore (lv' := [(8, .int r313), (9, .int r297), (7, .int r287), (0, .ref hLn), (1, .int x1), (2, .int x2)]) hx hb dL_comes_316 hl (by decide) rfl (fun ls hl => ?_)
    exact tL_comes_b318 K E hZ hY x1 x2 r287 r313 r297 u297 u313 H locs ls (lv_sub hl [3, 4, 5, 2, 0, 1] rfl) hP hD hS h1
def fL_comes_b198 (k198 : Int32 × Int32 × Int32 × Int32 × Int32 × Int32 × FS → Option (Int32 × Int32 × FS)) (x1 : Int32) (x2 : Int32) (x5 : Int32) (x6 : Int32) (x7 : Int32) (Y : YB) (un : Int32) (u : FS) : Option (Int32 × Int32 × FS) :=
  (if x5 ≤ x7 then bnd (fL_count 8 u) (fun r230 => (if r230 < 0 then some (0, (un, u)) else (if r230 = x6 then some (0, (un, u)) else bnd (fL_car r230 5 u) (fun r254 => bnd (fL_count 0 u) (fun r262 => (if r254 = r262 then bnd2 (fL_restore 0 u) (fun r273 u273 => (if r273 = 0 then fL_comes_b281 x1 x2 Y un u273 else some (0, (un, u273)))) else some (0, (un, u)))))))) else bnd2 (fL_tick 1 u) (fun r210 u210 => (if 0 ≤ r210 then k198 (x1, x2, x5, x6, x7 + 1, un, u210) else some (0, (un, u210)))))
set_option maxHeartbeats 4000000 in
set_option maxRecDepth 100000 in
theorem tL_comes_b198 {p : Program} {l : Launch} {e : Env} {s : State} {m : MethodId} {args : Array Value} {below : List Frame} {meth : Method} {c : Code} {D : va_G} {cy : Nat → ClassId} {A : Nat → Prop} {hLn : Nat} {lbn : Nat} {ad : Nat → Nat} {hh : Nat → Nat} {aa : Nat → Nat → Nat} {pa : Nat → Nat} {za zv : Nat → Nat} {Y : YB} (K : Int32 × Int32 × FS → Prop) (E : mE D cy RL cL_comes 10 (some .boolean) wsL_comes A p s m args meth c) (hZ : mZ za zv A s s.heap) (hY : mY Y A s s.heap)
    (k198 : Int32 × Int32 × Int32 × Int32 × Int32 × Int32 × FS → Option (Int32 × Int32 × FS)) (hk198 : ∀ (x1 : Int32) (x2 : Int32) (x5 : Int32) (x6 : Int32) (x7 : Int32) (un : Int32) (u : FS) (H : Heap) (locs : List Loc) (ls : Array Slot), lv_has ls 10 [(0, .ref hLn), (1, .int x1), (2, .int x2), (5, .int x5), (6, .int x6), (7, .int x7)] → va_P D kCl (([lwW hLn (ad 0) Y.2.1 lbn un, wF cy ad hh aa pa u] : List va_W).flatten) H → va_D A (([lwW hLn (ad 0) Y.2.1 lbn un, wF cy ad hh aa pa u] : List va_W).flatten) → va_S A s.heap H locs → Ok (k198 (x1, x2, x5, x6, x7, un, u)) K → kW p l e rmL_comes s m args below meth c H locs (va_Qi (fun r q => K (r, q)) (fun q => kPost D A (([lwW hLn (ad 0) Y.2.1 lbn q.1, wF cy ad hh aa pa q.2] : List va_W).flatten)) A) A 198 ls [])
     (x1 : Int32) (x2 : Int32) (x5 : Int32) (x6 : Int32) (x7 : Int32) (un : Int32) (u : FS) (H : Heap) (locs : List Loc) (ls : Array Slot) (hl : lv_has ls 10 [(0, .ref hLn), (1, .int x1), (2, .int x2), (5, .int x5), (6, .int x6), (7, .int x7)]) (hP : va_P D kCl (([lwW hLn (ad 0) Y.2.1 lbn un, wF cy ad hh aa pa u] : List va_W).flatten) H) (hD : va_D A (([lwW hLn (ad 0) Y.2.1 lbn un, wF cy ad hh aa pa u] : List va_W).flatten)) (hS : va_S A s.heap H locs) (h1 : Ok (fL_comes_b198 k198 x1 x2 x5 x6 x7 Y un u) K) :
    kW p l e rmL_comes s m args below meth c H locs (va_Qi (fun r q => K (r, q)) (fun q => kPost D A (([lwW hLn (ad 0) Y.2.1 lbn q.1, wF cy ad hh aa pa q.2] : List va_W).flatten)) A) A 198 ls [] := by
  obtain ⟨hx, hb, hr, hml, hown, hts, hlocks, hK, hA⟩ := id E
  unfold fL_comes_b198 at h1
  refine lv_iload hx hb dL_comes_198 (lv_at hl 5 rfl) ?_
  refine lv_iload hx hb dL_comes_200 (lv_at hl 3 rfl) ?_
  refine lv_icmp_ge (tgt := 224) hx hb dL_comes_202 (by decide) (fun c202 => ?_) (fun c202 => ?_)
  · replace h1 := Ok.pos c202 h1
    refine lv_aload_n hx hb dL_comes_224 rfl (lv_at hl 0 rfl) ?_
    refine k_get (v := .ref (ad 0)) (C := RL) (T := TL) (N := 4) hx hb hts inL_comes_L hown hK hP 0 rfl rfl 0 (by decide) lkL_comes_10 rfl dL_comes_225 ?_
    refine lv_bipush (v := 8) hx hb dL_comes_228 rfl ?_
    refine kh_rS (As := [.ref (ad 0), .int 8]) (rest := []) h1 ⟨hx, hb, hml, hown, hts⟩ (cL_countM l D cy ad hh aa pa H.size u 8) (vx_cwSW 2 hts gL_comes_L_count rfl rfl rfl heL_count ⟨Nat.le_of_ble_eq_true rfl, Nat.le_of_ble_eq_true rfl⟩) hK (k_sel1 (l := [lwW hLn (ad 0) Y.2.1 lbn un, wF cy ad hh aa pa u]) (n := 2) 1 [0] rfl rfl (by decide)) hP hD hS hA rfl hl.1 rfl (Nat.le_of_ble_eq_true rfl) dL_comes_230 ⟨Nat.zero_le _, Nat.zero_le _⟩ (fun r230 H locs h1 hP hS => ?_)
    refine lv_istore (lv' := [(7, .int r230), (0, .ref hLn), (1, .int x1), (2, .int x2), (5, .int x5), (6, .int x6)]) hx hb dL_comes_233 hl (by decide) rfl (fun ls hl => ?_)
    refine lv_iload hx hb dL_comes_235 (lv_at hl 0 rfl) ?_
    refine lv_if_lt (tgt := 279) hx hb dL_comes_237 (by decide) (fun c237 => ?_) (fun c237 => ?_)
    · replace h1 := Ok.pos c237 h1
      refine lv_iconst (v := 0) hx hb dL_comes_279 rfl ?_
      exact kret_iz hx hb hr rfl hlocks hP hD hS h1 dL_comes_280
    · replace h1 := Ok.neg c237 h1
      refine lv_iload hx hb dL_comes_240 (lv_at hl 0 rfl) ?_
      refine lv_iload hx hb dL_comes_242 (lv_at hl 5 rfl) ?_
      refine lv_icmp_eq (tgt := 279) hx hb dL_comes_244 (by decide) (fun c244 => ?_) (fun c244 => ?_)
      · replace h1 := Ok.pos c244 h1
        refine lv_iconst (v := 0) hx hb dL_comes_279 rfl ?_
        exact kret_iz hx hb hr rfl hlocks hP hD hS h1 dL_comes_280
      · replace h1 := Ok.neg c244 h1
        refine lv_aload_n hx hb dL_comes_247 rfl (lv_at hl 1 rfl) ?_
        refine k_get (v := .ref (ad 0)) (C := RL) (T := TL) (N := 4) hx hb hts inL_comes_L hown hK hP 0 rfl rfl 0 (by decide) lkL_comes_10 rfl dL_comes_248 ?_
        refine lv_iload hx hb dL_comes_251 (lv_at hl 0 rfl) ?_
        refine lv_iconst (v := 5) hx hb dL_comes_253 rfl ?_
        refine kh_rS (As := [.ref (ad 0), .int r230, .int 5]) (rest := []) h1 ⟨hx, hb, hml, hown, hts⟩ (cL_carM l D cy ad hh aa pa H.size u r230 5) (vx_cwSW 3 hts gL_comes_L_car rfl rfl rfl heL_car ⟨Nat.le_of_ble_eq_true rfl, Nat.le_of_ble_eq_true rfl⟩) hK (k_sel1 (l := [lwW hLn (ad 0) Y.2.1 lbn un, wF cy ad hh aa pa u]) (n := 2) 1 [0] rfl rfl (by decide)) hP hD hS hA rfl hl.1 rfl (Nat.le_of_ble_eq_true rfl) dL_comes_254 ⟨Nat.zero_le _, Nat.zero_le _⟩ (fun r254 H locs h1 hP hS => ?_)
        refine lv_aload_n hx hb dL_comes_257 rfl (lv_at hl 1 rfl) ?_
        refine k_get (v := .ref (ad 0)) (C := RL) (T := TL) (N := 4) hx hb hts inL_comes_L hown hK hP 0 rfl rfl 0 (by decide) lkL_comes_10 rfl dL_comes_258 ?_
        refine lv_iconst (v := 0) hx hb dL_comes_261 rfl ?_
        refine kh_rS (As := [.ref (ad 0), .int 0]) (rest := [.int r254]) h1 ⟨hx, hb, hml, hown, hts⟩ (cL_countM l D cy ad hh aa pa H.size u 0) (vx_cwSW 2 hts gL_comes_L_count rfl rfl rfl heL_count ⟨Nat.le_of_ble_eq_true rfl, Nat.le_of_ble_eq_true rfl⟩) hK (k_sel1 (l := [lwW hLn (ad 0) Y.2.1 lbn un, wF cy ad hh aa pa u]) (n := 2) 1 [0] rfl rfl (by decide)) hP hD hS hA rfl hl.1 rfl (Nat.le_of_ble_eq_true rfl) dL_comes_262 ⟨Nat.zero_le _, Nat.zero_le _⟩ (fun r262 H locs h1 hP hS => ?_)
        refine lv_icmp_ne (tgt := 279) hx hb dL_comes_265 (by decide) (fun c265 => ?_) (fun c265 => ?_)
        · replace h1 := Ok.neg c265 h1
          refine lv_iconst (v := 0) hx hb dL_comes_279 rfl ?_
          exact kret_iz hx hb hr rfl hlocks hP hD hS h1 dL_comes_280
        · replace h1 := Ok.pos c265 h1
          refine lv_aload_n hx hb dL_comes_268 rfl (lv_at hl 1 rfl) ?_
          refine k_get (v := .ref (ad 0)) (C := RL) (T := TL) (N := 4) hx hb hts inL_comes_L hown hK hP 0 rfl rfl 0 (by decide) lkL_comes_10 rfl dL_comes_269 ?_
          refine lv_iconst (v := 0) hx hb dL_comes_272 rfl ?_
          refine kh_iS (As := [.ref (ad 0), .int 0]) (rest := []) h1 ⟨hx, hb, hml, hown, hts⟩ (cL_restoreM l D cy ad hh aa pa H.size u 0) (vx_cwSW 2 hts gL_comes_L_restore rfl rfl rfl heL_restore ⟨Nat.le_of_ble_eq_true rfl, Nat.le_of_ble_eq_true rfl⟩) hK (k_sel1 (l := [lwW hLn (ad 0) Y.2.1 lbn un, wF cy ad hh aa pa u]) (n := 2) 1 [0] rfl rfl (by decide)) hP hD hS hA rfl hl.1 rfl (Nat.le_of_ble_eq_true rfl) dL_comes_273 ⟨Nat.zero_le _, Nat.zero_le _⟩ (fun r273 u273 H locs h1 hP hD hS => ?_)
          replace hP := kP_perm (List.Perm.symm (k_sel1 (l := [lwW hLn (ad 0) Y.2.1 lbn un, wF cy ad hh aa pa u273]) (n := 2) 1 [0] rfl rfl (by decide))) hP
          replace hD := kD_perm (List.Perm.symm (k_sel1 (l := [lwW hLn (ad 0) Y.2.1 lbn un, wF cy ad hh aa pa u273]) (n := 2) 1 [0] rfl rfl (by decide))) hD
          refine lv_if_eq (tgt := 281) hx hb dL_comes_276 (by decide) (fun c276 => ?_) (fun c276 => ?_)
          · replace h1 := Ok.pos c276 h1
            exact tL_comes_b281 K E hZ hY x1 x2 un u273 H locs ls (lv_sub hl [1, 2, 3] rfl) hP hD hS h1
          · replace h1 := Ok.neg c276 h1
            refine lv_iconst (v := 0) hx hb dL_comes_279 rfl ?_
            exact kret_iz hx hb hr rfl hlocks hP hD hS h1 dL_comes_280
  · replace h1 := Ok.neg c202 h1
    refine lv_aload_n hx hb dL_comes_205 rfl (lv_at hl 0 rfl) ?_
    refine k_get (v := .ref (ad 0)) (C := RL) (T := TL) (N := 4) hx hb hts inL_comes_L hown hK hP 0 rfl rfl 0 (by decide) lkL_comes_10 rfl dL_comes_206 ?_
    refine lv_iconst (v := 1) hx hb dL_comes_209 rfl ?_
    refine kh_iS (As := [.ref (ad 0), .int 1]) (rest := []) h1 ⟨hx, hb, hml, hown, hts⟩ (cL_tickM l D cy ad hh aa pa H.size u 1) (vx_cwSW 2 hts gL_comes_L_tick rfl rfl rfl heL_tick ⟨Nat.le_of_ble_eq_true rfl, Nat.le_of_ble_eq_true rfl⟩) hK (k_sel1 (l := [lwW hLn (ad 0) Y.2.1 lbn un, wF cy ad hh aa pa u]) (n := 2) 1 [0] rfl rfl (by decide)) hP hD hS hA rfl hl.1 rfl (Nat.le_of_ble_eq_true rfl) dL_comes_210 ⟨Nat.zero_le _, Nat.zero_le _⟩ (fun r210 u210 H locs h1 hP hD hS => ?_)
    replace hP := kP_perm (List.Perm.symm (k_sel1 (l := [lwW hLn (ad 0) Y.2.1 lbn un, wF cy ad hh aa pa u210]) (n := 2) 1 [0] rfl rfl (by decide))) hP
    replace hD := kD_perm (List.Perm.symm (k_sel1 (l := [lwW hLn (ad 0) Y.2.1 lbn un, wF cy ad hh aa pa u210]) (n := 2) 1 [0] rfl rfl (by decide))) hD
    refine lv_if_ge (tgt := 218) hx hb dL_comes_213 (by decide) (fun c213 => ?_) (fun c213 => ?_)
    · replace h1 := Ok.pos c213 h1
      refine lv_iinc (v := x7 + 1) (lv' := [(7, .int (x7 + 1)), (0, .ref hLn), (1, .int x1), (2, .int x2), (5, .int x5), (6, .int x6)]) hx hb dL_comes_218 hl (k := 5) rfl rfl (by decide) rfl (fun ls hl => ?_)
      refine lv_goto (tgt := 198) hx hb dL_comes_221 (by decide) ?_
      exact hk198 x1 x2 x5 x6 (x7 + 1) un u210 H locs ls (lv_sub hl [1, 2, 3, 4, 5, 0] rfl) hP hD hS h1
    · replace h1 := Ok.neg c213 h1
      refine lv_iconst (v := 0) hx hb dL_comes_216 rfl ?_
      exact kret_iz hx hb hr rfl hlocks hP hD hS h1 dL_comes_217
theorem tL_comes_l198 {p : Program} {l : Launch} {e : Env} {s : State} {m : MethodId} {args : Array Value} {below : List Frame} {meth : Method} {c : Code} {D : va_G} {cy : Nat → ClassId} {A : Nat → Prop} {hLn : Nat} {lbn : Nat} {ad : Nat → Nat} {hh : Nat → Nat} {aa : Nat → Nat → Nat} {pa : Nat → Nat} {za zv : Nat → Nat} {Y : YB} (K : Int32 × Int32 × FS → Prop) (E : mE D cy RL cL_comes 10 (some .boolean) wsL_comes A p s m args meth c) (hZ : mZ za zv A s s.heap) (hY : mY Y A s s.heap) : ∀ (n9 : Nat) (x1 : Int32) (x2 : Int32) (x5 : Int32) (x6 : Int32) (x7 : Int32) (un : Int32) (u : FS) (H : Heap) (locs : List Loc) (ls : Array Slot), lv_has ls 10 [(0, .ref hLn), (1, .int x1), (2, .int x2), (5, .int x5), (6, .int x6), (7, .int x7)] → va_P D kCl (([lwW hLn (ad 0) Y.2.1 lbn un, wF cy ad hh aa pa u] : List va_W).flatten) H → va_D A (([lwW hLn (ad 0) Y.2.1 lbn un, wF cy ad hh aa pa u] : List va_W).flatten) → va_S A s.heap H locs → Ok (lop (fun y z => fL_comes_b198 y z.1 z.2.1 z.2.2.1 z.2.2.2.1 z.2.2.2.2.1 Y z.2.2.2.2.2.1 z.2.2.2.2.2.2) n9 (x1, x2, x5, x6, x7, un, u)) K → kW p l e rmL_comes s m args below meth c H locs (va_Qi (fun r q => K (r, q)) (fun q => kPost D A (([lwW hLn (ad 0) Y.2.1 lbn q.1, wF cy ad hh aa pa q.2] : List va_W).flatten)) A) A 198 ls [] := by
  intro n9
  induction n9 with
  | zero =>
    intro x1 x2 x5 x6 x7 un u H locs ls hl hP hD hS h1
    exact h1.no
  | succ n9 ih =>
    intro x1 x2 x5 x6 x7 un u H locs ls hl hP hD hS h1
    exact tL_comes_b198 K E hZ hY (lop (fun y z => fL_comes_b198 y z.1 z.2.1 z.2.2.1 z.2.2.2.1 z.2.2.2.2.1 Y z.2.2.2.2.2.1 z.2.2.2.2.2.2) n9) (fun x1 x2 x5 x6 x7 un u H locs ls hl hP hD hS h1 => ih x1 x2 x5 x6 x7 un u H locs ls hl hP hD hS h1) x1 x2 x5 x6 x7 un u H locs ls hl hP hD hS h1
def fL_comes_b190 (x1 : Int32) (x2 : Int32) (x5 : Int32) (x6 : Int32) (Y : YB) (un : Int32) (u : FS) : Option (Int32 × Int32 × FS) :=
  (if x5 < 0 then fL_comes_b281 x1 x2 Y un u else lop (fun y z => fL_comes_b198 y z.1 z.2.1 z.2.2.1 z.2.2.2.1 z.2.2.2.2.1 Y z.2.2.2.2.2.1 z.2.2.2.2.2.2) LF (x1, x2, x5, x6, 0, un, u))
set_option maxHeartbeats 4000000 in
set_option maxRecDepth 100000 in
theorem tL_comes_b190 {p : Program} {l : Launch} {e : Env} {s : State} {m : MethodId} {args : Array Value} {below : List Frame} {meth : Method} {c : Code} {D : va_G} {cy : Nat → ClassId} {A : Nat → Prop} {hLn : Nat} {lbn : Nat} {ad : Nat → Nat} {hh : Nat → Nat} {aa : Nat → Nat → Nat} {pa : Nat → Nat} {za zv : Nat → Nat} {Y : YB} (K : Int32 × Int32 × FS → Prop) (E : mE D cy RL cL_comes 10 (some .boolean) wsL_comes A p s m args meth c) (hZ : mZ za zv A s s.heap) (hY : mY Y A s s.heap)
     (x1 : Int32) (x2 : Int32) (x5 : Int32) (x6 : Int32) (un : Int32) (u : FS) (H : Heap) (locs : List Loc) (ls : Array Slot) (hl : lv_has ls 10 [(0, .ref hLn), (1, .int x1), (2, .int x2), (5, .int x5), (6, .int x6)]) (hP : va_P D kCl (([lwW hLn (ad 0) Y.2.1 lbn un, wF cy ad hh aa pa u] : List va_W).flatten) H) (hD : va_D A (([lwW hLn (ad 0) Y.2.1 lbn un, wF cy ad hh aa pa u] : List va_W).flatten)) (hS : va_S A s.heap H locs) (h1 : Ok (fL_comes_b190 x1 x2 x5 x6 Y un u) K) :
    kW p l e rmL_comes s m args below meth c H locs (va_Qi (fun r q => K (r, q)) (fun q => kPost D A (([lwW hLn (ad 0) Y.2.1 lbn q.1, wF cy ad hh aa pa q.2] : List va_W).flatten)) A) A 190 ls [] := by
  obtain ⟨hx, hb, hr, hml, hown, hts, hlocks, hK, hA⟩ := id E
  unfold fL_comes_b190 at h1
  refine lv_iload hx hb dL_comes_190 (lv_at hl 3 rfl) ?_
  refine lv_if_lt (tgt := 281) hx hb dL_comes_192 (by decide) (fun c192 => ?_) (fun c192 => ?_)
  · replace h1 := Ok.pos c192 h1
    exact tL_comes_b281 K E hZ hY x1 x2 un u H locs ls (lv_sub hl [0, 1, 2] rfl) hP hD hS h1
  · replace h1 := Ok.neg c192 h1
    refine lv_iconst (v := 0) hx hb dL_comes_195 rfl ?_
    refine lv_istore (lv' := [(7, .int 0), (0, .ref hLn), (1, .int x1), (2, .int x2), (5, .int x5), (6, .int x6)]) hx hb dL_comes_196 hl (by decide) rfl (fun ls hl => ?_)
    exact tL_comes_l198 K E hZ hY LF x1 x2 x5 x6 0 un u H locs ls (lv_sub hl [1, 2, 3, 4, 5, 0] rfl) hP hD hS h1
def fL_comes_b120 (k75 : Int32 × Int32 × Int32 × Int32 × Int32 × Int32 × Int32 × Int32 × FS → Option (Int32 × Int32 × FS)) (x1 : Int32) (x2 : Int32) (x3 : Int32) (x4 : Int32) (x5 : Int32) (x6 : Int32) (x7 : Int32) (Y : YB) (un : Int32) (u : FS) : Option (Int32 × Int32 × FS) :=
  bnd2 (fL_tick 1 u) (fun r125 u125 => (if 0 ≤ r125 then k75 (x1, x2, x3, x4, x5, x6, x7 + 1, un, u125) else some (0, (un, u125))))
set_option maxHeartbeats 4000000 in
set_option maxRecDepth 100000 in
theorem tL_comes_b120 {p : Program} {l : Launch} {e : Env} {s : State} {m : MethodId} {args : Array Value} {below : List Frame} {meth : Method} {c : Code} {D : va_G} {cy : Nat → ClassId} {A : Nat → Prop} {hLn : Nat} {lbn : Nat} {ad : Nat → Nat} {hh : Nat → Nat} {aa : Nat → Nat → Nat} {pa : Nat → Nat} {za zv : Nat → Nat} {Y : YB} (K : Int32 × Int32 × FS → Prop) (E : mE D cy RL cL_comes 10 (some .boolean) wsL_comes A p s m args meth c) (hZ : mZ za zv A s s.heap) (hY : mY Y A s s.heap)
    (k75 : Int32 × Int32 × Int32 × Int32 × Int32 × Int32 × Int32 × Int32 × FS → Option (Int32 × Int32 × FS)) (hk75 : ∀ (x1 : Int32) (x2 : Int32) (x3 : Int32) (x4 : Int32) (x5 : Int32) (x6 : Int32) (x7 : Int32) (un : Int32) (u : FS) (H : Heap) (locs : List Loc) (ls : Array Slot), lv_has ls 10 [(0, .ref hLn), (1, .int x1), (2, .int x2), (3, .int x3), (4, .int x4), (5, .int x5), (6, .int x6), (7, .int x7)] → va_P D kCl (([lwW hLn (ad 0) Y.2.1 lbn un, wF cy ad hh aa pa u] : List va_W).flatten) H → va_D A (([lwW hLn (ad 0) Y.2.1 lbn un, wF cy ad hh aa pa u] : List va_W).flatten) → va_S A s.heap H locs → Ok (k75 (x1, x2, x3, x4, x5, x6, x7, un, u)) K → kW p l e rmL_comes s m args below meth c H locs (va_Qi (fun r q => K (r, q)) (fun q => kPost D A (([lwW hLn (ad 0) Y.2.1 lbn q.1, wF cy ad hh aa pa q.2] : List va_W).flatten)) A) A 75 ls [])
     (x1 : Int32) (x2 : Int32) (x3 : Int32) (x4 : Int32) (x5 : Int32) (x6 : Int32) (x7 : Int32) (un : Int32) (u : FS) (H : Heap) (locs : List Loc) (ls : Array Slot) (hl : lv_has ls 10 [(0, .ref hLn), (1, .int x1), (2, .int x2), (3, .int x3), (4, .int x4), (5, .int x5), (6, .int x6), (7, .int x7)]) (hP : va_P D kCl (([lwW hLn (ad 0) Y.2.1 lbn un, wF cy ad hh aa pa u] : List va_W).flatten) H) (hD : va_D A (([lwW hLn (ad 0) Y.2.1 lbn un, wF cy ad hh aa pa u] : List va_W).flatten)) (hS : va_S A s.heap H locs) (h1 : Ok (fL_comes_b120 k75 x1 x2 x3 x4 x5 x6 x7 Y un u) K) :
    kW p l e rmL_comes s m args below meth c H locs (va_Qi (fun r q => K (r, q)) (fun q => kPost D A (([lwW hLn (ad 0) Y.2.1 lbn q.1, wF cy ad hh aa pa q.2] : List va_W).flatten)) A) A 120 ls [] := by
  obtain ⟨hx, hb, hr, hml, hown, hts, hlocks, hK, hA⟩ := id E
  unfold fL_comes_b120 at h1
  refine lv_aload_n hx hb dL_comes_120 rfl (lv_at hl 0 rfl) ?_
  refine k_get (v := .ref (ad 0)) (C := RL) (T := TL) (N := 4) hx hb hts inL_comes_L hown hK hP 0 rfl rfl 0 (by decide) lkL_comes_10 rfl dL_comes_121 ?_
  refine lv_iconst (v := 1) hx hb dL_comes_124 rfl ?_
  refine kh_iS (As := [.ref (ad 0), .int 1]) (rest := []) h1 ⟨hx, hb, hml, hown, hts⟩ (cL_tickM l D cy ad hh aa pa H.size u 1) (vx_cwSW 2 hts gL_comes_L_tick rfl rfl rfl heL_tick ⟨Nat.le_of_ble_eq_true rfl, Nat.le_of_ble_eq_true rfl⟩) hK (k_sel1 (l := [lwW hLn (ad 0) Y.2.1 lbn un, wF cy ad hh aa pa u]) (n := 2) 1 [0] rfl rfl (by decide)) hP hD hS hA rfl hl.1 rfl (Nat.le_of_ble_eq_true rfl) dL_comes_125 ⟨Nat.zero_le _, Nat.zero_le _⟩ (fun r125 u125 H locs h1 hP hD hS => ?_)
  replace hP := kP_perm (List.Perm.symm (k_sel1 (l := [lwW hLn (ad 0) Y.2.1 lbn un, wF cy ad hh aa pa u125]) (n := 2) 1 [0] rfl rfl (by decide))) hP
  replace hD := kD_perm (List.Perm.symm (k_sel1 (l := [lwW hLn (ad 0) Y.2.1 lbn un, wF cy ad hh aa pa u125]) (n := 2) 1 [0] rfl rfl (by decide))) hD
  refine lv_if_ge (tgt := 133) hx hb dL_comes_128 (by decide) (fun c128 => ?_) (fun c128 => ?_)
  · replace h1 := Ok.pos c128 h1
    refine lv_iinc (v := x7 + 1) (lv' := [(7, .int (x7 + 1)), (0, .ref hLn), (1, .int x1), (2, .int x2), (3, .int x3), (4, .int x4), (5, .int x5), (6, .int x6)]) hx hb dL_comes_133 hl (k := 7) rfl rfl (by decide) rfl (fun ls hl => ?_)
    refine lv_goto (tgt := 75) hx hb dL_comes_136 (by decide) ?_
    exact hk75 x1 x2 x3 x4 x5 x6 (x7 + 1) un u125 H locs ls (lv_sub hl [1, 2, 3, 4, 5, 6, 7, 0] rfl) hP hD hS h1
  · replace h1 := Ok.neg c128 h1
    refine lv_iconst (v := 0) hx hb dL_comes_131 rfl ?_
    exact kret_iz hx hb hr rfl hlocks hP hD hS h1 dL_comes_132
def fL_comes_b75 (k75 : Int32 × Int32 × Int32 × Int32 × Int32 × Int32 × Int32 × Int32 × FS → Option (Int32 × Int32 × FS)) (x1 : Int32) (x2 : Int32) (x3 : Int32) (x4 : Int32) (x5 : Int32) (x6 : Int32) (x7 : Int32) (Y : YB) (un : Int32) (u : FS) : Option (Int32 × Int32 × FS) :=
  (if x4 ≤ x7 then bnd (fX9_slope u) (fun r143 => bnd (fL_kind x3 0 u) (fun r152 => (if r152 < r143 then some (0, (un, u)) else bnd (fX9_lip u) (fun r162 => bnd (fL_kind x3 1 u) (fun r171 => (if r171 < r162 then some (0, (un, u)) else bnd2 (fL_restore 0 u) (fun r182 u182 => (if r182 = 0 then fL_comes_b190 x1 x2 x5 x6 Y un u182 else some (0, (un, u182)))))))))) else bnd (fX9_slope u) (fun r86 => bnd (fL_kind x3 0 u) (fun r95 => (if r95 < r86 then fL_comes_b120 k75 x1 x2 x3 x4 x5 x6 x7 Y un u else bnd (fX9_lip u) (fun r105 => bnd (fL_kind x3 1 u) (fun r114 => (if r105 ≤ r114 then some (0, (un, u)) else fL_comes_b120 k75 x1 x2 x3 x4 x5 x6 x7 Y un u)))))))
set_option maxHeartbeats 4000000 in
set_option maxRecDepth 100000 in
theorem tL_comes_b75 {p : Program} {l : Launch} {e : Env} {s : State} {m : MethodId} {args : Array Value} {below : List Frame} {meth : Method} {c : Code} {D : va_G} {cy : Nat → ClassId} {A : Nat → Prop} {hLn : Nat} {lbn : Nat} {ad : Nat → Nat} {hh : Nat → Nat} {aa : Nat → Nat → Nat} {pa : Nat → Nat} {za zv : Nat → Nat} {Y : YB} (K : Int32 × Int32 × FS → Prop) (E : mE D cy RL cL_comes 10 (some .boolean) wsL_comes A p s m args meth c) (hZ : mZ za zv A s s.heap) (hY : mY Y A s s.heap)
    (k75 : Int32 × Int32 × Int32 × Int32 × Int32 × Int32 × Int32 × Int32 × FS → Option (Int32 × Int32 × FS)) (hk75 : ∀ (x1 : Int32) (x2 : Int32) (x3 : Int32) (x4 : Int32) (x5 : Int32) (x6 : Int32) (x7 : Int32) (un : Int32) (u : FS) (H : Heap) (locs : List Loc) (ls : Array Slot), lv_has ls 10 [(0, .ref hLn), (1, .int x1), (2, .int x2), (3, .int x3), (4, .int x4), (5, .int x5), (6, .int x6), (7, .int x7)] → va_P D kCl (([lwW hLn (ad 0) Y.2.1 lbn un, wF cy ad hh aa pa u] : List va_W).flatten) H → va_D A (([lwW hLn (ad 0) Y.2.1 lbn un, wF cy ad hh aa pa u] : List va_W).flatten) → va_S A s.heap H locs → Ok (k75 (x1, x2, x3, x4, x5, x6, x7, un, u)) K → kW p l e rmL_comes s m args below meth c H locs (va_Qi (fun r q => K (r, q)) (fun q => kPost D A (([lwW hLn (ad 0) Y.2.1 lbn q.1, wF cy ad hh aa pa q.2] : List va_W).flatten)) A) A 75 ls [])
     (x1 : Int32) (x2 : Int32) (x3 : Int32) (x4 : Int32) (x5 : Int32) (x6 : Int32) (x7 : Int32) (un : Int32) (u : FS) (H : Heap) (locs : List Loc) (ls : Array Slot) (hl : lv_has ls 10 [(0, .ref hLn), (1, .int x1), (2, .int x2), (3, .int x3), (4, .int x4), (5, .int x5), (6, .int x6), (7, .int x7)]) (hP : va_P D kCl (([lwW hLn (ad 0) Y.2.1 lbn un, wF cy ad hh aa pa u] : List va_W).flatten) H) (hD : va_D A (([lwW hLn (ad 0) Y.2.1 lbn un, wF cy ad hh aa pa u] : List va_W).flatten)) (hS : va_S A s.heap H locs) (h1 : Ok (fL_comes_b75 k75 x1 x2 x3 x4 x5 x6 x7 Y un u) K) :
    kW p l e rmL_comes s m args below meth c H locs (va_Qi (fun r q => K (r, q)) (fun q => kPost D A (([lwW hLn (ad 0) Y.2.1 lbn q.1, wF cy ad hh aa pa q.2] : List va_W).flatten)) A) A 75 ls [] := by
  obtain ⟨hx, hb, hr, hml, hown, hts, hlocks, hK, hA⟩ := id E
  unfold fL_comes_b75 at h1
  refine lv_iload hx hb dL_comes_75 (lv_at hl 7 rfl) ?_
  refine lv_iload hx hb dL_comes_77 (lv_at hl 4 rfl) ?_
  refine lv_icmp_ge (tgt := 139) hx hb dL_comes_79 (by decide) (fun c79 => ?_) (fun c79 => ?_)
  · replace h1 := Ok.pos c79 h1
    refine lv_aload_n hx hb dL_comes_139 rfl (lv_at hl 0 rfl) ?_
    refine k_get (v := .ref (ad 0)) (C := RL) (T := TL) (N := 4) hx hb hts inL_comes_L hown hK hP 0 rfl rfl 0 (by decide) lkL_comes_10 rfl dL_comes_140 ?_
    refine kc_rV (b := (ad 0)) (As := []) (rest := []) h1 ⟨hx, hb, hml, hown, hts⟩ (cX9_slopeM l D cy ad hh aa pa H.size u) (cwV 0 hts gL_comes_X9_slope rfl rfl rfl hdX9_slope ⟨Nat.le_of_ble_eq_true rfl, Nat.le_of_ble_eq_true rfl⟩) hK (k_sel1 (l := [lwW hLn (ad 0) Y.2.1 lbn un, wF cy ad hh aa pa u]) (n := 2) 1 [0] rfl rfl (by decide)) hP hD hS hA (q0 := 0) rfl rfl rfl hl.1 rfl (Nat.le_of_ble_eq_true rfl) dL_comes_143 ⟨Nat.zero_le _, Nat.zero_le _⟩ (fun r143 H locs h1 hP hS => ?_)
    refine lv_aload_n hx hb dL_comes_146 rfl (lv_at hl 0 rfl) ?_
    refine k_get (v := .ref (ad 0)) (C := RL) (T := TL) (N := 4) hx hb hts inL_comes_L hown hK hP 0 rfl rfl 0 (by decide) lkL_comes_10 rfl dL_comes_147 ?_
    refine lv_iload_n hx hb dL_comes_150 rfl (lv_at hl 3 rfl) ?_
    refine lv_iconst (v := 0) hx hb dL_comes_151 rfl ?_
    refine kh_rS (As := [.ref (ad 0), .int x3, .int 0]) (rest := [.int r143]) h1 ⟨hx, hb, hml, hown, hts⟩ (cL_kindM l D cy ad hh aa pa H.size u x3 0) (vx_cwSW 3 hts gL_comes_L_kind rfl rfl rfl heL_kind ⟨Nat.le_of_ble_eq_true rfl, Nat.le_of_ble_eq_true rfl⟩) hK (k_sel1 (l := [lwW hLn (ad 0) Y.2.1 lbn un, wF cy ad hh aa pa u]) (n := 2) 1 [0] rfl rfl (by decide)) hP hD hS hA rfl hl.1 rfl (Nat.le_of_ble_eq_true rfl) dL_comes_152 ⟨Nat.zero_le _, Nat.zero_le _⟩ (fun r152 H locs h1 hP hS => ?_)
    refine lv_icmp_gt (tgt := 188) hx hb dL_comes_155 (by decide) (fun c155 => ?_) (fun c155 => ?_)
    · replace h1 := Ok.pos c155 h1
      refine lv_iconst (v := 0) hx hb dL_comes_188 rfl ?_
      exact kret_iz hx hb hr rfl hlocks hP hD hS h1 dL_comes_189
    · replace h1 := Ok.neg c155 h1
      refine lv_aload_n hx hb dL_comes_158 rfl (lv_at hl 0 rfl) ?_
      refine k_get (v := .ref (ad 0)) (C := RL) (T := TL) (N := 4) hx hb hts inL_comes_L hown hK hP 0 rfl rfl 0 (by decide) lkL_comes_10 rfl dL_comes_159 ?_
      refine kc_rV (b := (ad 0)) (As := []) (rest := []) h1 ⟨hx, hb, hml, hown, hts⟩ (cX9_lipM l D cy ad hh aa pa H.size u) (cwV 0 hts gL_comes_X9_lip rfl rfl rfl hdX9_lip ⟨Nat.le_of_ble_eq_true rfl, Nat.le_of_ble_eq_true rfl⟩) hK (k_sel1 (l := [lwW hLn (ad 0) Y.2.1 lbn un, wF cy ad hh aa pa u]) (n := 2) 1 [0] rfl rfl (by decide)) hP hD hS hA (q0 := 0) rfl rfl rfl hl.1 rfl (Nat.le_of_ble_eq_true rfl) dL_comes_162 ⟨Nat.zero_le _, Nat.zero_le _⟩ (fun r162 H locs h1 hP hS => ?_)
      refine lv_aload_n hx hb dL_comes_165 rfl (lv_at hl 0 rfl) ?_
      refine k_get (v := .ref (ad 0)) (C := RL) (T := TL) (N := 4) hx hb hts inL_comes_L hown hK hP 0 rfl rfl 0 (by decide) lkL_comes_10 rfl dL_comes_166 ?_
      refine lv_iload_n hx hb dL_comes_169 rfl (lv_at hl 3 rfl) ?_
      refine lv_iconst (v := 1) hx hb dL_comes_170 rfl ?_
      refine kh_rS (As := [.ref (ad 0), .int x3, .int 1]) (rest := [.int r162]) h1 ⟨hx, hb, hml, hown, hts⟩ (cL_kindM l D cy ad hh aa pa H.size u x3 1) (vx_cwSW 3 hts gL_comes_L_kind rfl rfl rfl heL_kind ⟨Nat.le_of_ble_eq_true rfl, Nat.le_of_ble_eq_true rfl⟩) hK (k_sel1 (l := [lwW hLn (ad 0) Y.2.1 lbn un, wF cy ad hh aa pa u]) (n := 2) 1 [0] rfl rfl (by decide)) hP hD hS hA rfl hl.1 rfl (Nat.le_of_ble_eq_true rfl) dL_comes_171 ⟨Nat.zero_le _, Nat.zero_le _⟩ (fun r171 H locs h1 hP hS => ?_)
      refine lv_icmp_gt (tgt := 188) hx hb dL_comes_174 (by decide) (fun c174 => ?_) (fun c174 => ?_)
      · replace h1 := Ok.pos c174 h1
        refine lv_iconst (v := 0) hx hb dL_comes_188 rfl ?_
        exact kret_iz hx hb hr rfl hlocks hP hD hS h1 dL_comes_189
      · replace h1 := Ok.neg c174 h1
        refine lv_aload_n hx hb dL_comes_177 rfl (lv_at hl 0 rfl) ?_
        refine k_get (v := .ref (ad 0)) (C := RL) (T := TL) (N := 4) hx hb hts inL_comes_L hown hK hP 0 rfl rfl 0 (by decide) lkL_comes_10 rfl dL_comes_178 ?_
        refine lv_iconst (v := 0) hx hb dL_comes_181 rfl ?_
        refine kh_iS (As := [.ref (ad 0), .int 0]) (rest := []) h1 ⟨hx, hb, hml, hown, hts⟩ (cL_restoreM l D cy ad hh aa pa H.size u 0) (vx_cwSW 2 hts gL_comes_L_restore rfl rfl rfl heL_restore ⟨Nat.le_of_ble_eq_true rfl, Nat.le_of_ble_eq_true rfl⟩) hK (k_sel1 (l := [lwW hLn (ad 0) Y.2.1 lbn un, wF cy ad hh aa pa u]) (n := 2) 1 [0] rfl rfl (by decide)) hP hD hS hA rfl hl.1 rfl (Nat.le_of_ble_eq_true rfl) dL_comes_182 ⟨Nat.zero_le _, Nat.zero_le _⟩ (fun r182 u182 H locs h1 hP hD hS => ?_)
        replace hP := kP_perm (List.Perm.symm (k_sel1 (l := [lwW hLn (ad 0) Y.2.1 lbn un, wF cy ad hh aa pa u182]) (n := 2) 1 [0] rfl rfl (by decide))) hP
        replace hD := kD_perm (List.Perm.symm (k_sel1 (l := [lwW hLn (ad 0) Y.2.1 lbn un, wF cy ad hh aa pa u182]) (n := 2) 1 [0] rfl rfl (by decide))) hD
        refine lv_if_eq (tgt := 190) hx hb dL_comes_185 (by decide) (fun c185 => ?_) (fun c185 => ?_)
        · replace h1 := Ok.pos c185 h1
          exact tL_comes_b190 K E hZ hY x1 x2 x5 x6 un u182 H locs ls (lv_sub hl [0, 1, 2, 5, 6] rfl) hP hD hS h1
        · replace h1 := Ok.neg c185 h1
          refine lv_iconst (v := 0) hx hb dL_comes_188 rfl ?_
          exact kret_iz hx hb hr rfl hlocks hP hD hS h1 dL_comes_189
  · replace h1 := Ok.neg c79 h1
    refine lv_aload_n hx hb dL_comes_82 rfl (lv_at hl 0 rfl) ?_
    refine k_get (v := .ref (ad 0)) (C := RL) (T := TL) (N := 4) hx hb hts inL_comes_L hown hK hP 0 rfl rfl 0 (by decide) lkL_comes_10 rfl dL_comes_83 ?_
    refine kc_rV (b := (ad 0)) (As := []) (rest := []) h1 ⟨hx, hb, hml, hown, hts⟩ (cX9_slopeM l D cy ad hh aa pa H.size u) (cwV 0 hts gL_comes_X9_slope rfl rfl rfl hdX9_slope ⟨Nat.le_of_ble_eq_true rfl, Nat.le_of_ble_eq_true rfl⟩) hK (k_sel1 (l := [lwW hLn (ad 0) Y.2.1 lbn un, wF cy ad hh aa pa u]) (n := 2) 1 [0] rfl rfl (by decide)) hP hD hS hA (q0 := 0) rfl rfl rfl hl.1 rfl (Nat.le_of_ble_eq_true rfl) dL_comes_86 ⟨Nat.zero_le _, Nat.zero_le _⟩ (fun r86 H locs h1 hP hS => ?_)
    refine lv_aload_n hx hb dL_comes_89 rfl (lv_at hl 0 rfl) ?_
    refine k_get (v := .ref (ad 0)) (C := RL) (T := TL) (N := 4) hx hb hts inL_comes_L hown hK hP 0 rfl rfl 0 (by decide) lkL_comes_10 rfl dL_comes_90 ?_
    refine lv_iload_n hx hb dL_comes_93 rfl (lv_at hl 3 rfl) ?_
    refine lv_iconst (v := 0) hx hb dL_comes_94 rfl ?_
    refine kh_rS (As := [.ref (ad 0), .int x3, .int 0]) (rest := [.int r86]) h1 ⟨hx, hb, hml, hown, hts⟩ (cL_kindM l D cy ad hh aa pa H.size u x3 0) (vx_cwSW 3 hts gL_comes_L_kind rfl rfl rfl heL_kind ⟨Nat.le_of_ble_eq_true rfl, Nat.le_of_ble_eq_true rfl⟩) hK (k_sel1 (l := [lwW hLn (ad 0) Y.2.1 lbn un, wF cy ad hh aa pa u]) (n := 2) 1 [0] rfl rfl (by decide)) hP hD hS hA rfl hl.1 rfl (Nat.le_of_ble_eq_true rfl) dL_comes_95 ⟨Nat.zero_le _, Nat.zero_le _⟩ (fun r95 H locs h1 hP hS => ?_)
    refine lv_icmp_gt (tgt := 120) hx hb dL_comes_98 (by decide) (fun c98 => ?_) (fun c98 => ?_)
    · replace h1 := Ok.pos c98 h1
      exact tL_comes_b120 K E hZ hY k75 hk75 x1 x2 x3 x4 x5 x6 x7 un u H locs ls (lv_sub hl [0, 1, 2, 3, 4, 5, 6, 7] rfl) hP hD hS h1
    · replace h1 := Ok.neg c98 h1
      refine lv_aload_n hx hb dL_comes_101 rfl (lv_at hl 0 rfl) ?_
      refine k_get (v := .ref (ad 0)) (C := RL) (T := TL) (N := 4) hx hb hts inL_comes_L hown hK hP 0 rfl rfl 0 (by decide) lkL_comes_10 rfl dL_comes_102 ?_
      refine kc_rV (b := (ad 0)) (As := []) (rest := []) h1 ⟨hx, hb, hml, hown, hts⟩ (cX9_lipM l D cy ad hh aa pa H.size u) (cwV 0 hts gL_comes_X9_lip rfl rfl rfl hdX9_lip ⟨Nat.le_of_ble_eq_true rfl, Nat.le_of_ble_eq_true rfl⟩) hK (k_sel1 (l := [lwW hLn (ad 0) Y.2.1 lbn un, wF cy ad hh aa pa u]) (n := 2) 1 [0] rfl rfl (by decide)) hP hD hS hA (q0 := 0) rfl rfl rfl hl.1 rfl (Nat.le_of_ble_eq_true rfl) dL_comes_105 ⟨Nat.zero_le _, Nat.zero_le _⟩ (fun r105 H locs h1 hP hS => ?_)
      refine lv_aload_n hx hb dL_comes_108 rfl (lv_at hl 0 rfl) ?_
      refine k_get (v := .ref (ad 0)) (C := RL) (T := TL) (N := 4) hx hb hts inL_comes_L hown hK hP 0 rfl rfl 0 (by decide) lkL_comes_10 rfl dL_comes_109 ?_
      refine lv_iload_n hx hb dL_comes_112 rfl (lv_at hl 3 rfl) ?_
      refine lv_iconst (v := 1) hx hb dL_comes_113 rfl ?_
      refine kh_rS (As := [.ref (ad 0), .int x3, .int 1]) (rest := [.int r105]) h1 ⟨hx, hb, hml, hown, hts⟩ (cL_kindM l D cy ad hh aa pa H.size u x3 1) (vx_cwSW 3 hts gL_comes_L_kind rfl rfl rfl heL_kind ⟨Nat.le_of_ble_eq_true rfl, Nat.le_of_ble_eq_true rfl⟩) hK (k_sel1 (l := [lwW hLn (ad 0) Y.2.1 lbn un, wF cy ad hh aa pa u]) (n := 2) 1 [0] rfl rfl (by decide)) hP hD hS hA rfl hl.1 rfl (Nat.le_of_ble_eq_true rfl) dL_comes_114 ⟨Nat.zero_le _, Nat.zero_le _⟩ (fun r114 H locs h1 hP hS => ?_)
      refine lv_icmp_le (tgt := 131) hx hb dL_comes_117 (by decide) (fun c117 => ?_) (fun c117 => ?_)
      · replace h1 := Ok.pos c117 h1
        refine lv_iconst (v := 0) hx hb dL_comes_131 rfl ?_
        exact kret_iz hx hb hr rfl hlocks hP hD hS h1 dL_comes_132
      · replace h1 := Ok.neg c117 h1
        exact tL_comes_b120 K E hZ hY k75 hk75 x1 x2 x3 x4 x5 x6 x7 un u H locs ls (lv_sub hl [0, 1, 2, 3, 4, 5, 6, 7] rfl) hP hD hS h1
theorem tL_comes_l75 {p : Program} {l : Launch} {e : Env} {s : State} {m : MethodId} {args : Array Value} {below : List Frame} {meth : Method} {c : Code} {D : va_G} {cy : Nat → ClassId} {A : Nat → Prop} {hLn : Nat} {lbn : Nat} {ad : Nat → Nat} {hh : Nat → Nat} {aa : Nat → Nat → Nat} {pa : Nat → Nat} {za zv : Nat → Nat} {Y : YB} (K : Int32 × Int32 × FS → Prop) (E : mE D cy RL cL_comes 10 (some .boolean) wsL_comes A p s m args meth c) (hZ : mZ za zv A s s.heap) (hY : mY Y A s s.heap) : ∀ (n9 : Nat) (x1 : Int32) (x2 : Int32) (x3 : Int32) (x4 : Int32) (x5 : Int32) (x6 : Int32) (x7 : Int32) (un : Int32) (u : FS) (H : Heap) (locs : List Loc) (ls : Array Slot), lv_has ls 10 [(0, .ref hLn), (1, .int x1), (2, .int x2), (3, .int x3), (4, .int x4), (5, .int x5), (6, .int x6), (7, .int x7)] → va_P D kCl (([lwW hLn (ad 0) Y.2.1 lbn un, wF cy ad hh aa pa u] : List va_W).flatten) H → va_D A (([lwW hLn (ad 0) Y.2.1 lbn un, wF cy ad hh aa pa u] : List va_W).flatten) → va_S A s.heap H locs → Ok (lop (fun y z => fL_comes_b75 y z.1 z.2.1 z.2.2.1 z.2.2.2.1 z.2.2.2.2.1 z.2.2.2.2.2.1 z.2.2.2.2.2.2.1 Y z.2.2.2.2.2.2.2.1 z.2.2.2.2.2.2.2.2) n9 (x1, x2, x3, x4, x5, x6, x7, un, u)) K → kW p l e rmL_comes s m args below meth c H locs (va_Qi (fun r q => K (r, q)) (fun q => kPost D A (([lwW hLn (ad 0) Y.2.1 lbn q.1, wF cy ad hh aa pa q.2] : List va_W).flatten)) A) A 75 ls [] := by
  intro n9
  induction n9 with
  | zero =>
    intro x1 x2 x3 x4 x5 x6 x7 un u H locs ls hl hP hD hS h1
    exact h1.no
  | succ n9 ih =>
    intro x1 x2 x3 x4 x5 x6 x7 un u H locs ls hl hP hD hS h1
    exact tL_comes_b75 K E hZ hY (lop (fun y z => fL_comes_b75 y z.1 z.2.1 z.2.2.1 z.2.2.2.1 z.2.2.2.2.1 z.2.2.2.2.2.1 z.2.2.2.2.2.2.1 Y z.2.2.2.2.2.2.2.1 z.2.2.2.2.2.2.2.2) n9) (fun x1 x2 x3 x4 x5 x6 x7 un u H locs ls hl hP hD hS h1 => ih x1 x2 x3 x4 x5 x6 x7 un u H locs ls hl hP hD hS h1) x1 x2 x3 x4 x5 x6 x7 un u H locs ls hl hP hD hS h1
def fL_comes_b0 (Y : YB) (un : Int32) (u : FS) : Option (Int32 × Int32 × FS) :=
  bnd2 (fL_draw 30 Y un u) (fun r4 u4 => bnd2 (fL_boardIn (1 + r4) u) (fun r14 u14 => bnd2 (fL_draw 4 Y u4 u14) (fun r20 u20 => bnd2 (fL_easyIn r20 u14) (fun r29 u29 => bnd2 (fX9_startIn u29) (fun r38 u38 => bnd (fL_count 8 u38) (fun r49 => bnd2 (fL_save 0 u38) (fun r59 u59 => (if r59 = 0 then (if r29 < 0 then fL_comes_b190 (1 + r4) r14 r38 r49 Y u20 u59 else lop (fun y z => fL_comes_b75 y z.1 z.2.1 z.2.2.1 z.2.2.2.1 z.2.2.2.2.1 z.2.2.2.2.2.1 z.2.2.2.2.2.2.1 Y z.2.2.2.2.2.2.2.1 z.2.2.2.2.2.2.2.2) LF (1 + r4, r14, r20, r29, r38, r49, 0, u20, u59)) else some (0, (u20, u59))))))))))
set_option maxHeartbeats 4000000 in
set_option maxRecDepth 100000 in
theorem tL_comes_b0 {p : Program} {l : Launch} {e : Env} {s : State} {m : MethodId} {args : Array Value} {below : List Frame} {meth : Method} {c : Code} {D : va_G} {cy : Nat → ClassId} {A : Nat → Prop} {hLn : Nat} {lbn : Nat} {ad : Nat → Nat} {hh : Nat → Nat} {aa : Nat → Nat → Nat} {pa : Nat → Nat} {za zv : Nat → Nat} {Y : YB} (K : Int32 × Int32 × FS → Prop) (E : mE D cy RL cL_comes 10 (some .boolean) wsL_comes A p s m args meth c) (hZ : mZ za zv A s s.heap) (hY : mY Y A s s.heap)
     (un : Int32) (u : FS) (H : Heap) (locs : List Loc) (ls : Array Slot) (hl : lv_has ls 10 [(0, .ref hLn)]) (hP : va_P D kCl (([lwW hLn (ad 0) Y.2.1 lbn un, wF cy ad hh aa pa u] : List va_W).flatten) H) (hD : va_D A (([lwW hLn (ad 0) Y.2.1 lbn un, wF cy ad hh aa pa u] : List va_W).flatten)) (hS : va_S A s.heap H locs) (h1 : Ok (fL_comes_b0 Y un u) K) :
    kW p l e rmL_comes s m args below meth c H locs (va_Qi (fun r q => K (r, q)) (fun q => kPost D A (([lwW hLn (ad 0) Y.2.1 lbn q.1, wF cy ad hh aa pa q.2] : List va_W).flatten)) A) A 0 ls [] := by
  obtain ⟨hx, hb, hr, hml, hown, hts, hlocks, hK, hA⟩ := id E
  unfold fL_comes_b0 at h1
  refine lv_iconst (v := 1) hx hb dL_comes_0 rfl ?_
  refine lv_aload_n hx hb dL_comes_1 rfl (lv_at hl 0 rfl) ?_
  refine lv_bipush (v := 30) hx hb dL_comes_2 rfl ?_
  refine ky_iV0 (b := hLn) (As := [.int 30]) (rest := [.int 1]) h1 ⟨hx, hb, hml, hown, hts⟩ (cL_drawM l D cy za zv Y hLn lbn ad hh aa pa H.size un u 30) (cwV 1 hts gL_comes_L_draw rfl rfl rfl hdL_draw ⟨Nat.le_of_ble_eq_true rfl, Nat.le_of_ble_eq_true rfl⟩) hY hZ hK hP hD hS hA (q0 := 0) rfl rfl rfl hl.1 rfl (Nat.le_of_ble_eq_true rfl) dL_comes_4 ⟨Nat.zero_le _, Nat.zero_le _⟩ (fun r4 u4 H locs h1 hP hD hS => ?_)
  refine lv_iadd hx hb dL_comes_7 ?_
  refine lv_istore_n (lv' := [(1, .int (1 + r4)), (0, .ref hLn)]) hx hb dL_comes_8 rfl hl (by decide) rfl (fun ls hl => ?_)
  refine lv_aload_n hx hb dL_comes_9 rfl (lv_at hl 1 rfl) ?_
  refine k_get (v := .ref (ad 0)) (C := RL) (T := TL) (N := 4) hx hb hts inL_comes_L hown hK hP 0 rfl rfl 0 (by decide) lkL_comes_10 rfl dL_comes_10 ?_
  refine lv_iload_n hx hb dL_comes_13 rfl (lv_at hl 0 rfl) ?_
  refine kh_iS (As := [.ref (ad 0), .int (1 + r4)]) (rest := []) h1 ⟨hx, hb, hml, hown, hts⟩ (cL_boardInM l D cy ad hh aa pa H.size u (1 + r4)) (vx_cwSW 2 hts gL_comes_L_boardIn rfl rfl rfl heL_boardIn ⟨Nat.le_of_ble_eq_true rfl, Nat.le_of_ble_eq_true rfl⟩) hK (k_sel1 (l := [lwW hLn (ad 0) Y.2.1 lbn u4, wF cy ad hh aa pa u]) (n := 2) 1 [0] rfl rfl (by decide)) hP hD hS hA rfl hl.1 rfl (Nat.le_of_ble_eq_true rfl) dL_comes_14 ⟨Nat.zero_le _, Nat.zero_le _⟩ (fun r14 u14 H locs h1 hP hD hS => ?_)
  replace hP := kP_perm (List.Perm.symm (k_sel1 (l := [lwW hLn (ad 0) Y.2.1 lbn u4, wF cy ad hh aa pa u14]) (n := 2) 1 [0] rfl rfl (by decide))) hP
  replace hD := kD_perm (List.Perm.symm (k_sel1 (l := [lwW hLn (ad 0) Y.2.1 lbn u4, wF cy ad hh aa pa u14]) (n := 2) 1 [0] rfl rfl (by decide))) hD
  refine lv_istore_n (lv' := [(2, .int r14), (1, .int (1 + r4)), (0, .ref hLn)]) hx hb dL_comes_17 rfl hl (by decide) rfl (fun ls hl => ?_)
  refine lv_aload_n hx hb dL_comes_18 rfl (lv_at hl 2 rfl) ?_
  refine lv_iconst (v := 4) hx hb dL_comes_19 rfl ?_
  refine ky_iV0 (b := hLn) (As := [.int 4]) (rest := []) h1 ⟨hx, hb, hml, hown, hts⟩ (cL_drawM l D cy za zv Y hLn lbn ad hh aa pa H.size u4 u14 4) (cwV 1 hts gL_comes_L_draw rfl rfl rfl hdL_draw ⟨Nat.le_of_ble_eq_true rfl, Nat.le_of_ble_eq_true rfl⟩) hY hZ hK hP hD hS hA (q0 := 0) rfl rfl rfl hl.1 rfl (Nat.le_of_ble_eq_true rfl) dL_comes_20 ⟨Nat.zero_le _, Nat.zero_le _⟩ (fun r20 u20 H locs h1 hP hD hS => ?_)
  refine lv_istore_n (lv' := [(3, .int r20), (2, .int r14), (1, .int (1 + r4)), (0, .ref hLn)]) hx hb dL_comes_23 rfl hl (by decide) rfl (fun ls hl => ?_)
  refine lv_aload_n hx hb dL_comes_24 rfl (lv_at hl 3 rfl) ?_
  refine k_get (v := .ref (ad 0)) (C := RL) (T := TL) (N := 4) hx hb hts inL_comes_L hown hK hP 0 rfl rfl 0 (by decide) lkL_comes_10 rfl dL_comes_25 ?_
  refine lv_iload_n hx hb dL_comes_28 rfl (lv_at hl 0 rfl) ?_
  refine kh_iS (As := [.ref (ad 0), .int r20]) (rest := []) h1 ⟨hx, hb, hml, hown, hts⟩ (cL_easyInM l D cy ad hh aa pa H.size u14 r20) (vx_cwSW 2 hts gL_comes_L_easyIn rfl rfl rfl heL_easyIn ⟨Nat.le_of_ble_eq_true rfl, Nat.le_of_ble_eq_true rfl⟩) hK (k_sel1 (l := [lwW hLn (ad 0) Y.2.1 lbn u20, wF cy ad hh aa pa u14]) (n := 2) 1 [0] rfl rfl (by decide)) hP hD hS hA rfl hl.1 rfl (Nat.le_of_ble_eq_true rfl) dL_comes_29 ⟨Nat.zero_le _, Nat.zero_le _⟩ (fun r29 u29 H locs h1 hP hD hS => ?_)
  replace hP := kP_perm (List.Perm.symm (k_sel1 (l := [lwW hLn (ad 0) Y.2.1 lbn u20, wF cy ad hh aa pa u29]) (n := 2) 1 [0] rfl rfl (by decide))) hP
  replace hD := kD_perm (List.Perm.symm (k_sel1 (l := [lwW hLn (ad 0) Y.2.1 lbn u20, wF cy ad hh aa pa u29]) (n := 2) 1 [0] rfl rfl (by decide))) hD
  refine lv_istore (lv' := [(4, .int r29), (3, .int r20), (2, .int r14), (1, .int (1 + r4)), (0, .ref hLn)]) hx hb dL_comes_32 hl (by decide) rfl (fun ls hl => ?_)
  refine lv_aload_n hx hb dL_comes_34 rfl (lv_at hl 4 rfl) ?_
  refine k_get (v := .ref (ad 0)) (C := RL) (T := TL) (N := 4) hx hb hts inL_comes_L hown hK hP 0 rfl rfl 0 (by decide) lkL_comes_10 rfl dL_comes_35 ?_
  refine kc_iV (b := (ad 0)) (As := []) (rest := []) h1 ⟨hx, hb, hml, hown, hts⟩ (cX9_startInM l D cy ad hh aa pa H.size u29) (cwV 0 hts gL_comes_X9_startIn rfl rfl rfl hdX9_startIn ⟨Nat.le_of_ble_eq_true rfl, Nat.le_of_ble_eq_true rfl⟩) hK (k_sel1 (l := [lwW hLn (ad 0) Y.2.1 lbn u20, wF cy ad hh aa pa u29]) (n := 2) 1 [0] rfl rfl (by decide)) hP hD hS hA (q0 := 0) rfl rfl rfl hl.1 rfl (Nat.le_of_ble_eq_true rfl) dL_comes_38 ⟨Nat.zero_le _, Nat.zero_le _⟩ (fun r38 u38 H locs h1 hP hD hS => ?_)
  replace hP := kP_perm (List.Perm.symm (k_sel1 (l := [lwW hLn (ad 0) Y.2.1 lbn u20, wF cy ad hh aa pa u38]) (n := 2) 1 [0] rfl rfl (by decide))) hP
  replace hD := kD_perm (List.Perm.symm (k_sel1 (l := [lwW hLn (ad 0) Y.2.1 lbn u20, wF cy ad hh aa pa u38]) (n := 2) 1 [0] rfl rfl (by decide))) hD
  refine lv_istore (lv' := [(5, .int r38), (4, .int r29), (3, .int r20), (2, .int r14), (1, .int (1 + r4)), (0, .ref hLn)]) hx hb dL_comes_41 hl (by decide) rfl (fun ls hl => ?_)
  refine lv_aload_n hx hb dL_comes_43 rfl (lv_at hl 5 rfl) ?_
  refine k_get (v := .ref (ad 0)) (C := RL) (T := TL) (N := 4) hx hb hts inL_comes_L hown hK hP 0 rfl rfl 0 (by decide) lkL_comes_10 rfl dL_comes_44 ?_
  refine lv_bipush (v := 8) hx hb dL_comes_47 rfl ?_
  refine kh_rS (As := [.ref (ad 0), .int 8]) (rest := []) h1 ⟨hx, hb, hml, hown, hts⟩ (cL_countM l D cy ad hh aa pa H.size u38 8) (vx_cwSW 2 hts gL_comes_L_count rfl rfl rfl heL_count ⟨Nat.le_of_ble_eq_true rfl, Nat.le_of_ble_eq_true rfl⟩) hK (k_sel1 (l := [lwW hLn (ad 0) Y.2.1 lbn u20, wF cy ad hh aa pa u38]) (n := 2) 1 [0] rfl rfl (by decide)) hP hD hS hA rfl hl.1 rfl (Nat.le_of_ble_eq_true rfl) dL_comes_49 ⟨Nat.zero_le _, Nat.zero_le _⟩ (fun r49 H locs h1 hP hS => ?_)
  refine lv_istore (lv' := [(6, .int r49), (5, .int r38), (4, .int r29), (3, .int r20), (2, .int r14), (1, .int (1 + r4)), (0, .ref hLn)]) hx hb dL_comes_52 hl (by decide) rfl (fun ls hl => ?_)
  refine lv_aload_n hx hb dL_comes_54 rfl (lv_at hl 6 rfl) ?_
  refine k_get (v := .ref (ad 0)) (C := RL) (T := TL) (N := 4) hx hb hts inL_comes_L hown hK hP 0 rfl rfl 0 (by decide) lkL_comes_10 rfl dL_comes_55 ?_
  refine lv_iconst (v := 0) hx hb dL_comes_58 rfl ?_
  refine kh_iS (As := [.ref (ad 0), .int 0]) (rest := []) h1 ⟨hx, hb, hml, hown, hts⟩ (cL_saveM l D cy ad hh aa pa H.size u38 0) (vx_cwSW 2 hts gL_comes_L_save rfl rfl rfl heL_save ⟨Nat.le_of_ble_eq_true rfl, Nat.le_of_ble_eq_true rfl⟩) hK (k_sel1 (l := [lwW hLn (ad 0) Y.2.1 lbn u20, wF cy ad hh aa pa u38]) (n := 2) 1 [0] rfl rfl (by decide)) hP hD hS hA rfl hl.1 rfl (Nat.le_of_ble_eq_true rfl) dL_comes_59 ⟨Nat.zero_le _, Nat.zero_le _⟩ (fun r59 u59 H locs h1 hP hD hS => ?_)
  replace hP := kP_perm (List.Perm.symm (k_sel1 (l := [lwW hLn (ad 0) Y.2.1 lbn u20, wF cy ad hh aa pa u59]) (n := 2) 1 [0] rfl rfl (by decide))) hP
  replace hD := kD_perm (List.Perm.symm (k_sel1 (l := [lwW hLn (ad 0) Y.2.1 lbn u20, wF cy ad hh aa pa u59]) (n := 2) 1 [0] rfl rfl (by decide))) hD
  refine lv_if_eq (tgt := 67) hx hb dL_comes_62 (by decide) (fun c62 => ?_) (fun c62 => ?_)
  · replace h1 := Ok.pos c62 h1
    refine lv_iload hx hb dL_comes_67 (lv_at hl 2 rfl) ?_
    refine lv_if_lt (tgt := 190) hx hb dL_comes_69 (by decide) (fun c69 => ?_) (fun c69 => ?_)
    · replace h1 := Ok.pos c69 h1
      exact tL_comes_b190 K E hZ hY (1 + r4) r14 r38 r49 u20 u59 H locs ls (lv_sub hl [6, 5, 4, 1, 0] rfl) hP hD hS h1
    · replace h1 := Ok.neg c69 h1
      refine lv_iconst (v := 0) hx hb dL_comes_72 rfl ?_
      refine lv_istore (lv' := [(7, .int 0), (6, .int r49), (5, .int r38), (4, .int r29), (3, .int r20), (2, .int r14), (1, .int (1 + r4)), (0, .ref hLn)]) hx hb dL_comes_73 hl (by decide) rfl (fun ls hl => ?_)
      exact tL_comes_l75 K E hZ hY LF (1 + r4) r14 r20 r29 r38 r49 0 u20 u59 H locs ls (lv_sub hl [7, 6, 5, 4, 3, 2, 1, 0] rfl) hP hD hS h1
  · replace h1 := Ok.neg c62 h1
    refine lv_iconst (v := 0) hx hb dL_comes_65 rfl ?_
    exact kret_iz hx hb hr rfl hlocks hP hD hS h1 dL_comes_66
def fL_comes (Y : YB) (un : Int32) (u : FS) : Option (Int32 × Int32 × FS) := fL_comes_b0 Y un u
set_option maxHeartbeats 4000000 in
set_option maxRecDepth 100000 in
theorem cL_comesM (l : Launch) (D : va_G) (cy : Nat → ClassId) (za zv : Nat → Nat) (Y : YB) (hLn : Nat) (lbn : Nat) (ad : Nat → Nat) (hh : Nat → Nat) (aa : Nat → Nat → Nat) (pa : Nat → Nat) (sz : Nat) (un : Int32) (u : FS) : ∀ (K : Int32 → Int32 × FS → Prop), Ok (fL_comes Y un u) (fun q => K q.1 q.2) → Met l yL_comes wsL_comes rmL_comes (va_Pc [.ref hLn] (kPreY D cy za zv Y sz (([lwW hLn (ad 0) Y.2.1 lbn un, wF cy ad hh aa pa u] : List va_W).flatten))) (va_Qi K (fun q => kPost D (va_A (([lwW hLn (ad 0) Y.2.1 lbn un, wF cy ad hh aa pa u] : List va_W).flatten) sz) (([lwW hLn (ad 0) Y.2.1 lbn q.1, wF cy ad hh aa pa q.2] : List va_W).flatten)) (va_A (([lwW hLn (ad 0) Y.2.1 lbn un, wF cy ad hh aa pa u] : List va_W).flatten) sz)) 0 0 (va_A (([lwW hLn (ad 0) Y.2.1 lbn un, wF cy ad hh aa pa u] : List va_W).flatten) sz) := by
  intro K h1
  refine Met.ofW (cc := cL_comes) (maxL := 10) (ret := (some .boolean)) (by decide) rfl ?_
  intro p e s m args below meth c s₁ B hml hv
  obtain ⟨rfl, ⟨⟨hsz, hP, hK, hD0⟩, hZ⟩, hY⟩ := hv
  subst hsz
  have E : mE D cy RL cL_comes 10 (some .boolean) wsL_comes (va_A (([lwW hLn (ad 0) Y.2.1 lbn un, wF cy ad hh aa pa u] : List va_W).flatten) s.heap.size) p s m _ meth c := ⟨B.exec, B.bytes, B.returns, hml, findClass_of_methodNamed B.named, atoms_spec (ws := wsL_comes) B.pre, B.notSynchronized, hK, fun q h => Or.inr h⟩
  have hl := lv_entry ([.ref hLn]) (n := 10) (Nat.le_of_ble_eq_true rfl)
  rw [lg_entry_eq]
  generalize (lg_sl ([.ref hLn]) ++ List.replicate (10 - (lg_sl ([.ref hLn])).length) Slot.unset).toArray = ls at hl ⊢
  exact tL_comes_b0 (fun q => K q.1 q.2) E hZ hY un u _ _ _ hl hP hD0.self va_S.rf h1
-- L_best
theorem inL_best_L : ∀ w ∈ u_ws RL TL 4, w ∈ wsL_best := k_lays 230 rfl
theorem lkL_best_10 : Cond.fieldLink RL 10 "FerryRampLaw" "x" "LFerryRamp;" ∈ wsL_best := List.mem_of_getElem? (i := 1) rfl
theorem heL_bestFirst : yL_bestFirst.cls ≠ "java/lang/invoke/MethodHandle" ∧ yL_bestFirst.cls ≠ "java/lang/invoke/VarHandle" ∧ (parseMethodDescriptor yL_bestFirst.desc).map (fun d => d.parameters.length) = some 2 := by decide +kernel
theorem heL_wave : yL_wave.cls ≠ "java/lang/invoke/MethodHandle" ∧ yL_wave.cls ≠ "java/lang/invoke/VarHandle" ∧ (parseMethodDescriptor yL_wave.desc).map (fun d => d.parameters.length) = some 2 := by decide +kernel
abbrev rmL_best : Room := { frames := 7, cells := 0, slots := 0, locals := 168 }
def fL_best_b92 (x1 : Int32) (x2 : Int32) (x3 : Int32) (x5 : Int32) (Y : YB) (un : Int32) (u : FS) : Option (Int32 × Int32 × FS) :=
  bnd (fX9_queued 0 u) (fun r97 => (if r97 = x2 then bnd2 (fL_restore 1 u) (fun r109 u109 => (if r109 = 0 then bnd2 (fL_draw x3 Y un u109) (fun r123 u123 => bnd (fX9_queued r123 u109) (fun r126 => bnd2 (fL_wave r126 u109) (fun r137 u137 => bnd2 (fL_boardIn x1 u137) (fun r147 u147 => (if x5 < r147 then some (0, (u123, u147)) else bnd2 (fL_restore 1 u147) (fun r160 u160 => (if r160 = 0 then some (1, (u123, u160)) else some (0, (u123, u160))))))))) else some (0, (un, u109)))) else some (0, (un, u))))
set_option maxHeartbeats 4000000 in
set_option maxRecDepth 100000 in
theorem tL_best_b92 {p : Program} {l : Launch} {e : Env} {s : State} {m : MethodId} {args : Array Value} {below : List Frame} {meth : Method} {c : Code} {D : va_G} {cy : Nat → ClassId} {A : Nat → Prop} {hLn : Nat} {lbn : Nat} {ad : Nat → Nat} {hh : Nat → Nat} {aa : Nat → Nat → Nat} {pa : Nat → Nat} {za zv : Nat → Nat} {Y : YB} (K : Int32 × Int32 × FS → Prop) (E : mE D cy RL cL_best 7 (some .boolean) wsL_best A p s m args meth c) (hZ : mZ za zv A s s.heap) (hY : mY Y A s s.heap)
     (x1 : Int32) (x2 : Int32) (x3 : Int32) (x5 : Int32) (un : Int32) (u : FS) (H : Heap) (locs : List Loc) (ls : Array Slot) (hl : lv_has ls 7 [(0, .ref hLn), (1, .int x1), (2, .int x2), (3, .int x3), (5, .int x5)]) (hP : va_P D kCl (([lwW hLn (ad 0) Y.2.1 lbn un, wF cy ad hh aa pa u] : List va_W).flatten) H) (hD : va_D A (([lwW hLn (ad 0) Y.2.1 lbn un, wF cy ad hh aa pa u] : List va_W).flatten)) (hS : va_S A s.heap H locs) (h1 : Ok (fL_best_b92 x1 x2 x3 x5 Y un u) K) :
    kW p l e rmL_best s m args below meth c H locs (va_Qi (fun r q => K (r, q)) (fun q => kPost D A (([lwW hLn (ad 0) Y.2.1 lbn q.1, wF cy ad hh aa pa q.2] : List va_W).flatten)) A) A 92 ls [] := by
  obtain ⟨hx, hb, hr, hml, hown, hts, hlocks, hK, hA⟩ := id E
  unfold fL_best_b92 at h1
  refine lv_aload_n hx hb dL_best_92 rfl (lv_at hl 0 rfl) ?_
  refine k_get (v := .ref (ad 0)) (C := RL) (T := TL) (N := 4) hx hb hts inL_best_L hown hK hP 0 rfl rfl 0 (by decide) lkL_best_10 rfl dL_best_93 ?_
  refine lv_iconst (v := 0) hx hb dL_best_96 rfl ?_
  refine kc_rV (b := (ad 0)) (As := [.int 0]) (rest := []) h1 ⟨hx, hb, hml, hown, hts⟩ (cX9_queuedM l D cy ad hh aa pa H.size u 0) (cwV 1 hts gL_best_X9_queued rfl rfl rfl hdX9_queued ⟨Nat.le_of_ble_eq_true rfl, Nat.le_of_ble_eq_true rfl⟩) hK (k_sel1 (l := [lwW hLn (ad 0) Y.2.1 lbn un, wF cy ad hh aa pa u]) (n := 2) 1 [0] rfl rfl (by decide)) hP hD hS hA (q0 := 0) rfl rfl rfl hl.1 rfl (Nat.le_of_ble_eq_true rfl) dL_best_97 ⟨Nat.zero_le _, Nat.zero_le _⟩ (fun r97 H locs h1 hP hS => ?_)
  refine lv_iload_n hx hb dL_best_100 rfl (lv_at hl 2 rfl) ?_
  refine lv_icmp_ne (tgt := 115) hx hb dL_best_101 (by decide) (fun c101 => ?_) (fun c101 => ?_)
  · replace h1 := Ok.neg c101 h1
    refine lv_iconst (v := 0) hx hb dL_best_115 rfl ?_
    exact kret_iz hx hb hr rfl hlocks hP hD hS h1 dL_best_116
  · replace h1 := Ok.pos c101 h1
    refine lv_aload_n hx hb dL_best_104 rfl (lv_at hl 0 rfl) ?_
    refine k_get (v := .ref (ad 0)) (C := RL) (T := TL) (N := 4) hx hb hts inL_best_L hown hK hP 0 rfl rfl 0 (by decide) lkL_best_10 rfl dL_best_105 ?_
    refine lv_iconst (v := 1) hx hb dL_best_108 rfl ?_
    refine kh_iS (As := [.ref (ad 0), .int 1]) (rest := []) h1 ⟨hx, hb, hml, hown, hts⟩ (cL_restoreM l D cy ad hh aa pa H.size u 1) (vx_cwSW 2 hts gL_best_L_restore rfl rfl rfl heL_restore ⟨Nat.le_of_ble_eq_true rfl, Nat.le_of_ble_eq_true rfl⟩) hK (k_sel1 (l := [lwW hLn (ad 0) Y.2.1 lbn un, wF cy ad hh aa pa u]) (n := 2) 1 [0] rfl rfl (by decide)) hP hD hS hA rfl hl.1 rfl (Nat.le_of_ble_eq_true rfl) dL_best_109 ⟨Nat.zero_le _, Nat.zero_le _⟩ (fun r109 u109 H locs h1 hP hD hS => ?_)
    replace hP := kP_perm (List.Perm.symm (k_sel1 (l := [lwW hLn (ad 0) Y.2.1 lbn un, wF cy ad hh aa pa u109]) (n := 2) 1 [0] rfl rfl (by decide))) hP
    replace hD := kD_perm (List.Perm.symm (k_sel1 (l := [lwW hLn (ad 0) Y.2.1 lbn un, wF cy ad hh aa pa u109]) (n := 2) 1 [0] rfl rfl (by decide))) hD
    refine lv_if_eq (tgt := 117) hx hb dL_best_112 (by decide) (fun c112 => ?_) (fun c112 => ?_)
    · replace h1 := Ok.pos c112 h1
      refine lv_aload_n hx hb dL_best_117 rfl (lv_at hl 0 rfl) ?_
      refine k_get (v := .ref (ad 0)) (C := RL) (T := TL) (N := 4) hx hb hts inL_best_L hown hK hP 0 rfl rfl 0 (by decide) lkL_best_10 rfl dL_best_118 ?_
      refine lv_aload_n hx hb dL_best_121 rfl (lv_at hl 0 rfl) ?_
      refine lv_iload_n hx hb dL_best_122 rfl (lv_at hl 3 rfl) ?_
      refine ky_iV0 (b := hLn) (As := [.int x3]) (rest := [.ref (ad 0)]) h1 ⟨hx, hb, hml, hown, hts⟩ (cL_drawM l D cy za zv Y hLn lbn ad hh aa pa H.size un u109 x3) (cwV 1 hts gL_best_L_draw rfl rfl rfl hdL_draw ⟨Nat.le_of_ble_eq_true rfl, Nat.le_of_ble_eq_true rfl⟩) hY hZ hK hP hD hS hA (q0 := 0) rfl rfl rfl hl.1 rfl (Nat.le_of_ble_eq_true rfl) dL_best_123 ⟨Nat.zero_le _, Nat.zero_le _⟩ (fun r123 u123 H locs h1 hP hD hS => ?_)
      refine kc_rV (b := (ad 0)) (As := [.int r123]) (rest := []) h1 ⟨hx, hb, hml, hown, hts⟩ (cX9_queuedM l D cy ad hh aa pa H.size u109 r123) (cwV 1 hts gL_best_X9_queued rfl rfl rfl hdX9_queued ⟨Nat.le_of_ble_eq_true rfl, Nat.le_of_ble_eq_true rfl⟩) hK (k_sel1 (l := [lwW hLn (ad 0) Y.2.1 lbn u123, wF cy ad hh aa pa u109]) (n := 2) 1 [0] rfl rfl (by decide)) hP hD hS hA (q0 := 0) rfl rfl rfl hl.1 rfl (Nat.le_of_ble_eq_true rfl) dL_best_126 ⟨Nat.zero_le _, Nat.zero_le _⟩ (fun r126 H locs h1 hP hS => ?_)
      refine lv_istore (lv' := [(6, .int r126), (0, .ref hLn), (1, .int x1), (2, .int x2), (3, .int x3), (5, .int x5)]) hx hb dL_best_129 hl (by decide) rfl (fun ls hl => ?_)
      refine lv_aload_n hx hb dL_best_131 rfl (lv_at hl 1 rfl) ?_
      refine k_get (v := .ref (ad 0)) (C := RL) (T := TL) (N := 4) hx hb hts inL_best_L hown hK hP 0 rfl rfl 0 (by decide) lkL_best_10 rfl dL_best_132 ?_
      refine lv_iload hx hb dL_best_135 (lv_at hl 0 rfl) ?_
      refine kh_iS (As := [.ref (ad 0), .int r126]) (rest := []) h1 ⟨hx, hb, hml, hown, hts⟩ (cL_waveM l D cy ad hh aa pa H.size u109 r126) (vx_cwSW 2 hts gL_best_L_wave rfl rfl rfl heL_wave ⟨Nat.le_of_ble_eq_true rfl, Nat.le_of_ble_eq_true rfl⟩) hK (k_sel1 (l := [lwW hLn (ad 0) Y.2.1 lbn u123, wF cy ad hh aa pa u109]) (n := 2) 1 [0] rfl rfl (by decide)) hP hD hS hA rfl hl.1 rfl (Nat.le_of_ble_eq_true rfl) dL_best_137 ⟨Nat.zero_le _, Nat.zero_le _⟩ (fun r137 u137 H locs h1 hP hD hS => ?_)
      replace hP := kP_perm (List.Perm.symm (k_sel1 (l := [lwW hLn (ad 0) Y.2.1 lbn u123, wF cy ad hh aa pa u137]) (n := 2) 1 [0] rfl rfl (by decide))) hP
      replace hD := kD_perm (List.Perm.symm (k_sel1 (l := [lwW hLn (ad 0) Y.2.1 lbn u123, wF cy ad hh aa pa u137]) (n := 2) 1 [0] rfl rfl (by decide))) hD
      refine lv_istore (lv' := [(4, .int r137), (6, .int r126), (0, .ref hLn), (1, .int x1), (2, .int x2), (3, .int x3), (5, .int x5)]) hx hb dL_best_140 hl (by decide) rfl (fun ls hl => ?_)
      refine lv_aload_n hx hb dL_best_142 rfl (lv_at hl 2 rfl) ?_
      refine k_get (v := .ref (ad 0)) (C := RL) (T := TL) (N := 4) hx hb hts inL_best_L hown hK hP 0 rfl rfl 0 (by decide) lkL_best_10 rfl dL_best_143 ?_
      refine lv_iload_n hx hb dL_best_146 rfl (lv_at hl 3 rfl) ?_
      refine kh_iS (As := [.ref (ad 0), .int x1]) (rest := []) h1 ⟨hx, hb, hml, hown, hts⟩ (cL_boardInM l D cy ad hh aa pa H.size u137 x1) (vx_cwSW 2 hts gL_best_L_boardIn rfl rfl rfl heL_boardIn ⟨Nat.le_of_ble_eq_true rfl, Nat.le_of_ble_eq_true rfl⟩) hK (k_sel1 (l := [lwW hLn (ad 0) Y.2.1 lbn u123, wF cy ad hh aa pa u137]) (n := 2) 1 [0] rfl rfl (by decide)) hP hD hS hA rfl hl.1 rfl (Nat.le_of_ble_eq_true rfl) dL_best_147 ⟨Nat.zero_le _, Nat.zero_le _⟩ (fun r147 u147 H locs h1 hP hD hS => ?_)
      replace hP := kP_perm (List.Perm.symm (k_sel1 (l := [lwW hLn (ad 0) Y.2.1 lbn u123, wF cy ad hh aa pa u147]) (n := 2) 1 [0] rfl rfl (by decide))) hP
      replace hD := kD_perm (List.Perm.symm (k_sel1 (l := [lwW hLn (ad 0) Y.2.1 lbn u123, wF cy ad hh aa pa u147]) (n := 2) 1 [0] rfl rfl (by decide))) hD
      refine lv_iload hx hb dL_best_150 (lv_at hl 6 rfl) ?_
      refine lv_icmp_gt (tgt := 170) hx hb dL_best_152 (by decide) (fun c152 => ?_) (fun c152 => ?_)
      · replace h1 := Ok.pos c152 h1
        refine lv_iconst (v := 0) hx hb dL_best_170 rfl ?_
        exact kret_iz hx hb hr rfl hlocks hP hD hS h1 dL_best_171
      · replace h1 := Ok.neg c152 h1
        refine lv_aload_n hx hb dL_best_155 rfl (lv_at hl 2 rfl) ?_
        refine k_get (v := .ref (ad 0)) (C := RL) (T := TL) (N := 4) hx hb hts inL_best_L hown hK hP 0 rfl rfl 0 (by decide) lkL_best_10 rfl dL_best_156 ?_
        refine lv_iconst (v := 1) hx hb dL_best_159 rfl ?_
        refine kh_iS (As := [.ref (ad 0), .int 1]) (rest := []) h1 ⟨hx, hb, hml, hown, hts⟩ (cL_restoreM l D cy ad hh aa pa H.size u147 1) (vx_cwSW 2 hts gL_best_L_restore rfl rfl rfl heL_restore ⟨Nat.le_of_ble_eq_true rfl, Nat.le_of_ble_eq_true rfl⟩) hK (k_sel1 (l := [lwW hLn (ad 0) Y.2.1 lbn u123, wF cy ad hh aa pa u147]) (n := 2) 1 [0] rfl rfl (by decide)) hP hD hS hA rfl hl.1 rfl (Nat.le_of_ble_eq_true rfl) dL_best_160 ⟨Nat.zero_le _, Nat.zero_le _⟩ (fun r160 u160 H locs h1 hP hD hS => ?_)
        replace hP := kP_perm (List.Perm.symm (k_sel1 (l := [lwW hLn (ad 0) Y.2.1 lbn u123, wF cy ad hh aa pa u160]) (n := 2) 1 [0] rfl rfl (by decide))) hP
        replace hD := kD_perm (List.Perm.symm (k_sel1 (l := [lwW hLn (ad 0) Y.2.1 lbn u123, wF cy ad hh aa pa u160]) (n := 2) 1 [0] rfl rfl (by decide))) hD
        refine lv_if_ne (tgt := 170) hx hb dL_best_163 (by decide) (fun c163 => ?_) (fun c163 => ?_)
        · replace h1 := Ok.neg c163 h1
          refine lv_iconst (v := 0) hx hb dL_best_170 rfl ?_
          exact kret_iz hx hb hr rfl hlocks hP hD hS h1 dL_best_171
        · replace h1 := Ok.pos c163 h1
          refine lv_iconst (v := 1) hx hb dL_best_166 rfl ?_
          refine lv_goto (tgt := 171) hx hb dL_best_167 (by decide) ?_
          exact kret_iz hx hb hr rfl hlocks hP hD hS h1 dL_best_171
    · replace h1 := Ok.neg c112 h1
      refine lv_iconst (v := 0) hx hb dL_best_115 rfl ?_
      exact kret_iz hx hb hr rfl hlocks hP hD hS h1 dL_best_116
def fL_best_b0 (Y : YB) (un : Int32) (u : FS) : Option (Int32 × Int32 × FS) :=
  bnd2 (fL_draw 40 Y un u) (fun r4 u4 => bnd2 (fL_bestFirst (1 + r4) u) (fun r14 u14 => bnd (fL_count 1 u14) (fun r23 => (if r23 = 0 then (if r14 = (-1) then some (1, (u4, u14)) else some (0, (u4, u14))) else bnd2 (fL_save 1 u14) (fun r47 u47 => (if r47 = 0 then (if 0 ≤ r14 then bnd2 (fL_wave r14 u47) (fun r64 u64 => bnd2 (fL_boardIn (1 + r4) u64) (fun r74 u74 => (if r64 = (-2) then fL_best_b92 (1 + r4) r14 r23 r74 Y u4 u74 else (if r64 < 1 then some (0, (u4, u74)) else fL_best_b92 (1 + r4) r14 r23 r74 Y u4 u74)))) else some (0, (u4, u47))) else some (0, (u4, u47))))))))
set_option maxHeartbeats 4000000 in
set_option maxRecDepth 100000 in
theorem tL_best_b0 {p : Program} {l : Launch} {e : Env} {s : State} {m : MethodId} {args : Array Value} {below : List Frame} {meth : Method} {c : Code} {D : va_G} {cy : Nat → ClassId} {A : Nat → Prop} {hLn : Nat} {lbn : Nat} {ad : Nat → Nat} {hh : Nat → Nat} {aa : Nat → Nat → Nat} {pa : Nat → Nat} {za zv : Nat → Nat} {Y : YB} (K : Int32 × Int32 × FS → Prop) (E : mE D cy RL cL_best 7 (some .boolean) wsL_best A p s m args meth c) (hZ : mZ za zv A s s.heap) (hY : mY Y A s s.heap)
     (un : Int32) (u : FS) (H : Heap) (locs : List Loc) (ls : Array Slot) (hl : lv_has ls 7 [(0, .ref hLn)]) (hP : va_P D kCl (([lwW hLn (ad 0) Y.2.1 lbn un, wF cy ad hh aa pa u] : List va_W).flatten) H) (hD : va_D A (([lwW hLn (ad 0) Y.2.1 lbn un, wF cy ad hh aa pa u] : List va_W).flatten)) (hS : va_S A s.heap H locs) (h1 : Ok (fL_best_b0 Y un u) K) :
    kW p l e rmL_best s m args below meth c H locs (va_Qi (fun r q => K (r, q)) (fun q => kPost D A (([lwW hLn (ad 0) Y.2.1 lbn q.1, wF cy ad hh aa pa q.2] : List va_W).flatten)) A) A 0 ls [] := by
  obtain ⟨hx, hb, hr, hml, hown, hts, hlocks, hK, hA⟩ := id E
  unfold fL_best_b0 at h1
  refine lv_iconst (v := 1) hx hb dL_best_0 rfl ?_
  refine lv_aload_n hx hb dL_best_1 rfl (lv_at hl 0 rfl) ?_
  refine lv_bipush (v := 40) hx hb dL_best_2 rfl ?_
  refine ky_iV0 (b := hLn) (As := [.int 40]) (rest := [.int 1]) h1 ⟨hx, hb, hml, hown, hts⟩ (cL_drawM l D cy za zv Y hLn lbn ad hh aa pa H.size un u 40) (cwV 1 hts gL_best_L_draw rfl rfl rfl hdL_draw ⟨Nat.le_of_ble_eq_true rfl, Nat.le_of_ble_eq_true rfl⟩) hY hZ hK hP hD hS hA (q0 := 0) rfl rfl rfl hl.1 rfl (Nat.le_of_ble_eq_true rfl) dL_best_4 ⟨Nat.zero_le _, Nat.zero_le _⟩ (fun r4 u4 H locs h1 hP hD hS => ?_)
  refine lv_iadd hx hb dL_best_7 ?_
  refine lv_istore_n (lv' := [(1, .int (1 + r4)), (0, .ref hLn)]) hx hb dL_best_8 rfl hl (by decide) rfl (fun ls hl => ?_)
  refine lv_aload_n hx hb dL_best_9 rfl (lv_at hl 1 rfl) ?_
  refine k_get (v := .ref (ad 0)) (C := RL) (T := TL) (N := 4) hx hb hts inL_best_L hown hK hP 0 rfl rfl 0 (by decide) lkL_best_10 rfl dL_best_10 ?_
  refine lv_iload_n hx hb dL_best_13 rfl (lv_at hl 0 rfl) ?_
  refine kh_iS (As := [.ref (ad 0), .int (1 + r4)]) (rest := []) h1 ⟨hx, hb, hml, hown, hts⟩ (cL_bestFirstM l D cy ad hh aa pa H.size u (1 + r4)) (vx_cwSW 2 hts gL_best_L_bestFirst rfl rfl rfl heL_bestFirst ⟨Nat.le_of_ble_eq_true rfl, Nat.le_of_ble_eq_true rfl⟩) hK (k_sel1 (l := [lwW hLn (ad 0) Y.2.1 lbn u4, wF cy ad hh aa pa u]) (n := 2) 1 [0] rfl rfl (by decide)) hP hD hS hA rfl hl.1 rfl (Nat.le_of_ble_eq_true rfl) dL_best_14 ⟨Nat.zero_le _, Nat.zero_le _⟩ (fun r14 u14 H locs h1 hP hD hS => ?_)
  replace hP := kP_perm (List.Perm.symm (k_sel1 (l := [lwW hLn (ad 0) Y.2.1 lbn u4, wF cy ad hh aa pa u14]) (n := 2) 1 [0] rfl rfl (by decide))) hP
  replace hD := kD_perm (List.Perm.symm (k_sel1 (l := [lwW hLn (ad 0) Y.2.1 lbn u4, wF cy ad hh aa pa u14]) (n := 2) 1 [0] rfl rfl (by decide))) hD
  refine lv_istore_n (lv' := [(2, .int r14), (1, .int (1 + r4)), (0, .ref hLn)]) hx hb dL_best_17 rfl hl (by decide) rfl (fun ls hl => ?_)
  refine lv_aload_n hx hb dL_best_18 rfl (lv_at hl 2 rfl) ?_
  refine k_get (v := .ref (ad 0)) (C := RL) (T := TL) (N := 4) hx hb hts inL_best_L hown hK hP 0 rfl rfl 0 (by decide) lkL_best_10 rfl dL_best_19 ?_
  refine lv_iconst (v := 1) hx hb dL_best_22 rfl ?_
  refine kh_rS (As := [.ref (ad 0), .int 1]) (rest := []) h1 ⟨hx, hb, hml, hown, hts⟩ (cL_countM l D cy ad hh aa pa H.size u14 1) (vx_cwSW 2 hts gL_best_L_count rfl rfl rfl heL_count ⟨Nat.le_of_ble_eq_true rfl, Nat.le_of_ble_eq_true rfl⟩) hK (k_sel1 (l := [lwW hLn (ad 0) Y.2.1 lbn u4, wF cy ad hh aa pa u14]) (n := 2) 1 [0] rfl rfl (by decide)) hP hD hS hA rfl hl.1 rfl (Nat.le_of_ble_eq_true rfl) dL_best_23 ⟨Nat.zero_le _, Nat.zero_le _⟩ (fun r23 H locs h1 hP hS => ?_)
  refine lv_istore_n (lv' := [(3, .int r23), (2, .int r14), (1, .int (1 + r4)), (0, .ref hLn)]) hx hb dL_best_26 rfl hl (by decide) rfl (fun ls hl => ?_)
  refine lv_iload_n hx hb dL_best_27 rfl (lv_at hl 0 rfl) ?_
  refine lv_if_ne (tgt := 42) hx hb dL_best_28 (by decide) (fun c28 => ?_) (fun c28 => ?_)
  · replace h1 := Ok.neg c28 h1
    refine lv_aload_n hx hb dL_best_42 rfl (lv_at hl 3 rfl) ?_
    refine k_get (v := .ref (ad 0)) (C := RL) (T := TL) (N := 4) hx hb hts inL_best_L hown hK hP 0 rfl rfl 0 (by decide) lkL_best_10 rfl dL_best_43 ?_
    refine lv_iconst (v := 1) hx hb dL_best_46 rfl ?_
    refine kh_iS (As := [.ref (ad 0), .int 1]) (rest := []) h1 ⟨hx, hb, hml, hown, hts⟩ (cL_saveM l D cy ad hh aa pa H.size u14 1) (vx_cwSW 2 hts gL_best_L_save rfl rfl rfl heL_save ⟨Nat.le_of_ble_eq_true rfl, Nat.le_of_ble_eq_true rfl⟩) hK (k_sel1 (l := [lwW hLn (ad 0) Y.2.1 lbn u4, wF cy ad hh aa pa u14]) (n := 2) 1 [0] rfl rfl (by decide)) hP hD hS hA rfl hl.1 rfl (Nat.le_of_ble_eq_true rfl) dL_best_47 ⟨Nat.zero_le _, Nat.zero_le _⟩ (fun r47 u47 H locs h1 hP hD hS => ?_)
    replace hP := kP_perm (List.Perm.symm (k_sel1 (l := [lwW hLn (ad 0) Y.2.1 lbn u4, wF cy ad hh aa pa u47]) (n := 2) 1 [0] rfl rfl (by decide))) hP
    replace hD := kD_perm (List.Perm.symm (k_sel1 (l := [lwW hLn (ad 0) Y.2.1 lbn u4, wF cy ad hh aa pa u47]) (n := 2) 1 [0] rfl rfl (by decide))) hD
    refine lv_if_ne (tgt := 57) hx hb dL_best_50 (by decide) (fun c50 => ?_) (fun c50 => ?_)
    · replace h1 := Ok.neg c50 h1
      refine lv_iconst (v := 0) hx hb dL_best_57 rfl ?_
      exact kret_iz hx hb hr rfl hlocks hP hD hS h1 dL_best_58
    · replace h1 := Ok.pos c50 h1
      refine lv_iload_n hx hb dL_best_53 rfl (lv_at hl 1 rfl) ?_
      refine lv_if_ge (tgt := 59) hx hb dL_best_54 (by decide) (fun c54 => ?_) (fun c54 => ?_)
      · replace h1 := Ok.pos c54 h1
        refine lv_aload_n hx hb dL_best_59 rfl (lv_at hl 3 rfl) ?_
        refine k_get (v := .ref (ad 0)) (C := RL) (T := TL) (N := 4) hx hb hts inL_best_L hown hK hP 0 rfl rfl 0 (by decide) lkL_best_10 rfl dL_best_60 ?_
        refine lv_iload_n hx hb dL_best_63 rfl (lv_at hl 1 rfl) ?_
        refine kh_iS (As := [.ref (ad 0), .int r14]) (rest := []) h1 ⟨hx, hb, hml, hown, hts⟩ (cL_waveM l D cy ad hh aa pa H.size u47 r14) (vx_cwSW 2 hts gL_best_L_wave rfl rfl rfl heL_wave ⟨Nat.le_of_ble_eq_true rfl, Nat.le_of_ble_eq_true rfl⟩) hK (k_sel1 (l := [lwW hLn (ad 0) Y.2.1 lbn u4, wF cy ad hh aa pa u47]) (n := 2) 1 [0] rfl rfl (by decide)) hP hD hS hA rfl hl.1 rfl (Nat.le_of_ble_eq_true rfl) dL_best_64 ⟨Nat.zero_le _, Nat.zero_le _⟩ (fun r64 u64 H locs h1 hP hD hS => ?_)
        replace hP := kP_perm (List.Perm.symm (k_sel1 (l := [lwW hLn (ad 0) Y.2.1 lbn u4, wF cy ad hh aa pa u64]) (n := 2) 1 [0] rfl rfl (by decide))) hP
        replace hD := kD_perm (List.Perm.symm (k_sel1 (l := [lwW hLn (ad 0) Y.2.1 lbn u4, wF cy ad hh aa pa u64]) (n := 2) 1 [0] rfl rfl (by decide))) hD
        refine lv_istore (lv' := [(4, .int r64), (3, .int r23), (2, .int r14), (1, .int (1 + r4)), (0, .ref hLn)]) hx hb dL_best_67 hl (by decide) rfl (fun ls hl => ?_)
        refine lv_aload_n hx hb dL_best_69 rfl (lv_at hl 4 rfl) ?_
        refine k_get (v := .ref (ad 0)) (C := RL) (T := TL) (N := 4) hx hb hts inL_best_L hown hK hP 0 rfl rfl 0 (by decide) lkL_best_10 rfl dL_best_70 ?_
        refine lv_iload_n hx hb dL_best_73 rfl (lv_at hl 3 rfl) ?_
        refine kh_iS (As := [.ref (ad 0), .int (1 + r4)]) (rest := []) h1 ⟨hx, hb, hml, hown, hts⟩ (cL_boardInM l D cy ad hh aa pa H.size u64 (1 + r4)) (vx_cwSW 2 hts gL_best_L_boardIn rfl rfl rfl heL_boardIn ⟨Nat.le_of_ble_eq_true rfl, Nat.le_of_ble_eq_true rfl⟩) hK (k_sel1 (l := [lwW hLn (ad 0) Y.2.1 lbn u4, wF cy ad hh aa pa u64]) (n := 2) 1 [0] rfl rfl (by decide)) hP hD hS hA rfl hl.1 rfl (Nat.le_of_ble_eq_true rfl) dL_best_74 ⟨Nat.zero_le _, Nat.zero_le _⟩ (fun r74 u74 H locs h1 hP hD hS => ?_)
        replace hP := kP_perm (List.Perm.symm (k_sel1 (l := [lwW hLn (ad 0) Y.2.1 lbn u4, wF cy ad hh aa pa u74]) (n := 2) 1 [0] rfl rfl (by decide))) hP
        replace hD := kD_perm (List.Perm.symm (k_sel1 (l := [lwW hLn (ad 0) Y.2.1 lbn u4, wF cy ad hh aa pa u74]) (n := 2) 1 [0] rfl rfl (by decide))) hD
        refine lv_istore (lv' := [(5, .int r74), (4, .int r64), (3, .int r23), (2, .int r14), (1, .int (1 + r4)), (0, .ref hLn)]) hx hb dL_best_77 hl (by decide) rfl (fun ls hl => ?_)
        refine lv_iload hx hb dL_best_79 (lv_at hl 1 rfl) ?_
        refine lv_bipush (v := (-2)) hx hb dL_best_81 rfl ?_
        refine lv_icmp_eq (tgt := 92) hx hb dL_best_83 (by decide) (fun c83 => ?_) (fun c83 => ?_)
        · replace h1 := Ok.pos c83 h1
          exact tL_best_b92 K E hZ hY (1 + r4) r14 r23 r74 u4 u74 H locs ls (lv_sub hl [5, 4, 3, 2, 0] rfl) hP hD hS h1
        · replace h1 := Ok.neg c83 h1
          refine lv_iload hx hb dL_best_86 (lv_at hl 1 rfl) ?_
          refine lv_iconst (v := 1) hx hb dL_best_88 rfl ?_
          refine lv_icmp_lt (tgt := 115) hx hb dL_best_89 (by decide) (fun c89 => ?_) (fun c89 => ?_)
          · replace h1 := Ok.pos c89 h1
            refine lv_iconst (v := 0) hx hb dL_best_115 rfl ?_
            exact kret_iz hx hb hr rfl hlocks hP hD hS h1 dL_best_116
          · replace h1 := Ok.neg c89 h1
            exact tL_best_b92 K E hZ hY (1 + r4) r14 r23 r74 u4 u74 H locs ls (lv_sub hl [5, 4, 3, 2, 0] rfl) hP hD hS h1
      · replace h1 := Ok.neg c54 h1
        refine lv_iconst (v := 0) hx hb dL_best_57 rfl ?_
        exact kret_iz hx hb hr rfl hlocks hP hD hS h1 dL_best_58
  · replace h1 := Ok.pos c28 h1
    refine lv_iload_n hx hb dL_best_31 rfl (lv_at hl 1 rfl) ?_
    refine lv_iconst (v := (-1)) hx hb dL_best_32 rfl ?_
    refine lv_icmp_ne (tgt := 40) hx hb dL_best_33 (by decide) (fun c33 => ?_) (fun c33 => ?_)
    · replace h1 := Ok.neg c33 h1
      refine lv_iconst (v := 0) hx hb dL_best_40 rfl ?_
      exact kret_iz hx hb hr rfl hlocks hP hD hS h1 dL_best_41
    · replace h1 := Ok.pos c33 h1
      refine lv_iconst (v := 1) hx hb dL_best_36 rfl ?_
      refine lv_goto (tgt := 41) hx hb dL_best_37 (by decide) ?_
      exact kret_iz hx hb hr rfl hlocks hP hD hS h1 dL_best_41
def fL_best (Y : YB) (un : Int32) (u : FS) : Option (Int32 × Int32 × FS) := fL_best_b0 Y un u
set_option maxHeartbeats 4000000 in
set_option maxRecDepth 100000 in
theorem cL_bestM (l : Launch) (D : va_G) (cy : Nat → ClassId) (za zv : Nat → Nat) (Y : YB) (hLn : Nat) (lbn : Nat) (ad : Nat → Nat) (hh : Nat → Nat) (aa : Nat → Nat → Nat) (pa : Nat → Nat) (sz : Nat) (un : Int32) (u : FS) : ∀ (K : Int32 → Int32 × FS → Prop), Ok (fL_best Y un u) (fun q => K q.1 q.2) → Met l yL_best wsL_best rmL_best (va_Pc [.ref hLn] (kPreY D cy za zv Y sz (([lwW hLn (ad 0) Y.2.1 lbn un, wF cy ad hh aa pa u] : List va_W).flatten))) (va_Qi K (fun q => kPost D (va_A (([lwW hLn (ad 0) Y.2.1 lbn un, wF cy ad hh aa pa u] : List va_W).flatten) sz) (([lwW hLn (ad 0) Y.2.1 lbn q.1, wF cy ad hh aa pa q.2] : List va_W).flatten)) (va_A (([lwW hLn (ad 0) Y.2.1 lbn un, wF cy ad hh aa pa u] : List va_W).flatten) sz)) 0 0 (va_A (([lwW hLn (ad 0) Y.2.1 lbn un, wF cy ad hh aa pa u] : List va_W).flatten) sz) := by
  intro K h1
  refine Met.ofW (cc := cL_best) (maxL := 7) (ret := (some .boolean)) (by decide) rfl ?_
  intro p e s m args below meth c s₁ B hml hv
  obtain ⟨rfl, ⟨⟨hsz, hP, hK, hD0⟩, hZ⟩, hY⟩ := hv
  subst hsz
  have E : mE D cy RL cL_best 7 (some .boolean) wsL_best (va_A (([lwW hLn (ad 0) Y.2.1 lbn un, wF cy ad hh aa pa u] : List va_W).flatten) s.heap.size) p s m _ meth c := ⟨B.exec, B.bytes, B.returns, hml, findClass_of_methodNamed B.named, atoms_spec (ws := wsL_best) B.pre, B.notSynchronized, hK, fun q h => Or.inr h⟩
  have hl := lv_entry ([.ref hLn]) (n := 7) (Nat.le_of_ble_eq_true rfl)
  rw [lg_entry_eq]
  generalize (lg_sl ([.ref hLn]) ++ List.replicate (7 - (lg_sl ([.ref hLn])).length) Slot.unset).toArray = ls at hl ⊢
  exact tL_best_b0 (fun q => K q.1 q.2) E hZ hY un u _ _ _ hl hP hD0.self va_S.rf h1
