-- L_others
theorem inL_others_L : ∀ w ∈ u_ws RL TL 4, w ∈ wsL_others := k_lays 241 rfl
theorem lkL_others_10 : Cond.fieldLink RL 10 "FerryRampLaw" "x" "LFerryRamp;" ∈ wsL_others := List.mem_of_getElem? (i := 1) rfl
theorem heL_arrive : yL_arrive.cls ≠ "java/lang/invoke/MethodHandle" ∧ yL_arrive.cls ≠ "java/lang/invoke/VarHandle" ∧ (parseMethodDescriptor yL_arrive.desc).map (fun d => d.parameters.length) = some 3 := by decide +kernel
theorem heL_unload : yL_unload.cls ≠ "java/lang/invoke/MethodHandle" ∧ yL_unload.cls ≠ "java/lang/invoke/VarHandle" ∧ (parseMethodDescriptor yL_unload.desc).map (fun d => d.parameters.length) = some 2 := by decide +kernel
theorem hdX9_undo : yX9_undo.cls = RX9 ∧ yX9_undo.cls ≠ "java/lang/invoke/MethodHandle" ∧ yX9_undo.cls ≠ "java/lang/invoke/VarHandle" ∧ (parseMethodDescriptor yX9_undo.desc).map (fun d => d.parameters.length) = some 0 := by decide +kernel
theorem heL_standing : yL_standing.cls ≠ "java/lang/invoke/MethodHandle" ∧ yL_standing.cls ≠ "java/lang/invoke/VarHandle" ∧ (parseMethodDescriptor yL_standing.desc).map (fun d => d.parameters.length) = some 3 := by decide +kernel
theorem heL_crank : yL_crank.cls ≠ "java/lang/invoke/MethodHandle" ∧ yL_crank.cls ≠ "java/lang/invoke/VarHandle" ∧ (parseMethodDescriptor yL_crank.desc).map (fun d => d.parameters.length) = some 2 := by decide +kernel
theorem heL_dismiss : yL_dismiss.cls ≠ "java/lang/invoke/MethodHandle" ∧ yL_dismiss.cls ≠ "java/lang/invoke/VarHandle" ∧ (parseMethodDescriptor yL_dismiss.desc).map (fun d => d.parameters.length) = some 2 := by decide +kernel
abbrev rmL_others : Room := { frames := 7, cells := 0, slots := 0, locals := 170 }
def fL_others_b119 (x1 : Int32) (x2 : Int32) (s0 : Int32) (s1 : Int32) (Y : YB) (un : Int32) (u : FS) : Option (Int32 × Int32 × FS) :=
  (if s0 = s1 then (if x2 = 60 then some (1, (un, u)) else (if x1 = 20 then some (1, (un, u)) else some (0, (un, u)))) else some (0, (un, u)))
set_option maxHeartbeats 4000000 in
set_option maxRecDepth 100000 in
theorem tL_others_b119 {p : Program} {l : Launch} {e : Env} {s : State} {m : MethodId} {args : Array Value} {below : List Frame} {meth : Method} {c : Code} {D : va_G} {cy : Nat → ClassId} {A : Nat → Prop} {hLn : Nat} {lbn : Nat} {ad : Nat → Nat} {hh : Nat → Nat} {aa : Nat → Nat → Nat} {pa : Nat → Nat} {za zv : Nat → Nat} {Y : YB} (K : Int32 × Int32 × FS → Prop) (E : mE D cy RL cL_others 10 (some .boolean) wsL_others A p s m args meth c) (hZ : mZ za zv A s s.heap) (hY : mY Y A s s.heap)
     (x1 : Int32) (x2 : Int32) (s0 : Int32) (s1 : Int32) (un : Int32) (u : FS) (H : Heap) (locs : List Loc) (ls : Array Slot) (hl : lv_has ls 10 [(1, .int x1), (2, .int x2)]) (hP : va_P D kCl (([lwW hLn (ad 0) Y.2.1 lbn un, wF cy ad hh aa pa u] : List va_W).flatten) H) (hD : va_D A (([lwW hLn (ad 0) Y.2.1 lbn un, wF cy ad hh aa pa u] : List va_W).flatten)) (hS : va_S A s.heap H locs) (h1 : Ok (fL_others_b119 x1 x2 s0 s1 Y un u) K) :
    kW p l e rmL_others s m args below meth c H locs (va_Qi (fun r q => K (r, q)) (fun q => kPost D A (([lwW hLn (ad 0) Y.2.1 lbn q.1, wF cy ad hh aa pa q.2] : List va_W).flatten)) A) A 119 ls [.int s1, .int s0] := by
  obtain ⟨hx, hb, hr, hml, hown, hts, hlocks, hK, hA⟩ := id E
  unfold fL_others_b119 at h1
  refine lv_icmp_ne (tgt := 138) hx hb dL_others_119 (by decide) (fun c119 => ?_) (fun c119 => ?_)
  · replace h1 := Ok.neg c119 h1
    refine lv_iconst (v := 0) hx hb dL_others_138 rfl ?_
    exact kret_iz hx hb hr rfl hlocks hP hD hS h1 dL_others_139
  · replace h1 := Ok.pos c119 h1
    refine lv_iload_n hx hb dL_others_122 rfl (lv_at hl 1 rfl) ?_
    refine lv_bipush (v := 60) hx hb dL_others_123 rfl ?_
    refine lv_icmp_eq (tgt := 134) hx hb dL_others_125 (by decide) (fun c125 => ?_) (fun c125 => ?_)
    · replace h1 := Ok.pos c125 h1
      refine lv_iconst (v := 1) hx hb dL_others_134 rfl ?_
      refine lv_goto (tgt := 139) hx hb dL_others_135 (by decide) ?_
      exact kret_iz hx hb hr rfl hlocks hP hD hS h1 dL_others_139
    · replace h1 := Ok.neg c125 h1
      refine lv_iload_n hx hb dL_others_128 rfl (lv_at hl 0 rfl) ?_
      refine lv_bipush (v := 20) hx hb dL_others_129 rfl ?_
      refine lv_icmp_ne (tgt := 138) hx hb dL_others_131 (by decide) (fun c131 => ?_) (fun c131 => ?_)
      · replace h1 := Ok.neg c131 h1
        refine lv_iconst (v := 0) hx hb dL_others_138 rfl ?_
        exact kret_iz hx hb hr rfl hlocks hP hD hS h1 dL_others_139
      · replace h1 := Ok.pos c131 h1
        refine lv_iconst (v := 1) hx hb dL_others_134 rfl ?_
        refine lv_goto (tgt := 139) hx hb dL_others_135 (by decide) ?_
        exact kret_iz hx hb hr rfl hlocks hP hD hS h1 dL_others_139
def fL_others_b457 (x8 : Int32) (s0 : Int32) (s1 : Int32) (Y : YB) (un : Int32) (u : FS) : Option (Int32 × Int32 × FS) :=
  (if s0 = s1 then bnd (fL_count 4 u) (fun r465 => (if r465 = x8 then some (1, (un, u)) else some (0, (un, u)))) else some (0, (un, u)))
set_option maxHeartbeats 4000000 in
set_option maxRecDepth 100000 in
theorem tL_others_b457 {p : Program} {l : Launch} {e : Env} {s : State} {m : MethodId} {args : Array Value} {below : List Frame} {meth : Method} {c : Code} {D : va_G} {cy : Nat → ClassId} {A : Nat → Prop} {hLn : Nat} {lbn : Nat} {ad : Nat → Nat} {hh : Nat → Nat} {aa : Nat → Nat → Nat} {pa : Nat → Nat} {za zv : Nat → Nat} {Y : YB} (K : Int32 × Int32 × FS → Prop) (E : mE D cy RL cL_others 10 (some .boolean) wsL_others A p s m args meth c) (hZ : mZ za zv A s s.heap) (hY : mY Y A s s.heap)
     (x8 : Int32) (s0 : Int32) (s1 : Int32) (un : Int32) (u : FS) (H : Heap) (locs : List Loc) (ls : Array Slot) (hl : lv_has ls 10 [(0, .ref hLn), (8, .int x8)]) (hP : va_P D kCl (([lwW hLn (ad 0) Y.2.1 lbn un, wF cy ad hh aa pa u] : List va_W).flatten) H) (hD : va_D A (([lwW hLn (ad 0) Y.2.1 lbn un, wF cy ad hh aa pa u] : List va_W).flatten)) (hS : va_S A s.heap H locs) (h1 : Ok (fL_others_b457 x8 s0 s1 Y un u) K) :
    kW p l e rmL_others s m args below meth c H locs (va_Qi (fun r q => K (r, q)) (fun q => kPost D A (([lwW hLn (ad 0) Y.2.1 lbn q.1, wF cy ad hh aa pa q.2] : List va_W).flatten)) A) A 457 ls [.int s1, .int s0] := by
  obtain ⟨hx, hb, hr, hml, hown, hts, hlocks, hK, hA⟩ := id E
  unfold fL_others_b457 at h1
  refine lv_icmp_ne (tgt := 477) hx hb dL_others_457 (by decide) (fun c457 => ?_) (fun c457 => ?_)
  · replace h1 := Ok.neg c457 h1
    refine lv_iconst (v := 0) hx hb dL_others_477 rfl ?_
    refine lv_goto (tgt := 514) hx hb dL_others_478 (by decide) ?_
    exact kret_iz hx hb hr rfl hlocks hP hD hS h1 dL_others_514
  · replace h1 := Ok.pos c457 h1
    refine lv_aload_n hx hb dL_others_460 rfl (lv_at hl 0 rfl) ?_
    refine k_get (v := .ref (ad 0)) (C := RL) (T := TL) (N := 4) hx hb hts inL_others_L hown hK hP 0 rfl rfl 0 (by decide) lkL_others_10 rfl dL_others_461 ?_
    refine lv_iconst (v := 4) hx hb dL_others_464 rfl ?_
    refine kh_rS (As := [.ref (ad 0), .int 4]) (rest := []) h1 ⟨hx, hb, hml, hown, hts⟩ (cL_countM l D cy ad hh aa pa H.size u 4) (vx_cwSW 2 hts gL_others_L_count rfl rfl rfl heL_count ⟨Nat.le_of_ble_eq_true rfl, Nat.le_of_ble_eq_true rfl⟩) hK (k_sel1 (l := [lwW hLn (ad 0) Y.2.1 lbn un, wF cy ad hh aa pa u]) (n := 2) 1 [0] rfl rfl (by decide)) hP hD hS hA rfl hl.1 rfl (Nat.le_of_ble_eq_true rfl) dL_others_465 ⟨Nat.zero_le _, Nat.zero_le _⟩ (fun r465 H locs h1 hP hS => ?_)
    refine lv_iload hx hb dL_others_468 (lv_at hl 1 rfl) ?_
    refine lv_icmp_ne (tgt := 477) hx hb dL_others_470 (by decide) (fun c470 => ?_) (fun c470 => ?_)
    · replace h1 := Ok.neg c470 h1
      refine lv_iconst (v := 0) hx hb dL_others_477 rfl ?_
      refine lv_goto (tgt := 514) hx hb dL_others_478 (by decide) ?_
      exact kret_iz hx hb hr rfl hlocks hP hD hS h1 dL_others_514
    · replace h1 := Ok.pos c470 h1
      refine lv_iconst (v := 1) hx hb dL_others_473 rfl ?_
      refine lv_goto (tgt := 514) hx hb dL_others_474 (by decide) ?_
      exact kret_iz hx hb hr rfl hlocks hP hD hS h1 dL_others_514
def fL_others_b0 (Y : YB) (un : Int32) (u : FS) : Option (Int32 × Int32 × FS) :=
  bnd (fL_count 1 u) (fun r5 => bnd (fL_count 3 u) (fun r14 => bnd2 (fL_draw 150 Y un u) (fun r23 u23 => bnd2 (fL_draw 4 Y u23 u) (fun r30 u30 => bnd2 (fL_draw 3 Y u30 u) (fun r37 u37 => bnd (fL_count 7 u) (fun r48 => bnd2 (fL_draw 5 Y u37 u) (fun r55 u55 => (if r55 = 0 then bnd2 (fL_arrive r30 (1 + r23) u) (fun r95 u95 => (if 0 ≤ r95 then (if r95 = r14 then bnd (fL_count 1 u95) (fun r151 => (if r151 = (r5 + 1) then bnd (fX9_queued r5 u95) (fun r165 => (if r165 = r95 then bnd (fL_car r95 4 u95) (fun r180 => bnd (fL_count 0 u95) (fun r188 => (if r180 = r188 then bnd (fL_whyNot r95 u95) (fun r200 => (if r200 < 0 then some (0, (u55, u95)) else some (1, (u55, u95)))) else some (0, (u55, u95))))) else some (0, (u55, u95)))) else some (0, (u55, u95)))) else some (0, (u55, u95))) else (if r14 = 60 then fL_others_b119 r5 r14 r95 (-1) Y u55 u95 else fL_others_b119 r5 r14 r95 (-2) Y u55 u95))) else (if r55 = 1 then bnd2 (fL_arrive r30 (1 + r23) u) (fun r95 u95 => (if 0 ≤ r95 then (if r95 = r14 then bnd (fL_count 1 u95) (fun r151 => (if r151 = (r5 + 1) then bnd (fX9_queued r5 u95) (fun r165 => (if r165 = r95 then bnd (fL_car r95 4 u95) (fun r180 => bnd (fL_count 0 u95) (fun r188 => (if r180 = r188 then bnd (fL_whyNot r95 u95) (fun r200 => (if r200 < 0 then some (0, (u55, u95)) else some (1, (u55, u95)))) else some (0, (u55, u95))))) else some (0, (u55, u95)))) else some (0, (u55, u95)))) else some (0, (u55, u95))) else (if r14 = 60 then fL_others_b119 r5 r14 r95 (-1) Y u55 u95 else fL_others_b119 r5 r14 r95 (-2) Y u55 u95))) else (if r55 = 2 then bnd2 (fL_unload r37 u) (fun r218 u218 => (if 0 ≤ r218 then bnd (fL_car r218 2 u218) (fun r309 => (if r309 = 3 then bnd (fL_car r218 3 u218) (fun r323 => (if r323 = r37 then bnd (fL_count 7 u218) (fun r337 => bnd (fL_car r218 1 u218) (fun r349 => (if r337 = (r48 - r349) then bnd2 (fL_draw 2 Y u55 u218) (fun r358 u358 => (if r358 = 0 then some (1, (u358, u218)) else bnd2 (fX9_undo u218) (fun r368 u368 => (if r368 < 0 then some (0, (u358, u368)) else bnd (fL_count 7 u368) (fun r380 => (if r380 = r48 then bnd (fL_car r218 2 u368) (fun r395 => (if r395 = 2 then some (1, (u358, u368)) else some (0, (u358, u368)))) else some (0, (u358, u368)))))))) else some (0, (u55, u218))))) else some (0, (u55, u218)))) else some (0, (u55, u218)))) else (if r218 = (-1) then bnd (fL_standing r37 0 u218) (fun r241 => (if r241 = (-1) then some (1, (u55, u218)) else some (0, (u55, u218)))) else (if r218 = (-2) then bnd (fL_count 8 u218) (fun r269 => (if r269 < 0 then some (0, (u55, u218)) else some (1, (u55, u218)))) else bnd (fL_standing r37 0 u218) (fun r290 => (if r290 < 0 then some (0, (u55, u218)) else some (1, (u55, u218)))))))) else (if r55 = 3 then bnd2 (fL_draw 9 Y u55 u) (fun r411 u411 => bnd (fL_count 4 u) (fun r423 => bnd2 (fL_crank (r411 - 4) u) (fun r434 u434 => (if 0 ≤ r434 then bnd (fL_count 4 u434) (fun r486 => (if r486 = (r423 + (r411 - 4)) then bnd (fX9_lip u434) (fun r503 => (if r434 = r503 then some (1, (u411, u434)) else some (0, (u411, u434)))) else some (0, (u411, u434)))) else (if (r411 - 4) = 0 then fL_others_b457 r423 r434 (-1) Y u411 u434 else fL_others_b457 r423 r434 (-2) Y u411 u434))))) else (if r5 = 0 then some (1, (u55, u)) else bnd2 (fL_draw r5 Y u55 u) (fun r527 u527 => bnd (fX9_queued r527 u) (fun r530 => bnd2 (fL_dismiss r530 u) (fun r541 u541 => (if r541 = (r5 - 1) then bnd (fL_car r530 2 u541) (fun r561 => (if r561 = 4 then bnd (fL_count 7 u541) (fun r574 => (if r574 = r48 then some (1, (u527, u541)) else some (0, (u527, u541)))) else some (0, (u527, u541)))) else some (0, (u527, u541))))))))))))))))))
set_option maxHeartbeats 4000000 in
set_option maxRecDepth 100000 in
theorem tL_others_b0 {p : Program} {l : Launch} {e : Env} {s : State} {m : MethodId} {args : Array Value} {below : List Frame} {meth : Method} {c : Code} {D : va_G} {cy : Nat → ClassId} {A : Nat → Prop} {hLn : Nat} {lbn : Nat} {ad : Nat → Nat} {hh : Nat → Nat} {aa : Nat → Nat → Nat} {pa : Nat → Nat} {za zv : Nat → Nat} {Y : YB} (K : Int32 × Int32 × FS → Prop) (E : mE D cy RL cL_others 10 (some .boolean) wsL_others A p s m args meth c) (hZ : mZ za zv A s s.heap) (hY : mY Y A s s.heap)
     (un : Int32) (u : FS) (H : Heap) (locs : List Loc) (ls : Array Slot) (hl : lv_has ls 10 [(0, .ref hLn)]) (hP : va_P D kCl (([lwW hLn (ad 0) Y.2.1 lbn un, wF cy ad hh aa pa u] : List va_W).flatten) H) (hD : va_D A (([lwW hLn (ad 0) Y.2.1 lbn un, wF cy ad hh aa pa u] : List va_W).flatten)) (hS : va_S A s.heap H locs) (h1 : Ok (fL_others_b0 Y un u) K) :
    kW p l e rmL_others s m args below meth c H locs (va_Qi (fun r q => K (r, q)) (fun q => kPost D A (([lwW hLn (ad 0) Y.2.1 lbn q.1, wF cy ad hh aa pa q.2] : List va_W).flatten)) A) A 0 ls [] := by
  obtain ⟨hx, hb, hr, hml, hown, hts, hlocks, hK, hA⟩ := id E
  unfold fL_others_b0 at h1
  refine lv_aload_n hx hb dL_others_0 rfl (lv_at hl 0 rfl) ?_
  refine k_get (v := .ref (ad 0)) (C := RL) (T := TL) (N := 4) hx hb hts inL_others_L hown hK hP 0 rfl rfl 0 (by decide) lkL_others_10 rfl dL_others_1 ?_
  refine lv_iconst (v := 1) hx hb dL_others_4 rfl ?_
  refine kh_rS (As := [.ref (ad 0), .int 1]) (rest := []) h1 ⟨hx, hb, hml, hown, hts⟩ (cL_countM l D cy ad hh aa pa H.size u 1) (vx_cwSW 2 hts gL_others_L_count rfl rfl rfl heL_count ⟨Nat.le_of_ble_eq_true rfl, Nat.le_of_ble_eq_true rfl⟩) hK (k_sel1 (l := [lwW hLn (ad 0) Y.2.1 lbn un, wF cy ad hh aa pa u]) (n := 2) 1 [0] rfl rfl (by decide)) hP hD hS hA rfl hl.1 rfl (Nat.le_of_ble_eq_true rfl) dL_others_5 ⟨Nat.zero_le _, Nat.zero_le _⟩ (fun r5 H locs h1 hP hS => ?_)
  refine lv_istore_n (lv' := [(1, .int r5), (0, .ref hLn)]) hx hb dL_others_8 rfl hl (by decide) rfl (fun ls hl => ?_)
  refine lv_aload_n hx hb dL_others_9 rfl (lv_at hl 1 rfl) ?_
  refine k_get (v := .ref (ad 0)) (C := RL) (T := TL) (N := 4) hx hb hts inL_others_L hown hK hP 0 rfl rfl 0 (by decide) lkL_others_10 rfl dL_others_10 ?_
  refine lv_iconst (v := 3) hx hb dL_others_13 rfl ?_
  refine kh_rS (As := [.ref (ad 0), .int 3]) (rest := []) h1 ⟨hx, hb, hml, hown, hts⟩ (cL_countM l D cy ad hh aa pa H.size u 3) (vx_cwSW 2 hts gL_others_L_count rfl rfl rfl heL_count ⟨Nat.le_of_ble_eq_true rfl, Nat.le_of_ble_eq_true rfl⟩) hK (k_sel1 (l := [lwW hLn (ad 0) Y.2.1 lbn un, wF cy ad hh aa pa u]) (n := 2) 1 [0] rfl rfl (by decide)) hP hD hS hA rfl hl.1 rfl (Nat.le_of_ble_eq_true rfl) dL_others_14 ⟨Nat.zero_le _, Nat.zero_le _⟩ (fun r14 H locs h1 hP hS => ?_)
  refine lv_istore_n (lv' := [(2, .int r14), (1, .int r5), (0, .ref hLn)]) hx hb dL_others_17 rfl hl (by decide) rfl (fun ls hl => ?_)
  refine lv_iconst (v := 1) hx hb dL_others_18 rfl ?_
  refine lv_aload_n hx hb dL_others_19 rfl (lv_at hl 2 rfl) ?_
  refine lv_sipush (v := 150) hx hb dL_others_20 rfl ?_
  refine ky_iV0 (b := hLn) (As := [.int 150]) (rest := [.int 1]) h1 ⟨hx, hb, hml, hown, hts⟩ (cL_drawM l D cy za zv Y hLn lbn ad hh aa pa H.size un u 150) (cwV 1 hts gL_others_L_draw rfl rfl rfl hdL_draw ⟨Nat.le_of_ble_eq_true rfl, Nat.le_of_ble_eq_true rfl⟩) hY hZ hK hP hD hS hA (q0 := 0) rfl rfl rfl hl.1 rfl (Nat.le_of_ble_eq_true rfl) dL_others_23 ⟨Nat.zero_le _, Nat.zero_le _⟩ (fun r23 u23 H locs h1 hP hD hS => ?_)
  refine lv_iadd hx hb dL_others_26 ?_
  refine lv_istore_n (lv' := [(3, .int (1 + r23)), (2, .int r14), (1, .int r5), (0, .ref hLn)]) hx hb dL_others_27 rfl hl (by decide) rfl (fun ls hl => ?_)
  refine lv_aload_n hx hb dL_others_28 rfl (lv_at hl 3 rfl) ?_
  refine lv_iconst (v := 4) hx hb dL_others_29 rfl ?_
  refine ky_iV0 (b := hLn) (As := [.int 4]) (rest := []) h1 ⟨hx, hb, hml, hown, hts⟩ (cL_drawM l D cy za zv Y hLn lbn ad hh aa pa H.size u23 u 4) (cwV 1 hts gL_others_L_draw rfl rfl rfl hdL_draw ⟨Nat.le_of_ble_eq_true rfl, Nat.le_of_ble_eq_true rfl⟩) hY hZ hK hP hD hS hA (q0 := 0) rfl rfl rfl hl.1 rfl (Nat.le_of_ble_eq_true rfl) dL_others_30 ⟨Nat.zero_le _, Nat.zero_le _⟩ (fun r30 u30 H locs h1 hP hD hS => ?_)
  refine lv_istore (lv' := [(4, .int r30), (3, .int (1 + r23)), (2, .int r14), (1, .int r5), (0, .ref hLn)]) hx hb dL_others_33 hl (by decide) rfl (fun ls hl => ?_)
  refine lv_aload_n hx hb dL_others_35 rfl (lv_at hl 4 rfl) ?_
  refine lv_iconst (v := 3) hx hb dL_others_36 rfl ?_
  refine ky_iV0 (b := hLn) (As := [.int 3]) (rest := []) h1 ⟨hx, hb, hml, hown, hts⟩ (cL_drawM l D cy za zv Y hLn lbn ad hh aa pa H.size u30 u 3) (cwV 1 hts gL_others_L_draw rfl rfl rfl hdL_draw ⟨Nat.le_of_ble_eq_true rfl, Nat.le_of_ble_eq_true rfl⟩) hY hZ hK hP hD hS hA (q0 := 0) rfl rfl rfl hl.1 rfl (Nat.le_of_ble_eq_true rfl) dL_others_37 ⟨Nat.zero_le _, Nat.zero_le _⟩ (fun r37 u37 H locs h1 hP hD hS => ?_)
  refine lv_istore (lv' := [(5, .int r37), (4, .int r30), (3, .int (1 + r23)), (2, .int r14), (1, .int r5), (0, .ref hLn)]) hx hb dL_others_40 hl (by decide) rfl (fun ls hl => ?_)
  refine lv_aload_n hx hb dL_others_42 rfl (lv_at hl 5 rfl) ?_
  refine k_get (v := .ref (ad 0)) (C := RL) (T := TL) (N := 4) hx hb hts inL_others_L hown hK hP 0 rfl rfl 0 (by decide) lkL_others_10 rfl dL_others_43 ?_
  refine lv_bipush (v := 7) hx hb dL_others_46 rfl ?_
  refine kh_rS (As := [.ref (ad 0), .int 7]) (rest := []) h1 ⟨hx, hb, hml, hown, hts⟩ (cL_countM l D cy ad hh aa pa H.size u 7) (vx_cwSW 2 hts gL_others_L_count rfl rfl rfl heL_count ⟨Nat.le_of_ble_eq_true rfl, Nat.le_of_ble_eq_true rfl⟩) hK (k_sel1 (l := [lwW hLn (ad 0) Y.2.1 lbn u37, wF cy ad hh aa pa u]) (n := 2) 1 [0] rfl rfl (by decide)) hP hD hS hA rfl hl.1 rfl (Nat.le_of_ble_eq_true rfl) dL_others_48 ⟨Nat.zero_le _, Nat.zero_le _⟩ (fun r48 H locs h1 hP hS => ?_)
  refine lv_istore (lv' := [(6, .int r48), (5, .int r37), (4, .int r30), (3, .int (1 + r23)), (2, .int r14), (1, .int r5), (0, .ref hLn)]) hx hb dL_others_51 hl (by decide) rfl (fun ls hl => ?_)
  refine lv_aload_n hx hb dL_others_53 rfl (lv_at hl 6 rfl) ?_
  refine lv_iconst (v := 5) hx hb dL_others_54 rfl ?_
  refine ky_iV0 (b := hLn) (As := [.int 5]) (rest := []) h1 ⟨hx, hb, hml, hown, hts⟩ (cL_drawM l D cy za zv Y hLn lbn ad hh aa pa H.size u37 u 5) (cwV 1 hts gL_others_L_draw rfl rfl rfl hdL_draw ⟨Nat.le_of_ble_eq_true rfl, Nat.le_of_ble_eq_true rfl⟩) hY hZ hK hP hD hS hA (q0 := 0) rfl rfl rfl hl.1 rfl (Nat.le_of_ble_eq_true rfl) dL_others_55 ⟨Nat.zero_le _, Nat.zero_le _⟩ (fun r55 u55 H locs h1 hP hD hS => ?_)
  by_cases c58_0 : r55 = 0
  · replace h1 := Ok.pos c58_0 h1
    refine lv_tableIn (off := 30) (tgt := 88) hx hb dL_others_58 (by rw [c58_0]; decide) (by rw [c58_0]; decide) (by rw [c58_0]; decide) (by decide) ?_
    refine lv_aload_n hx hb dL_others_88 rfl (lv_at hl 6 rfl) ?_
    refine k_get (v := .ref (ad 0)) (C := RL) (T := TL) (N := 4) hx hb hts inL_others_L hown hK hP 0 rfl rfl 0 (by decide) lkL_others_10 rfl dL_others_89 ?_
    refine lv_iload hx hb dL_others_92 (lv_at hl 2 rfl) ?_
    refine lv_iload_n hx hb dL_others_94 rfl (lv_at hl 3 rfl) ?_
    refine kh_iS (As := [.ref (ad 0), .int r30, .int (1 + r23)]) (rest := []) h1 ⟨hx, hb, hml, hown, hts⟩ (cL_arriveM l D cy ad hh aa pa H.size u r30 (1 + r23)) (vx_cwSW 3 hts gL_others_L_arrive rfl rfl rfl heL_arrive ⟨Nat.le_of_ble_eq_true rfl, Nat.le_of_ble_eq_true rfl⟩) hK (k_sel1 (l := [lwW hLn (ad 0) Y.2.1 lbn u55, wF cy ad hh aa pa u]) (n := 2) 1 [0] rfl rfl (by decide)) hP hD hS hA rfl hl.1 rfl (Nat.le_of_ble_eq_true rfl) dL_others_95 ⟨Nat.zero_le _, Nat.zero_le _⟩ (fun r95 u95 H locs h1 hP hD hS => ?_)
    replace hP := kP_perm (List.Perm.symm (k_sel1 (l := [lwW hLn (ad 0) Y.2.1 lbn u55, wF cy ad hh aa pa u95]) (n := 2) 1 [0] rfl rfl (by decide))) hP
    replace hD := kD_perm (List.Perm.symm (k_sel1 (l := [lwW hLn (ad 0) Y.2.1 lbn u55, wF cy ad hh aa pa u95]) (n := 2) 1 [0] rfl rfl (by decide))) hD
    refine lv_istore (lv' := [(7, .int r95), (6, .int r48), (5, .int r37), (4, .int r30), (3, .int (1 + r23)), (2, .int r14), (1, .int r5), (0, .ref hLn)]) hx hb dL_others_98 hl (by decide) rfl (fun ls hl => ?_)
    refine lv_iload hx hb dL_others_100 (lv_at hl 0 rfl) ?_
    refine lv_if_ge (tgt := 140) hx hb dL_others_102 (by decide) (fun c102 => ?_) (fun c102 => ?_)
    · replace h1 := Ok.pos c102 h1
      refine lv_iload hx hb dL_others_140 (lv_at hl 0 rfl) ?_
      refine lv_iload_n hx hb dL_others_142 rfl (lv_at hl 5 rfl) ?_
      refine lv_icmp_ne (tgt := 210) hx hb dL_others_143 (by decide) (fun c143 => ?_) (fun c143 => ?_)
      · replace h1 := Ok.neg c143 h1
        refine lv_iconst (v := 0) hx hb dL_others_210 rfl ?_
        exact kret_iz hx hb hr rfl hlocks hP hD hS h1 dL_others_211
      · replace h1 := Ok.pos c143 h1
        refine lv_aload_n hx hb dL_others_146 rfl (lv_at hl 7 rfl) ?_
        refine k_get (v := .ref (ad 0)) (C := RL) (T := TL) (N := 4) hx hb hts inL_others_L hown hK hP 0 rfl rfl 0 (by decide) lkL_others_10 rfl dL_others_147 ?_
        refine lv_iconst (v := 1) hx hb dL_others_150 rfl ?_
        refine kh_rS (As := [.ref (ad 0), .int 1]) (rest := []) h1 ⟨hx, hb, hml, hown, hts⟩ (cL_countM l D cy ad hh aa pa H.size u95 1) (vx_cwSW 2 hts gL_others_L_count rfl rfl rfl heL_count ⟨Nat.le_of_ble_eq_true rfl, Nat.le_of_ble_eq_true rfl⟩) hK (k_sel1 (l := [lwW hLn (ad 0) Y.2.1 lbn u55, wF cy ad hh aa pa u95]) (n := 2) 1 [0] rfl rfl (by decide)) hP hD hS hA rfl hl.1 rfl (Nat.le_of_ble_eq_true rfl) dL_others_151 ⟨Nat.zero_le _, Nat.zero_le _⟩ (fun r151 H locs h1 hP hS => ?_)
        refine lv_iload_n hx hb dL_others_154 rfl (lv_at hl 6 rfl) ?_
        refine lv_iconst (v := 1) hx hb dL_others_155 rfl ?_
        refine lv_iadd hx hb dL_others_156 ?_
        refine lv_icmp_ne (tgt := 210) hx hb dL_others_157 (by decide) (fun c157 => ?_) (fun c157 => ?_)
        · replace h1 := Ok.neg c157 h1
          refine lv_iconst (v := 0) hx hb dL_others_210 rfl ?_
          exact kret_iz hx hb hr rfl hlocks hP hD hS h1 dL_others_211
        · replace h1 := Ok.pos c157 h1
          refine lv_aload_n hx hb dL_others_160 rfl (lv_at hl 7 rfl) ?_
          refine k_get (v := .ref (ad 0)) (C := RL) (T := TL) (N := 4) hx hb hts inL_others_L hown hK hP 0 rfl rfl 0 (by decide) lkL_others_10 rfl dL_others_161 ?_
          refine lv_iload_n hx hb dL_others_164 rfl (lv_at hl 6 rfl) ?_
          refine kc_rV (b := (ad 0)) (As := [.int r5]) (rest := []) h1 ⟨hx, hb, hml, hown, hts⟩ (cX9_queuedM l D cy ad hh aa pa H.size u95 r5) (cwV 1 hts gL_others_X9_queued rfl rfl rfl hdX9_queued ⟨Nat.le_of_ble_eq_true rfl, Nat.le_of_ble_eq_true rfl⟩) hK (k_sel1 (l := [lwW hLn (ad 0) Y.2.1 lbn u55, wF cy ad hh aa pa u95]) (n := 2) 1 [0] rfl rfl (by decide)) hP hD hS hA (q0 := 0) rfl rfl rfl hl.1 rfl (Nat.le_of_ble_eq_true rfl) dL_others_165 ⟨Nat.zero_le _, Nat.zero_le _⟩ (fun r165 H locs h1 hP hS => ?_)
          refine lv_iload hx hb dL_others_168 (lv_at hl 0 rfl) ?_
          refine lv_icmp_ne (tgt := 210) hx hb dL_others_170 (by decide) (fun c170 => ?_) (fun c170 => ?_)
          · replace h1 := Ok.neg c170 h1
            refine lv_iconst (v := 0) hx hb dL_others_210 rfl ?_
            exact kret_iz hx hb hr rfl hlocks hP hD hS h1 dL_others_211
          · replace h1 := Ok.pos c170 h1
            refine lv_aload_n hx hb dL_others_173 rfl (lv_at hl 7 rfl) ?_
            refine k_get (v := .ref (ad 0)) (C := RL) (T := TL) (N := 4) hx hb hts inL_others_L hown hK hP 0 rfl rfl 0 (by decide) lkL_others_10 rfl dL_others_174 ?_
            refine lv_iload hx hb dL_others_177 (lv_at hl 0 rfl) ?_
            refine lv_iconst (v := 4) hx hb dL_others_179 rfl ?_
            refine kh_rS (As := [.ref (ad 0), .int r95, .int 4]) (rest := []) h1 ⟨hx, hb, hml, hown, hts⟩ (cL_carM l D cy ad hh aa pa H.size u95 r95 4) (vx_cwSW 3 hts gL_others_L_car rfl rfl rfl heL_car ⟨Nat.le_of_ble_eq_true rfl, Nat.le_of_ble_eq_true rfl⟩) hK (k_sel1 (l := [lwW hLn (ad 0) Y.2.1 lbn u55, wF cy ad hh aa pa u95]) (n := 2) 1 [0] rfl rfl (by decide)) hP hD hS hA rfl hl.1 rfl (Nat.le_of_ble_eq_true rfl) dL_others_180 ⟨Nat.zero_le _, Nat.zero_le _⟩ (fun r180 H locs h1 hP hS => ?_)
            refine lv_aload_n hx hb dL_others_183 rfl (lv_at hl 7 rfl) ?_
            refine k_get (v := .ref (ad 0)) (C := RL) (T := TL) (N := 4) hx hb hts inL_others_L hown hK hP 0 rfl rfl 0 (by decide) lkL_others_10 rfl dL_others_184 ?_
            refine lv_iconst (v := 0) hx hb dL_others_187 rfl ?_
            refine kh_rS (As := [.ref (ad 0), .int 0]) (rest := [.int r180]) h1 ⟨hx, hb, hml, hown, hts⟩ (cL_countM l D cy ad hh aa pa H.size u95 0) (vx_cwSW 2 hts gL_others_L_count rfl rfl rfl heL_count ⟨Nat.le_of_ble_eq_true rfl, Nat.le_of_ble_eq_true rfl⟩) hK (k_sel1 (l := [lwW hLn (ad 0) Y.2.1 lbn u55, wF cy ad hh aa pa u95]) (n := 2) 1 [0] rfl rfl (by decide)) hP hD hS hA rfl hl.1 rfl (Nat.le_of_ble_eq_true rfl) dL_others_188 ⟨Nat.zero_le _, Nat.zero_le _⟩ (fun r188 H locs h1 hP hS => ?_)
            refine lv_icmp_ne (tgt := 210) hx hb dL_others_191 (by decide) (fun c191 => ?_) (fun c191 => ?_)
            · replace h1 := Ok.neg c191 h1
              refine lv_iconst (v := 0) hx hb dL_others_210 rfl ?_
              exact kret_iz hx hb hr rfl hlocks hP hD hS h1 dL_others_211
            · replace h1 := Ok.pos c191 h1
              refine lv_aload_n hx hb dL_others_194 rfl (lv_at hl 7 rfl) ?_
              refine k_get (v := .ref (ad 0)) (C := RL) (T := TL) (N := 4) hx hb hts inL_others_L hown hK hP 0 rfl rfl 0 (by decide) lkL_others_10 rfl dL_others_195 ?_
              refine lv_iload hx hb dL_others_198 (lv_at hl 0 rfl) ?_
              refine kh_rS (As := [.ref (ad 0), .int r95]) (rest := []) h1 ⟨hx, hb, hml, hown, hts⟩ (cL_whyNotM l D cy ad hh aa pa H.size u95 r95) (vx_cwSW 2 hts gL_others_L_whyNot rfl rfl rfl heL_whyNot ⟨Nat.le_of_ble_eq_true rfl, Nat.le_of_ble_eq_true rfl⟩) hK (k_sel1 (l := [lwW hLn (ad 0) Y.2.1 lbn u55, wF cy ad hh aa pa u95]) (n := 2) 1 [0] rfl rfl (by decide)) hP hD hS hA rfl hl.1 rfl (Nat.le_of_ble_eq_true rfl) dL_others_200 ⟨Nat.zero_le _, Nat.zero_le _⟩ (fun r200 H locs h1 hP hS => ?_)
              refine lv_if_lt (tgt := 210) hx hb dL_others_203 (by decide) (fun c203 => ?_) (fun c203 => ?_)
              · replace h1 := Ok.pos c203 h1
                refine lv_iconst (v := 0) hx hb dL_others_210 rfl ?_
                exact kret_iz hx hb hr rfl hlocks hP hD hS h1 dL_others_211
              · replace h1 := Ok.neg c203 h1
                refine lv_iconst (v := 1) hx hb dL_others_206 rfl ?_
                refine lv_goto (tgt := 211) hx hb dL_others_207 (by decide) ?_
                exact kret_iz hx hb hr rfl hlocks hP hD hS h1 dL_others_211
    · replace h1 := Ok.neg c102 h1
      refine lv_iload hx hb dL_others_105 (lv_at hl 0 rfl) ?_
      refine lv_iload_n hx hb dL_others_107 rfl (lv_at hl 5 rfl) ?_
      refine lv_bipush (v := 60) hx hb dL_others_108 rfl ?_
      refine lv_icmp_ne (tgt := 117) hx hb dL_others_110 (by decide) (fun c110 => ?_) (fun c110 => ?_)
      · replace h1 := Ok.neg c110 h1
        refine lv_bipush (v := (-2)) hx hb dL_others_117 rfl ?_
        exact tL_others_b119 K E hZ hY r5 r14 r95 (-2) u55 u95 H locs ls (lv_sub hl [6, 5] rfl) hP hD hS h1
      · replace h1 := Ok.pos c110 h1
        refine lv_iconst (v := (-1)) hx hb dL_others_113 rfl ?_
        refine lv_goto (tgt := 119) hx hb dL_others_114 (by decide) ?_
        exact tL_others_b119 K E hZ hY r5 r14 r95 (-1) u55 u95 H locs ls (lv_sub hl [6, 5] rfl) hP hD hS h1
  replace h1 := Ok.neg c58_0 h1
  by_cases c58_1 : r55 = 1
  · replace h1 := Ok.pos c58_1 h1
    refine lv_tableIn (off := 30) (tgt := 88) hx hb dL_others_58 (by rw [c58_1]; decide) (by rw [c58_1]; decide) (by rw [c58_1]; decide) (by decide) ?_
    refine lv_aload_n hx hb dL_others_88 rfl (lv_at hl 6 rfl) ?_
    refine k_get (v := .ref (ad 0)) (C := RL) (T := TL) (N := 4) hx hb hts inL_others_L hown hK hP 0 rfl rfl 0 (by decide) lkL_others_10 rfl dL_others_89 ?_
    refine lv_iload hx hb dL_others_92 (lv_at hl 2 rfl) ?_
    refine lv_iload_n hx hb dL_others_94 rfl (lv_at hl 3 rfl) ?_
    refine kh_iS (As := [.ref (ad 0), .int r30, .int (1 + r23)]) (rest := []) h1 ⟨hx, hb, hml, hown, hts⟩ (cL_arriveM l D cy ad hh aa pa H.size u r30 (1 + r23)) (vx_cwSW 3 hts gL_others_L_arrive rfl rfl rfl heL_arrive ⟨Nat.le_of_ble_eq_true rfl, Nat.le_of_ble_eq_true rfl⟩) hK (k_sel1 (l := [lwW hLn (ad 0) Y.2.1 lbn u55, wF cy ad hh aa pa u]) (n := 2) 1 [0] rfl rfl (by decide)) hP hD hS hA rfl hl.1 rfl (Nat.le_of_ble_eq_true rfl) dL_others_95 ⟨Nat.zero_le _, Nat.zero_le _⟩ (fun r95 u95 H locs h1 hP hD hS => ?_)
    replace hP := kP_perm (List.Perm.symm (k_sel1 (l := [lwW hLn (ad 0) Y.2.1 lbn u55, wF cy ad hh aa pa u95]) (n := 2) 1 [0] rfl rfl (by decide))) hP
    replace hD := kD_perm (List.Perm.symm (k_sel1 (l := [lwW hLn (ad 0) Y.2.1 lbn u55, wF cy ad hh aa pa u95]) (n := 2) 1 [0] rfl rfl (by decide))) hD
    refine lv_istore (lv' := [(7, .int r95), (6, .int r48), (5, .int r37), (4, .int r30), (3, .int (1 + r23)), (2, .int r14), (1, .int r5), (0, .ref hLn)]) hx hb dL_others_98 hl (by decide) rfl (fun ls hl => ?_)
    refine lv_iload hx hb dL_others_100 (lv_at hl 0 rfl) ?_
    refine lv_if_ge (tgt := 140) hx hb dL_others_102 (by decide) (fun c102 => ?_) (fun c102 => ?_)
    · replace h1 := Ok.pos c102 h1
      refine lv_iload hx hb dL_others_140 (lv_at hl 0 rfl) ?_
      refine lv_iload_n hx hb dL_others_142 rfl (lv_at hl 5 rfl) ?_
      refine lv_icmp_ne (tgt := 210) hx hb dL_others_143 (by decide) (fun c143 => ?_) (fun c143 => ?_)
      · replace h1 := Ok.neg c143 h1
        refine lv_iconst (v := 0) hx hb dL_others_210 rfl ?_
        exact kret_iz hx hb hr rfl hlocks hP hD hS h1 dL_others_211
      · replace h1 := Ok.pos c143 h1
        refine lv_aload_n hx hb dL_others_146 rfl (lv_at hl 7 rfl) ?_
        refine k_get (v := .ref (ad 0)) (C := RL) (T := TL) (N := 4) hx hb hts inL_others_L hown hK hP 0 rfl rfl 0 (by decide) lkL_others_10 rfl dL_others_147 ?_
        refine lv_iconst (v := 1) hx hb dL_others_150 rfl ?_
        refine kh_rS (As := [.ref (ad 0), .int 1]) (rest := []) h1 ⟨hx, hb, hml, hown, hts⟩ (cL_countM l D cy ad hh aa pa H.size u95 1) (vx_cwSW 2 hts gL_others_L_count rfl rfl rfl heL_count ⟨Nat.le_of_ble_eq_true rfl, Nat.le_of_ble_eq_true rfl⟩) hK (k_sel1 (l := [lwW hLn (ad 0) Y.2.1 lbn u55, wF cy ad hh aa pa u95]) (n := 2) 1 [0] rfl rfl (by decide)) hP hD hS hA rfl hl.1 rfl (Nat.le_of_ble_eq_true rfl) dL_others_151 ⟨Nat.zero_le _, Nat.zero_le _⟩ (fun r151 H locs h1 hP hS => ?_)
        refine lv_iload_n hx hb dL_others_154 rfl (lv_at hl 6 rfl) ?_
        refine lv_iconst (v := 1) hx hb dL_others_155 rfl ?_
        refine lv_iadd hx hb dL_others_156 ?_
        refine lv_icmp_ne (tgt := 210) hx hb dL_others_157 (by decide) (fun c157 => ?_) (fun c157 => ?_)
        · replace h1 := Ok.neg c157 h1
          refine lv_iconst (v := 0) hx hb dL_others_210 rfl ?_
          exact kret_iz hx hb hr rfl hlocks hP hD hS h1 dL_others_211
        · replace h1 := Ok.pos c157 h1
          refine lv_aload_n hx hb dL_others_160 rfl (lv_at hl 7 rfl) ?_
          refine k_get (v := .ref (ad 0)) (C := RL) (T := TL) (N := 4) hx hb hts inL_others_L hown hK hP 0 rfl rfl 0 (by decide) lkL_others_10 rfl dL_others_161 ?_
          refine lv_iload_n hx hb dL_others_164 rfl (lv_at hl 6 rfl) ?_
          refine kc_rV (b := (ad 0)) (As := [.int r5]) (rest := []) h1 ⟨hx, hb, hml, hown, hts⟩ (cX9_queuedM l D cy ad hh aa pa H.size u95 r5) (cwV 1 hts gL_others_X9_queued rfl rfl rfl hdX9_queued ⟨Nat.le_of_ble_eq_true rfl, Nat.le_of_ble_eq_true rfl⟩) hK (k_sel1 (l := [lwW hLn (ad 0) Y.2.1 lbn u55, wF cy ad hh aa pa u95]) (n := 2) 1 [0] rfl rfl (by decide)) hP hD hS hA (q0 := 0) rfl rfl rfl hl.1 rfl (Nat.le_of_ble_eq_true rfl) dL_others_165 ⟨Nat.zero_le _, Nat.zero_le _⟩ (fun r165 H locs h1 hP hS => ?_)
          refine lv_iload hx hb dL_others_168 (lv_at hl 0 rfl) ?_
          refine lv_icmp_ne (tgt := 210) hx hb dL_others_170 (by decide) (fun c170 => ?_) (fun c170 => ?_)
          · replace h1 := Ok.neg c170 h1
            refine lv_iconst (v := 0) hx hb dL_others_210 rfl ?_
            exact kret_iz hx hb hr rfl hlocks hP hD hS h1 dL_others_211
          · replace h1 := Ok.pos c170 h1
            refine lv_aload_n hx hb dL_others_173 rfl (lv_at hl 7 rfl) ?_
            refine k_get (v := .ref (ad 0)) (C := RL) (T := TL) (N := 4) hx hb hts inL_others_L hown hK hP 0 rfl rfl 0 (by decide) lkL_others_10 rfl dL_others_174 ?_
            refine lv_iload hx hb dL_others_177 (lv_at hl 0 rfl) ?_
            refine lv_iconst (v := 4) hx hb dL_others_179 rfl ?_
            refine kh_rS (As := [.ref (ad 0), .int r95, .int 4]) (rest := []) h1 ⟨hx, hb, hml, hown, hts⟩ (cL_carM l D cy ad hh aa pa H.size u95 r95 4) (vx_cwSW 3 hts gL_others_L_car rfl rfl rfl heL_car ⟨Nat.le_of_ble_eq_true rfl, Nat.le_of_ble_eq_true rfl⟩) hK (k_sel1 (l := [lwW hLn (ad 0) Y.2.1 lbn u55, wF cy ad hh aa pa u95]) (n := 2) 1 [0] rfl rfl (by decide)) hP hD hS hA rfl hl.1 rfl (Nat.le_of_ble_eq_true rfl) dL_others_180 ⟨Nat.zero_le _, Nat.zero_le _⟩ (fun r180 H locs h1 hP hS => ?_)
            refine lv_aload_n hx hb dL_others_183 rfl (lv_at hl 7 rfl) ?_
            refine k_get (v := .ref (ad 0)) (C := RL) (T := TL) (N := 4) hx hb hts inL_others_L hown hK hP 0 rfl rfl 0 (by decide) lkL_others_10 rfl dL_others_184 ?_
            refine lv_iconst (v := 0) hx hb dL_others_187 rfl ?_
            refine kh_rS (As := [.ref (ad 0), .int 0]) (rest := [.int r180]) h1 ⟨hx, hb, hml, hown, hts⟩ (cL_countM l D cy ad hh aa pa H.size u95 0) (vx_cwSW 2 hts gL_others_L_count rfl rfl rfl heL_count ⟨Nat.le_of_ble_eq_true rfl, Nat.le_of_ble_eq_true rfl⟩) hK (k_sel1 (l := [lwW hLn (ad 0) Y.2.1 lbn u55, wF cy ad hh aa pa u95]) (n := 2) 1 [0] rfl rfl (by decide)) hP hD hS hA rfl hl.1 rfl (Nat.le_of_ble_eq_true rfl) dL_others_188 ⟨Nat.zero_le _, Nat.zero_le _⟩ (fun r188 H locs h1 hP hS => ?_)
            refine lv_icmp_ne (tgt := 210) hx hb dL_others_191 (by decide) (fun c191 => ?_) (fun c191 => ?_)
            · replace h1 := Ok.neg c191 h1
              refine lv_iconst (v := 0) hx hb dL_others_210 rfl ?_
              exact kret_iz hx hb hr rfl hlocks hP hD hS h1 dL_others_211
            · replace h1 := Ok.pos c191 h1
              refine lv_aload_n hx hb dL_others_194 rfl (lv_at hl 7 rfl) ?_
              refine k_get (v := .ref (ad 0)) (C := RL) (T := TL) (N := 4) hx hb hts inL_others_L hown hK hP 0 rfl rfl 0 (by decide) lkL_others_10 rfl dL_others_195 ?_
              refine lv_iload hx hb dL_others_198 (lv_at hl 0 rfl) ?_
              refine kh_rS (As := [.ref (ad 0), .int r95]) (rest := []) h1 ⟨hx, hb, hml, hown, hts⟩ (cL_whyNotM l D cy ad hh aa pa H.size u95 r95) (vx_cwSW 2 hts gL_others_L_whyNot rfl rfl rfl heL_whyNot ⟨Nat.le_of_ble_eq_true rfl, Nat.le_of_ble_eq_true rfl⟩) hK (k_sel1 (l := [lwW hLn (ad 0) Y.2.1 lbn u55, wF cy ad hh aa pa u95]) (n := 2) 1 [0] rfl rfl (by decide)) hP hD hS hA rfl hl.1 rfl (Nat.le_of_ble_eq_true rfl) dL_others_200 ⟨Nat.zero_le _, Nat.zero_le _⟩ (fun r200 H locs h1 hP hS => ?_)
              refine lv_if_lt (tgt := 210) hx hb dL_others_203 (by decide) (fun c203 => ?_) (fun c203 => ?_)
              · replace h1 := Ok.pos c203 h1
                refine lv_iconst (v := 0) hx hb dL_others_210 rfl ?_
                exact kret_iz hx hb hr rfl hlocks hP hD hS h1 dL_others_211
              · replace h1 := Ok.neg c203 h1
                refine lv_iconst (v := 1) hx hb dL_others_206 rfl ?_
                refine lv_goto (tgt := 211) hx hb dL_others_207 (by decide) ?_
                exact kret_iz hx hb hr rfl hlocks hP hD hS h1 dL_others_211
    · replace h1 := Ok.neg c102 h1
      refine lv_iload hx hb dL_others_105 (lv_at hl 0 rfl) ?_
      refine lv_iload_n hx hb dL_others_107 rfl (lv_at hl 5 rfl) ?_
      refine lv_bipush (v := 60) hx hb dL_others_108 rfl ?_
      refine lv_icmp_ne (tgt := 117) hx hb dL_others_110 (by decide) (fun c110 => ?_) (fun c110 => ?_)
      · replace h1 := Ok.neg c110 h1
        refine lv_bipush (v := (-2)) hx hb dL_others_117 rfl ?_
        exact tL_others_b119 K E hZ hY r5 r14 r95 (-2) u55 u95 H locs ls (lv_sub hl [6, 5] rfl) hP hD hS h1
      · replace h1 := Ok.pos c110 h1
        refine lv_iconst (v := (-1)) hx hb dL_others_113 rfl ?_
        refine lv_goto (tgt := 119) hx hb dL_others_114 (by decide) ?_
        exact tL_others_b119 K E hZ hY r5 r14 r95 (-1) u55 u95 H locs ls (lv_sub hl [6, 5] rfl) hP hD hS h1
  replace h1 := Ok.neg c58_1 h1
  by_cases c58_2 : r55 = 2
  · replace h1 := Ok.pos c58_2 h1
    refine lv_tableIn (off := 154) (tgt := 212) hx hb dL_others_58 (by rw [c58_2]; decide) (by rw [c58_2]; decide) (by rw [c58_2]; decide) (by decide) ?_
    refine lv_aload_n hx hb dL_others_212 rfl (lv_at hl 6 rfl) ?_
    refine k_get (v := .ref (ad 0)) (C := RL) (T := TL) (N := 4) hx hb hts inL_others_L hown hK hP 0 rfl rfl 0 (by decide) lkL_others_10 rfl dL_others_213 ?_
    refine lv_iload hx hb dL_others_216 (lv_at hl 1 rfl) ?_
    refine kh_iS (As := [.ref (ad 0), .int r37]) (rest := []) h1 ⟨hx, hb, hml, hown, hts⟩ (cL_unloadM l D cy ad hh aa pa H.size u r37) (vx_cwSW 2 hts gL_others_L_unload rfl rfl rfl heL_unload ⟨Nat.le_of_ble_eq_true rfl, Nat.le_of_ble_eq_true rfl⟩) hK (k_sel1 (l := [lwW hLn (ad 0) Y.2.1 lbn u55, wF cy ad hh aa pa u]) (n := 2) 1 [0] rfl rfl (by decide)) hP hD hS hA rfl hl.1 rfl (Nat.le_of_ble_eq_true rfl) dL_others_218 ⟨Nat.zero_le _, Nat.zero_le _⟩ (fun r218 u218 H locs h1 hP hD hS => ?_)
    replace hP := kP_perm (List.Perm.symm (k_sel1 (l := [lwW hLn (ad 0) Y.2.1 lbn u55, wF cy ad hh aa pa u218]) (n := 2) 1 [0] rfl rfl (by decide))) hP
    replace hD := kD_perm (List.Perm.symm (k_sel1 (l := [lwW hLn (ad 0) Y.2.1 lbn u55, wF cy ad hh aa pa u218]) (n := 2) 1 [0] rfl rfl (by decide))) hD
    refine lv_istore (lv' := [(7, .int r218), (6, .int r48), (5, .int r37), (4, .int r30), (3, .int (1 + r23)), (2, .int r14), (1, .int r5), (0, .ref hLn)]) hx hb dL_others_221 hl (by decide) rfl (fun ls hl => ?_)
    refine lv_iload hx hb dL_others_223 (lv_at hl 0 rfl) ?_
    refine lv_if_ge (tgt := 302) hx hb dL_others_225 (by decide) (fun c225 => ?_) (fun c225 => ?_)
    · replace h1 := Ok.pos c225 h1
      refine lv_aload_n hx hb dL_others_302 rfl (lv_at hl 7 rfl) ?_
      refine k_get (v := .ref (ad 0)) (C := RL) (T := TL) (N := 4) hx hb hts inL_others_L hown hK hP 0 rfl rfl 0 (by decide) lkL_others_10 rfl dL_others_303 ?_
      refine lv_iload hx hb dL_others_306 (lv_at hl 0 rfl) ?_
      refine lv_iconst (v := 2) hx hb dL_others_308 rfl ?_
      refine kh_rS (As := [.ref (ad 0), .int r218, .int 2]) (rest := []) h1 ⟨hx, hb, hml, hown, hts⟩ (cL_carM l D cy ad hh aa pa H.size u218 r218 2) (vx_cwSW 3 hts gL_others_L_car rfl rfl rfl heL_car ⟨Nat.le_of_ble_eq_true rfl, Nat.le_of_ble_eq_true rfl⟩) hK (k_sel1 (l := [lwW hLn (ad 0) Y.2.1 lbn u55, wF cy ad hh aa pa u218]) (n := 2) 1 [0] rfl rfl (by decide)) hP hD hS hA rfl hl.1 rfl (Nat.le_of_ble_eq_true rfl) dL_others_309 ⟨Nat.zero_le _, Nat.zero_le _⟩ (fun r309 H locs h1 hP hS => ?_)
      refine lv_iconst (v := 3) hx hb dL_others_312 rfl ?_
      refine lv_icmp_ne (tgt := 406) hx hb dL_others_313 (by decide) (fun c313 => ?_) (fun c313 => ?_)
      · replace h1 := Ok.neg c313 h1
        refine lv_iconst (v := 0) hx hb dL_others_406 rfl ?_
        exact kret_iz hx hb hr rfl hlocks hP hD hS h1 dL_others_407
      · replace h1 := Ok.pos c313 h1
        refine lv_aload_n hx hb dL_others_316 rfl (lv_at hl 7 rfl) ?_
        refine k_get (v := .ref (ad 0)) (C := RL) (T := TL) (N := 4) hx hb hts inL_others_L hown hK hP 0 rfl rfl 0 (by decide) lkL_others_10 rfl dL_others_317 ?_
        refine lv_iload hx hb dL_others_320 (lv_at hl 0 rfl) ?_
        refine lv_iconst (v := 3) hx hb dL_others_322 rfl ?_
        refine kh_rS (As := [.ref (ad 0), .int r218, .int 3]) (rest := []) h1 ⟨hx, hb, hml, hown, hts⟩ (cL_carM l D cy ad hh aa pa H.size u218 r218 3) (vx_cwSW 3 hts gL_others_L_car rfl rfl rfl heL_car ⟨Nat.le_of_ble_eq_true rfl, Nat.le_of_ble_eq_true rfl⟩) hK (k_sel1 (l := [lwW hLn (ad 0) Y.2.1 lbn u55, wF cy ad hh aa pa u218]) (n := 2) 1 [0] rfl rfl (by decide)) hP hD hS hA rfl hl.1 rfl (Nat.le_of_ble_eq_true rfl) dL_others_323 ⟨Nat.zero_le _, Nat.zero_le _⟩ (fun r323 H locs h1 hP hS => ?_)
        refine lv_iload hx hb dL_others_326 (lv_at hl 2 rfl) ?_
        refine lv_icmp_ne (tgt := 406) hx hb dL_others_328 (by decide) (fun c328 => ?_) (fun c328 => ?_)
        · replace h1 := Ok.neg c328 h1
          refine lv_iconst (v := 0) hx hb dL_others_406 rfl ?_
          exact kret_iz hx hb hr rfl hlocks hP hD hS h1 dL_others_407
        · replace h1 := Ok.pos c328 h1
          refine lv_aload_n hx hb dL_others_331 rfl (lv_at hl 7 rfl) ?_
          refine k_get (v := .ref (ad 0)) (C := RL) (T := TL) (N := 4) hx hb hts inL_others_L hown hK hP 0 rfl rfl 0 (by decide) lkL_others_10 rfl dL_others_332 ?_
          refine lv_bipush (v := 7) hx hb dL_others_335 rfl ?_
          refine kh_rS (As := [.ref (ad 0), .int 7]) (rest := []) h1 ⟨hx, hb, hml, hown, hts⟩ (cL_countM l D cy ad hh aa pa H.size u218 7) (vx_cwSW 2 hts gL_others_L_count rfl rfl rfl heL_count ⟨Nat.le_of_ble_eq_true rfl, Nat.le_of_ble_eq_true rfl⟩) hK (k_sel1 (l := [lwW hLn (ad 0) Y.2.1 lbn u55, wF cy ad hh aa pa u218]) (n := 2) 1 [0] rfl rfl (by decide)) hP hD hS hA rfl hl.1 rfl (Nat.le_of_ble_eq_true rfl) dL_others_337 ⟨Nat.zero_le _, Nat.zero_le _⟩ (fun r337 H locs h1 hP hS => ?_)
          refine lv_iload hx hb dL_others_340 (lv_at hl 1 rfl) ?_
          refine lv_aload_n hx hb dL_others_342 rfl (lv_at hl 7 rfl) ?_
          refine k_get (v := .ref (ad 0)) (C := RL) (T := TL) (N := 4) hx hb hts inL_others_L hown hK hP 0 rfl rfl 0 (by decide) lkL_others_10 rfl dL_others_343 ?_
          refine lv_iload hx hb dL_others_346 (lv_at hl 0 rfl) ?_
          refine lv_iconst (v := 1) hx hb dL_others_348 rfl ?_
          refine kh_rS (As := [.ref (ad 0), .int r218, .int 1]) (rest := [.int r48, .int r337]) h1 ⟨hx, hb, hml, hown, hts⟩ (cL_carM l D cy ad hh aa pa H.size u218 r218 1) (vx_cwSW 3 hts gL_others_L_car rfl rfl rfl heL_car ⟨Nat.le_of_ble_eq_true rfl, Nat.le_of_ble_eq_true rfl⟩) hK (k_sel1 (l := [lwW hLn (ad 0) Y.2.1 lbn u55, wF cy ad hh aa pa u218]) (n := 2) 1 [0] rfl rfl (by decide)) hP hD hS hA rfl hl.1 rfl (Nat.le_of_ble_eq_true rfl) dL_others_349 ⟨Nat.zero_le _, Nat.zero_le _⟩ (fun r349 H locs h1 hP hS => ?_)
          refine lv_isub hx hb dL_others_352 ?_
          refine lv_icmp_ne (tgt := 406) hx hb dL_others_353 (by decide) (fun c353 => ?_) (fun c353 => ?_)
          · replace h1 := Ok.neg c353 h1
            refine lv_iconst (v := 0) hx hb dL_others_406 rfl ?_
            exact kret_iz hx hb hr rfl hlocks hP hD hS h1 dL_others_407
          · replace h1 := Ok.pos c353 h1
            refine lv_aload_n hx hb dL_others_356 rfl (lv_at hl 7 rfl) ?_
            refine lv_iconst (v := 2) hx hb dL_others_357 rfl ?_
            refine ky_iV0 (b := hLn) (As := [.int 2]) (rest := []) h1 ⟨hx, hb, hml, hown, hts⟩ (cL_drawM l D cy za zv Y hLn lbn ad hh aa pa H.size u55 u218 2) (cwV 1 hts gL_others_L_draw rfl rfl rfl hdL_draw ⟨Nat.le_of_ble_eq_true rfl, Nat.le_of_ble_eq_true rfl⟩) hY hZ hK hP hD hS hA (q0 := 0) rfl rfl rfl hl.1 rfl (Nat.le_of_ble_eq_true rfl) dL_others_358 ⟨Nat.zero_le _, Nat.zero_le _⟩ (fun r358 u358 H locs h1 hP hD hS => ?_)
            refine lv_if_eq (tgt := 402) hx hb dL_others_361 (by decide) (fun c361 => ?_) (fun c361 => ?_)
            · replace h1 := Ok.pos c361 h1
              refine lv_iconst (v := 1) hx hb dL_others_402 rfl ?_
              refine lv_goto (tgt := 407) hx hb dL_others_403 (by decide) ?_
              exact kret_iz hx hb hr rfl hlocks hP hD hS h1 dL_others_407
            · replace h1 := Ok.neg c361 h1
              refine lv_aload_n hx hb dL_others_364 rfl (lv_at hl 7 rfl) ?_
              refine k_get (v := .ref (ad 0)) (C := RL) (T := TL) (N := 4) hx hb hts inL_others_L hown hK hP 0 rfl rfl 0 (by decide) lkL_others_10 rfl dL_others_365 ?_
              refine kc_iV (b := (ad 0)) (As := []) (rest := []) h1 ⟨hx, hb, hml, hown, hts⟩ (cX9_undoM l D cy ad hh aa pa H.size u218) (cwV 0 hts gL_others_X9_undo rfl rfl rfl hdX9_undo ⟨Nat.le_of_ble_eq_true rfl, Nat.le_of_ble_eq_true rfl⟩) hK (k_sel1 (l := [lwW hLn (ad 0) Y.2.1 lbn u358, wF cy ad hh aa pa u218]) (n := 2) 1 [0] rfl rfl (by decide)) hP hD hS hA (q0 := 0) rfl rfl rfl hl.1 rfl (Nat.le_of_ble_eq_true rfl) dL_others_368 ⟨Nat.zero_le _, Nat.zero_le _⟩ (fun r368 u368 H locs h1 hP hD hS => ?_)
              replace hP := kP_perm (List.Perm.symm (k_sel1 (l := [lwW hLn (ad 0) Y.2.1 lbn u358, wF cy ad hh aa pa u368]) (n := 2) 1 [0] rfl rfl (by decide))) hP
              replace hD := kD_perm (List.Perm.symm (k_sel1 (l := [lwW hLn (ad 0) Y.2.1 lbn u358, wF cy ad hh aa pa u368]) (n := 2) 1 [0] rfl rfl (by decide))) hD
              refine lv_if_lt (tgt := 406) hx hb dL_others_371 (by decide) (fun c371 => ?_) (fun c371 => ?_)
              · replace h1 := Ok.pos c371 h1
                refine lv_iconst (v := 0) hx hb dL_others_406 rfl ?_
                exact kret_iz hx hb hr rfl hlocks hP hD hS h1 dL_others_407
              · replace h1 := Ok.neg c371 h1
                refine lv_aload_n hx hb dL_others_374 rfl (lv_at hl 7 rfl) ?_
                refine k_get (v := .ref (ad 0)) (C := RL) (T := TL) (N := 4) hx hb hts inL_others_L hown hK hP 0 rfl rfl 0 (by decide) lkL_others_10 rfl dL_others_375 ?_
                refine lv_bipush (v := 7) hx hb dL_others_378 rfl ?_
                refine kh_rS (As := [.ref (ad 0), .int 7]) (rest := []) h1 ⟨hx, hb, hml, hown, hts⟩ (cL_countM l D cy ad hh aa pa H.size u368 7) (vx_cwSW 2 hts gL_others_L_count rfl rfl rfl heL_count ⟨Nat.le_of_ble_eq_true rfl, Nat.le_of_ble_eq_true rfl⟩) hK (k_sel1 (l := [lwW hLn (ad 0) Y.2.1 lbn u358, wF cy ad hh aa pa u368]) (n := 2) 1 [0] rfl rfl (by decide)) hP hD hS hA rfl hl.1 rfl (Nat.le_of_ble_eq_true rfl) dL_others_380 ⟨Nat.zero_le _, Nat.zero_le _⟩ (fun r380 H locs h1 hP hS => ?_)
                refine lv_iload hx hb dL_others_383 (lv_at hl 1 rfl) ?_
                refine lv_icmp_ne (tgt := 406) hx hb dL_others_385 (by decide) (fun c385 => ?_) (fun c385 => ?_)
                · replace h1 := Ok.neg c385 h1
                  refine lv_iconst (v := 0) hx hb dL_others_406 rfl ?_
                  exact kret_iz hx hb hr rfl hlocks hP hD hS h1 dL_others_407
                · replace h1 := Ok.pos c385 h1
                  refine lv_aload_n hx hb dL_others_388 rfl (lv_at hl 7 rfl) ?_
                  refine k_get (v := .ref (ad 0)) (C := RL) (T := TL) (N := 4) hx hb hts inL_others_L hown hK hP 0 rfl rfl 0 (by decide) lkL_others_10 rfl dL_others_389 ?_
                  refine lv_iload hx hb dL_others_392 (lv_at hl 0 rfl) ?_
                  refine lv_iconst (v := 2) hx hb dL_others_394 rfl ?_
                  refine kh_rS (As := [.ref (ad 0), .int r218, .int 2]) (rest := []) h1 ⟨hx, hb, hml, hown, hts⟩ (cL_carM l D cy ad hh aa pa H.size u368 r218 2) (vx_cwSW 3 hts gL_others_L_car rfl rfl rfl heL_car ⟨Nat.le_of_ble_eq_true rfl, Nat.le_of_ble_eq_true rfl⟩) hK (k_sel1 (l := [lwW hLn (ad 0) Y.2.1 lbn u358, wF cy ad hh aa pa u368]) (n := 2) 1 [0] rfl rfl (by decide)) hP hD hS hA rfl hl.1 rfl (Nat.le_of_ble_eq_true rfl) dL_others_395 ⟨Nat.zero_le _, Nat.zero_le _⟩ (fun r395 H locs h1 hP hS => ?_)
                  refine lv_iconst (v := 2) hx hb dL_others_398 rfl ?_
                  refine lv_icmp_ne (tgt := 406) hx hb dL_others_399 (by decide) (fun c399 => ?_) (fun c399 => ?_)
                  · replace h1 := Ok.neg c399 h1
                    refine lv_iconst (v := 0) hx hb dL_others_406 rfl ?_
                    exact kret_iz hx hb hr rfl hlocks hP hD hS h1 dL_others_407
                  · replace h1 := Ok.pos c399 h1
                    refine lv_iconst (v := 1) hx hb dL_others_402 rfl ?_
                    refine lv_goto (tgt := 407) hx hb dL_others_403 (by decide) ?_
                    exact kret_iz hx hb hr rfl hlocks hP hD hS h1 dL_others_407
    · replace h1 := Ok.neg c225 h1
      refine lv_iload hx hb dL_others_228 (lv_at hl 0 rfl) ?_
      refine lv_iconst (v := (-1)) hx hb dL_others_230 rfl ?_
      refine lv_icmp_ne (tgt := 256) hx hb dL_others_231 (by decide) (fun c231 => ?_) (fun c231 => ?_)
      · replace h1 := Ok.neg c231 h1
        refine lv_iload hx hb dL_others_256 (lv_at hl 0 rfl) ?_
        refine lv_bipush (v := (-2)) hx hb dL_others_258 rfl ?_
        refine lv_icmp_ne (tgt := 283) hx hb dL_others_260 (by decide) (fun c260 => ?_) (fun c260 => ?_)
        · replace h1 := Ok.neg c260 h1
          refine lv_aload_n hx hb dL_others_283 rfl (lv_at hl 7 rfl) ?_
          refine k_get (v := .ref (ad 0)) (C := RL) (T := TL) (N := 4) hx hb hts inL_others_L hown hK hP 0 rfl rfl 0 (by decide) lkL_others_10 rfl dL_others_284 ?_
          refine lv_iload hx hb dL_others_287 (lv_at hl 2 rfl) ?_
          refine lv_iconst (v := 0) hx hb dL_others_289 rfl ?_
          refine kh_rS (As := [.ref (ad 0), .int r37, .int 0]) (rest := []) h1 ⟨hx, hb, hml, hown, hts⟩ (cL_standingM l D cy ad hh aa pa H.size u218 r37 0) (vx_cwSW 3 hts gL_others_L_standing rfl rfl rfl heL_standing ⟨Nat.le_of_ble_eq_true rfl, Nat.le_of_ble_eq_true rfl⟩) hK (k_sel1 (l := [lwW hLn (ad 0) Y.2.1 lbn u55, wF cy ad hh aa pa u218]) (n := 2) 1 [0] rfl rfl (by decide)) hP hD hS hA rfl hl.1 rfl (Nat.le_of_ble_eq_true rfl) dL_others_290 ⟨Nat.zero_le _, Nat.zero_le _⟩ (fun r290 H locs h1 hP hS => ?_)
          refine lv_if_lt (tgt := 300) hx hb dL_others_293 (by decide) (fun c293 => ?_) (fun c293 => ?_)
          · replace h1 := Ok.pos c293 h1
            refine lv_iconst (v := 0) hx hb dL_others_300 rfl ?_
            exact kret_iz hx hb hr rfl hlocks hP hD hS h1 dL_others_301
          · replace h1 := Ok.neg c293 h1
            refine lv_iconst (v := 1) hx hb dL_others_296 rfl ?_
            refine lv_goto (tgt := 301) hx hb dL_others_297 (by decide) ?_
            exact kret_iz hx hb hr rfl hlocks hP hD hS h1 dL_others_301
        · replace h1 := Ok.pos c260 h1
          refine lv_aload_n hx hb dL_others_263 rfl (lv_at hl 7 rfl) ?_
          refine k_get (v := .ref (ad 0)) (C := RL) (T := TL) (N := 4) hx hb hts inL_others_L hown hK hP 0 rfl rfl 0 (by decide) lkL_others_10 rfl dL_others_264 ?_
          refine lv_bipush (v := 8) hx hb dL_others_267 rfl ?_
          refine kh_rS (As := [.ref (ad 0), .int 8]) (rest := []) h1 ⟨hx, hb, hml, hown, hts⟩ (cL_countM l D cy ad hh aa pa H.size u218 8) (vx_cwSW 2 hts gL_others_L_count rfl rfl rfl heL_count ⟨Nat.le_of_ble_eq_true rfl, Nat.le_of_ble_eq_true rfl⟩) hK (k_sel1 (l := [lwW hLn (ad 0) Y.2.1 lbn u55, wF cy ad hh aa pa u218]) (n := 2) 1 [0] rfl rfl (by decide)) hP hD hS hA rfl hl.1 rfl (Nat.le_of_ble_eq_true rfl) dL_others_269 ⟨Nat.zero_le _, Nat.zero_le _⟩ (fun r269 H locs h1 hP hS => ?_)
          refine lv_if_lt (tgt := 279) hx hb dL_others_272 (by decide) (fun c272 => ?_) (fun c272 => ?_)
          · replace h1 := Ok.pos c272 h1
            refine lv_iconst (v := 0) hx hb dL_others_279 rfl ?_
            refine lv_goto (tgt := 301) hx hb dL_others_280 (by decide) ?_
            exact kret_iz hx hb hr rfl hlocks hP hD hS h1 dL_others_301
          · replace h1 := Ok.neg c272 h1
            refine lv_iconst (v := 1) hx hb dL_others_275 rfl ?_
            refine lv_goto (tgt := 301) hx hb dL_others_276 (by decide) ?_
            exact kret_iz hx hb hr rfl hlocks hP hD hS h1 dL_others_301
      · replace h1 := Ok.pos c231 h1
        refine lv_aload_n hx hb dL_others_234 rfl (lv_at hl 7 rfl) ?_
        refine k_get (v := .ref (ad 0)) (C := RL) (T := TL) (N := 4) hx hb hts inL_others_L hown hK hP 0 rfl rfl 0 (by decide) lkL_others_10 rfl dL_others_235 ?_
        refine lv_iload hx hb dL_others_238 (lv_at hl 2 rfl) ?_
        refine lv_iconst (v := 0) hx hb dL_others_240 rfl ?_
        refine kh_rS (As := [.ref (ad 0), .int r37, .int 0]) (rest := []) h1 ⟨hx, hb, hml, hown, hts⟩ (cL_standingM l D cy ad hh aa pa H.size u218 r37 0) (vx_cwSW 3 hts gL_others_L_standing rfl rfl rfl heL_standing ⟨Nat.le_of_ble_eq_true rfl, Nat.le_of_ble_eq_true rfl⟩) hK (k_sel1 (l := [lwW hLn (ad 0) Y.2.1 lbn u55, wF cy ad hh aa pa u218]) (n := 2) 1 [0] rfl rfl (by decide)) hP hD hS hA rfl hl.1 rfl (Nat.le_of_ble_eq_true rfl) dL_others_241 ⟨Nat.zero_le _, Nat.zero_le _⟩ (fun r241 H locs h1 hP hS => ?_)
        refine lv_iconst (v := (-1)) hx hb dL_others_244 rfl ?_
        refine lv_icmp_ne (tgt := 252) hx hb dL_others_245 (by decide) (fun c245 => ?_) (fun c245 => ?_)
        · replace h1 := Ok.neg c245 h1
          refine lv_iconst (v := 0) hx hb dL_others_252 rfl ?_
          refine lv_goto (tgt := 301) hx hb dL_others_253 (by decide) ?_
          exact kret_iz hx hb hr rfl hlocks hP hD hS h1 dL_others_301
        · replace h1 := Ok.pos c245 h1
          refine lv_iconst (v := 1) hx hb dL_others_248 rfl ?_
          refine lv_goto (tgt := 301) hx hb dL_others_249 (by decide) ?_
          exact kret_iz hx hb hr rfl hlocks hP hD hS h1 dL_others_301
  replace h1 := Ok.neg c58_2 h1
  by_cases c58_3 : r55 = 3
  · replace h1 := Ok.pos c58_3 h1
    refine lv_tableIn (off := 350) (tgt := 408) hx hb dL_others_58 (by rw [c58_3]; decide) (by rw [c58_3]; decide) (by rw [c58_3]; decide) (by decide) ?_
    refine lv_aload_n hx hb dL_others_408 rfl (lv_at hl 6 rfl) ?_
    refine lv_bipush (v := 9) hx hb dL_others_409 rfl ?_
    refine ky_iV0 (b := hLn) (As := [.int 9]) (rest := []) h1 ⟨hx, hb, hml, hown, hts⟩ (cL_drawM l D cy za zv Y hLn lbn ad hh aa pa H.size u55 u 9) (cwV 1 hts gL_others_L_draw rfl rfl rfl hdL_draw ⟨Nat.le_of_ble_eq_true rfl, Nat.le_of_ble_eq_true rfl⟩) hY hZ hK hP hD hS hA (q0 := 0) rfl rfl rfl hl.1 rfl (Nat.le_of_ble_eq_true rfl) dL_others_411 ⟨Nat.zero_le _, Nat.zero_le _⟩ (fun r411 u411 H locs h1 hP hD hS => ?_)
    refine lv_iconst (v := 4) hx hb dL_others_414 rfl ?_
    refine lv_isub hx hb dL_others_415 ?_
    refine lv_istore (lv' := [(7, .int (r411 - 4)), (6, .int r48), (5, .int r37), (4, .int r30), (3, .int (1 + r23)), (2, .int r14), (1, .int r5), (0, .ref hLn)]) hx hb dL_others_416 hl (by decide) rfl (fun ls hl => ?_)
    refine lv_aload_n hx hb dL_others_418 rfl (lv_at hl 7 rfl) ?_
    refine k_get (v := .ref (ad 0)) (C := RL) (T := TL) (N := 4) hx hb hts inL_others_L hown hK hP 0 rfl rfl 0 (by decide) lkL_others_10 rfl dL_others_419 ?_
    refine lv_iconst (v := 4) hx hb dL_others_422 rfl ?_
    refine kh_rS (As := [.ref (ad 0), .int 4]) (rest := []) h1 ⟨hx, hb, hml, hown, hts⟩ (cL_countM l D cy ad hh aa pa H.size u 4) (vx_cwSW 2 hts gL_others_L_count rfl rfl rfl heL_count ⟨Nat.le_of_ble_eq_true rfl, Nat.le_of_ble_eq_true rfl⟩) hK (k_sel1 (l := [lwW hLn (ad 0) Y.2.1 lbn u411, wF cy ad hh aa pa u]) (n := 2) 1 [0] rfl rfl (by decide)) hP hD hS hA rfl hl.1 rfl (Nat.le_of_ble_eq_true rfl) dL_others_423 ⟨Nat.zero_le _, Nat.zero_le _⟩ (fun r423 H locs h1 hP hS => ?_)
    refine lv_istore (lv' := [(8, .int r423), (7, .int (r411 - 4)), (6, .int r48), (5, .int r37), (4, .int r30), (3, .int (1 + r23)), (2, .int r14), (1, .int r5), (0, .ref hLn)]) hx hb dL_others_426 hl (by decide) rfl (fun ls hl => ?_)
    refine lv_aload_n hx hb dL_others_428 rfl (lv_at hl 8 rfl) ?_
    refine k_get (v := .ref (ad 0)) (C := RL) (T := TL) (N := 4) hx hb hts inL_others_L hown hK hP 0 rfl rfl 0 (by decide) lkL_others_10 rfl dL_others_429 ?_
    refine lv_iload hx hb dL_others_432 (lv_at hl 1 rfl) ?_
    refine kh_iS (As := [.ref (ad 0), .int (r411 - 4)]) (rest := []) h1 ⟨hx, hb, hml, hown, hts⟩ (cL_crankM l D cy ad hh aa pa H.size u (r411 - 4)) (vx_cwSW 2 hts gL_others_L_crank rfl rfl rfl heL_crank ⟨Nat.le_of_ble_eq_true rfl, Nat.le_of_ble_eq_true rfl⟩) hK (k_sel1 (l := [lwW hLn (ad 0) Y.2.1 lbn u411, wF cy ad hh aa pa u]) (n := 2) 1 [0] rfl rfl (by decide)) hP hD hS hA rfl hl.1 rfl (Nat.le_of_ble_eq_true rfl) dL_others_434 ⟨Nat.zero_le _, Nat.zero_le _⟩ (fun r434 u434 H locs h1 hP hD hS => ?_)
    replace hP := kP_perm (List.Perm.symm (k_sel1 (l := [lwW hLn (ad 0) Y.2.1 lbn u411, wF cy ad hh aa pa u434]) (n := 2) 1 [0] rfl rfl (by decide))) hP
    replace hD := kD_perm (List.Perm.symm (k_sel1 (l := [lwW hLn (ad 0) Y.2.1 lbn u411, wF cy ad hh aa pa u434]) (n := 2) 1 [0] rfl rfl (by decide))) hD
    refine lv_istore (lv' := [(9, .int r434), (8, .int r423), (7, .int (r411 - 4)), (6, .int r48), (5, .int r37), (4, .int r30), (3, .int (1 + r23)), (2, .int r14), (1, .int r5), (0, .ref hLn)]) hx hb dL_others_437 hl (by decide) rfl (fun ls hl => ?_)
    refine lv_iload hx hb dL_others_439 (lv_at hl 0 rfl) ?_
    refine lv_if_ge (tgt := 481) hx hb dL_others_441 (by decide) (fun c441 => ?_) (fun c441 => ?_)
    · replace h1 := Ok.pos c441 h1
      refine lv_aload_n hx hb dL_others_481 rfl (lv_at hl 9 rfl) ?_
      refine k_get (v := .ref (ad 0)) (C := RL) (T := TL) (N := 4) hx hb hts inL_others_L hown hK hP 0 rfl rfl 0 (by decide) lkL_others_10 rfl dL_others_482 ?_
      refine lv_iconst (v := 4) hx hb dL_others_485 rfl ?_
      refine kh_rS (As := [.ref (ad 0), .int 4]) (rest := []) h1 ⟨hx, hb, hml, hown, hts⟩ (cL_countM l D cy ad hh aa pa H.size u434 4) (vx_cwSW 2 hts gL_others_L_count rfl rfl rfl heL_count ⟨Nat.le_of_ble_eq_true rfl, Nat.le_of_ble_eq_true rfl⟩) hK (k_sel1 (l := [lwW hLn (ad 0) Y.2.1 lbn u411, wF cy ad hh aa pa u434]) (n := 2) 1 [0] rfl rfl (by decide)) hP hD hS hA rfl hl.1 rfl (Nat.le_of_ble_eq_true rfl) dL_others_486 ⟨Nat.zero_le _, Nat.zero_le _⟩ (fun r486 H locs h1 hP hS => ?_)
      refine lv_iload hx hb dL_others_489 (lv_at hl 1 rfl) ?_
      refine lv_iload hx hb dL_others_491 (lv_at hl 2 rfl) ?_
      refine lv_iadd hx hb dL_others_493 ?_
      refine lv_icmp_ne (tgt := 513) hx hb dL_others_494 (by decide) (fun c494 => ?_) (fun c494 => ?_)
      · replace h1 := Ok.neg c494 h1
        refine lv_iconst (v := 0) hx hb dL_others_513 rfl ?_
        exact kret_iz hx hb hr rfl hlocks hP hD hS h1 dL_others_514
      · replace h1 := Ok.pos c494 h1
        refine lv_iload hx hb dL_others_497 (lv_at hl 0 rfl) ?_
        refine lv_aload_n hx hb dL_others_499 rfl (lv_at hl 9 rfl) ?_
        refine k_get (v := .ref (ad 0)) (C := RL) (T := TL) (N := 4) hx hb hts inL_others_L hown hK hP 0 rfl rfl 0 (by decide) lkL_others_10 rfl dL_others_500 ?_
        refine kc_rV (b := (ad 0)) (As := []) (rest := [.int r434]) h1 ⟨hx, hb, hml, hown, hts⟩ (cX9_lipM l D cy ad hh aa pa H.size u434) (cwV 0 hts gL_others_X9_lip rfl rfl rfl hdX9_lip ⟨Nat.le_of_ble_eq_true rfl, Nat.le_of_ble_eq_true rfl⟩) hK (k_sel1 (l := [lwW hLn (ad 0) Y.2.1 lbn u411, wF cy ad hh aa pa u434]) (n := 2) 1 [0] rfl rfl (by decide)) hP hD hS hA (q0 := 0) rfl rfl rfl hl.1 rfl (Nat.le_of_ble_eq_true rfl) dL_others_503 ⟨Nat.zero_le _, Nat.zero_le _⟩ (fun r503 H locs h1 hP hS => ?_)
        refine lv_icmp_ne (tgt := 513) hx hb dL_others_506 (by decide) (fun c506 => ?_) (fun c506 => ?_)
        · replace h1 := Ok.neg c506 h1
          refine lv_iconst (v := 0) hx hb dL_others_513 rfl ?_
          exact kret_iz hx hb hr rfl hlocks hP hD hS h1 dL_others_514
        · replace h1 := Ok.pos c506 h1
          refine lv_iconst (v := 1) hx hb dL_others_509 rfl ?_
          refine lv_goto (tgt := 514) hx hb dL_others_510 (by decide) ?_
          exact kret_iz hx hb hr rfl hlocks hP hD hS h1 dL_others_514
    · replace h1 := Ok.neg c441 h1
      refine lv_iload hx hb dL_others_444 (lv_at hl 0 rfl) ?_
      refine lv_iload hx hb dL_others_446 (lv_at hl 2 rfl) ?_
      refine lv_if_ne (tgt := 455) hx hb dL_others_448 (by decide) (fun c448 => ?_) (fun c448 => ?_)
      · replace h1 := Ok.neg c448 h1
        refine lv_bipush (v := (-2)) hx hb dL_others_455 rfl ?_
        exact tL_others_b457 K E hZ hY r423 r434 (-2) u411 u434 H locs ls (lv_sub hl [9, 1] rfl) hP hD hS h1
      · replace h1 := Ok.pos c448 h1
        refine lv_iconst (v := (-1)) hx hb dL_others_451 rfl ?_
        refine lv_goto (tgt := 457) hx hb dL_others_452 (by decide) ?_
        exact tL_others_b457 K E hZ hY r423 r434 (-1) u411 u434 H locs ls (lv_sub hl [9, 1] rfl) hP hD hS h1
  replace h1 := Ok.neg c58_3 h1
  refine lv_tableOut (tgt := 515) hx hb dL_others_58 (k_tout (x := r55) [0, 1, 2, 3] (by decide) ⟨c58_0, c58_1, c58_2, c58_3, trivial⟩) (by decide) ?_
  refine lv_iload_n hx hb dL_others_515 rfl (lv_at hl 5 rfl) ?_
  refine lv_if_ne (tgt := 521) hx hb dL_others_516 (by decide) (fun c516 => ?_) (fun c516 => ?_)
  · replace h1 := Ok.neg c516 h1
    refine lv_aload_n hx hb dL_others_521 rfl (lv_at hl 6 rfl) ?_
    refine k_get (v := .ref (ad 0)) (C := RL) (T := TL) (N := 4) hx hb hts inL_others_L hown hK hP 0 rfl rfl 0 (by decide) lkL_others_10 rfl dL_others_522 ?_
    refine lv_aload_n hx hb dL_others_525 rfl (lv_at hl 6 rfl) ?_
    refine lv_iload_n hx hb dL_others_526 rfl (lv_at hl 5 rfl) ?_
    refine ky_iV0 (b := hLn) (As := [.int r5]) (rest := [.ref (ad 0)]) h1 ⟨hx, hb, hml, hown, hts⟩ (cL_drawM l D cy za zv Y hLn lbn ad hh aa pa H.size u55 u r5) (cwV 1 hts gL_others_L_draw rfl rfl rfl hdL_draw ⟨Nat.le_of_ble_eq_true rfl, Nat.le_of_ble_eq_true rfl⟩) hY hZ hK hP hD hS hA (q0 := 0) rfl rfl rfl hl.1 rfl (Nat.le_of_ble_eq_true rfl) dL_others_527 ⟨Nat.zero_le _, Nat.zero_le _⟩ (fun r527 u527 H locs h1 hP hD hS => ?_)
    refine kc_rV (b := (ad 0)) (As := [.int r527]) (rest := []) h1 ⟨hx, hb, hml, hown, hts⟩ (cX9_queuedM l D cy ad hh aa pa H.size u r527) (cwV 1 hts gL_others_X9_queued rfl rfl rfl hdX9_queued ⟨Nat.le_of_ble_eq_true rfl, Nat.le_of_ble_eq_true rfl⟩) hK (k_sel1 (l := [lwW hLn (ad 0) Y.2.1 lbn u527, wF cy ad hh aa pa u]) (n := 2) 1 [0] rfl rfl (by decide)) hP hD hS hA (q0 := 0) rfl rfl rfl hl.1 rfl (Nat.le_of_ble_eq_true rfl) dL_others_530 ⟨Nat.zero_le _, Nat.zero_le _⟩ (fun r530 H locs h1 hP hS => ?_)
    refine lv_istore (lv' := [(7, .int r530), (6, .int r48), (5, .int r37), (4, .int r30), (3, .int (1 + r23)), (2, .int r14), (1, .int r5), (0, .ref hLn)]) hx hb dL_others_533 hl (by decide) rfl (fun ls hl => ?_)
    refine lv_aload_n hx hb dL_others_535 rfl (lv_at hl 7 rfl) ?_
    refine k_get (v := .ref (ad 0)) (C := RL) (T := TL) (N := 4) hx hb hts inL_others_L hown hK hP 0 rfl rfl 0 (by decide) lkL_others_10 rfl dL_others_536 ?_
    refine lv_iload hx hb dL_others_539 (lv_at hl 0 rfl) ?_
    refine kh_iS (As := [.ref (ad 0), .int r530]) (rest := []) h1 ⟨hx, hb, hml, hown, hts⟩ (cL_dismissM l D cy ad hh aa pa H.size u r530) (vx_cwSW 2 hts gL_others_L_dismiss rfl rfl rfl heL_dismiss ⟨Nat.le_of_ble_eq_true rfl, Nat.le_of_ble_eq_true rfl⟩) hK (k_sel1 (l := [lwW hLn (ad 0) Y.2.1 lbn u527, wF cy ad hh aa pa u]) (n := 2) 1 [0] rfl rfl (by decide)) hP hD hS hA rfl hl.1 rfl (Nat.le_of_ble_eq_true rfl) dL_others_541 ⟨Nat.zero_le _, Nat.zero_le _⟩ (fun r541 u541 H locs h1 hP hD hS => ?_)
    replace hP := kP_perm (List.Perm.symm (k_sel1 (l := [lwW hLn (ad 0) Y.2.1 lbn u527, wF cy ad hh aa pa u541]) (n := 2) 1 [0] rfl rfl (by decide))) hP
    replace hD := kD_perm (List.Perm.symm (k_sel1 (l := [lwW hLn (ad 0) Y.2.1 lbn u527, wF cy ad hh aa pa u541]) (n := 2) 1 [0] rfl rfl (by decide))) hD
    refine lv_istore (lv' := [(8, .int r541), (7, .int r530), (6, .int r48), (5, .int r37), (4, .int r30), (3, .int (1 + r23)), (2, .int r14), (1, .int r5), (0, .ref hLn)]) hx hb dL_others_544 hl (by decide) rfl (fun ls hl => ?_)
    refine lv_iload hx hb dL_others_546 (lv_at hl 0 rfl) ?_
    refine lv_iload_n hx hb dL_others_548 rfl (lv_at hl 7 rfl) ?_
    refine lv_iconst (v := 1) hx hb dL_others_549 rfl ?_
    refine lv_isub hx hb dL_others_550 ?_
    refine lv_icmp_ne (tgt := 586) hx hb dL_others_551 (by decide) (fun c551 => ?_) (fun c551 => ?_)
    · replace h1 := Ok.neg c551 h1
      refine lv_iconst (v := 0) hx hb dL_others_586 rfl ?_
      exact kret_iz hx hb hr rfl hlocks hP hD hS h1 dL_others_587
    · replace h1 := Ok.pos c551 h1
      refine lv_aload_n hx hb dL_others_554 rfl (lv_at hl 8 rfl) ?_
      refine k_get (v := .ref (ad 0)) (C := RL) (T := TL) (N := 4) hx hb hts inL_others_L hown hK hP 0 rfl rfl 0 (by decide) lkL_others_10 rfl dL_others_555 ?_
      refine lv_iload hx hb dL_others_558 (lv_at hl 1 rfl) ?_
      refine lv_iconst (v := 2) hx hb dL_others_560 rfl ?_
      refine kh_rS (As := [.ref (ad 0), .int r530, .int 2]) (rest := []) h1 ⟨hx, hb, hml, hown, hts⟩ (cL_carM l D cy ad hh aa pa H.size u541 r530 2) (vx_cwSW 3 hts gL_others_L_car rfl rfl rfl heL_car ⟨Nat.le_of_ble_eq_true rfl, Nat.le_of_ble_eq_true rfl⟩) hK (k_sel1 (l := [lwW hLn (ad 0) Y.2.1 lbn u527, wF cy ad hh aa pa u541]) (n := 2) 1 [0] rfl rfl (by decide)) hP hD hS hA rfl hl.1 rfl (Nat.le_of_ble_eq_true rfl) dL_others_561 ⟨Nat.zero_le _, Nat.zero_le _⟩ (fun r561 H locs h1 hP hS => ?_)
      refine lv_iconst (v := 4) hx hb dL_others_564 rfl ?_
      refine lv_icmp_ne (tgt := 586) hx hb dL_others_565 (by decide) (fun c565 => ?_) (fun c565 => ?_)
      · replace h1 := Ok.neg c565 h1
        refine lv_iconst (v := 0) hx hb dL_others_586 rfl ?_
        exact kret_iz hx hb hr rfl hlocks hP hD hS h1 dL_others_587
      · replace h1 := Ok.pos c565 h1
        refine lv_aload_n hx hb dL_others_568 rfl (lv_at hl 8 rfl) ?_
        refine k_get (v := .ref (ad 0)) (C := RL) (T := TL) (N := 4) hx hb hts inL_others_L hown hK hP 0 rfl rfl 0 (by decide) lkL_others_10 rfl dL_others_569 ?_
        refine lv_bipush (v := 7) hx hb dL_others_572 rfl ?_
        refine kh_rS (As := [.ref (ad 0), .int 7]) (rest := []) h1 ⟨hx, hb, hml, hown, hts⟩ (cL_countM l D cy ad hh aa pa H.size u541 7) (vx_cwSW 2 hts gL_others_L_count rfl rfl rfl heL_count ⟨Nat.le_of_ble_eq_true rfl, Nat.le_of_ble_eq_true rfl⟩) hK (k_sel1 (l := [lwW hLn (ad 0) Y.2.1 lbn u527, wF cy ad hh aa pa u541]) (n := 2) 1 [0] rfl rfl (by decide)) hP hD hS hA rfl hl.1 rfl (Nat.le_of_ble_eq_true rfl) dL_others_574 ⟨Nat.zero_le _, Nat.zero_le _⟩ (fun r574 H locs h1 hP hS => ?_)
        refine lv_iload hx hb dL_others_577 (lv_at hl 2 rfl) ?_
        refine lv_icmp_ne (tgt := 586) hx hb dL_others_579 (by decide) (fun c579 => ?_) (fun c579 => ?_)
        · replace h1 := Ok.neg c579 h1
          refine lv_iconst (v := 0) hx hb dL_others_586 rfl ?_
          exact kret_iz hx hb hr rfl hlocks hP hD hS h1 dL_others_587
        · replace h1 := Ok.pos c579 h1
          refine lv_iconst (v := 1) hx hb dL_others_582 rfl ?_
          refine lv_goto (tgt := 587) hx hb dL_others_583 (by decide) ?_
          exact kret_iz hx hb hr rfl hlocks hP hD hS h1 dL_others_587
  · replace h1 := Ok.pos c516 h1
    refine lv_iconst (v := 1) hx hb dL_others_519 rfl ?_
    exact kret_iz hx hb hr rfl hlocks hP hD hS h1 dL_others_520
def fL_others (Y : YB) (un : Int32) (u : FS) : Option (Int32 × Int32 × FS) := fL_others_b0 Y un u
set_option maxHeartbeats 4000000 in
set_option maxRecDepth 100000 in
theorem cL_othersM (l : Launch) (D : va_G) (cy : Nat → ClassId) (za zv : Nat → Nat) (Y : YB) (hLn : Nat) (lbn : Nat) (ad : Nat → Nat) (hh : Nat → Nat) (aa : Nat → Nat → Nat) (pa : Nat → Nat) (sz : Nat) (un : Int32) (u : FS) : ∀ (K : Int32 → Int32 × FS → Prop), Ok (fL_others Y un u) (fun q => K q.1 q.2) → Met l yL_others wsL_others rmL_others (va_Pc [.ref hLn] (kPreY D cy za zv Y sz (([lwW hLn (ad 0) Y.2.1 lbn un, wF cy ad hh aa pa u] : List va_W).flatten))) (va_Qi K (fun q => kPost D (va_A (([lwW hLn (ad 0) Y.2.1 lbn un, wF cy ad hh aa pa u] : List va_W).flatten) sz) (([lwW hLn (ad 0) Y.2.1 lbn q.1, wF cy ad hh aa pa q.2] : List va_W).flatten)) (va_A (([lwW hLn (ad 0) Y.2.1 lbn un, wF cy ad hh aa pa u] : List va_W).flatten) sz)) 0 0 (va_A (([lwW hLn (ad 0) Y.2.1 lbn un, wF cy ad hh aa pa u] : List va_W).flatten) sz) := by
  intro K h1
  refine Met.ofW (cc := cL_others) (maxL := 10) (ret := (some .boolean)) (by decide) rfl ?_
  intro p e s m args below meth c s₁ B hml hv
  obtain ⟨rfl, ⟨⟨hsz, hP, hK, hD0⟩, hZ⟩, hY⟩ := hv
  subst hsz
  have E : mE D cy RL cL_others 10 (some .boolean) wsL_others (va_A (([lwW hLn (ad 0) Y.2.1 lbn un, wF cy ad hh aa pa u] : List va_W).flatten) s.heap.size) p s m _ meth c := ⟨B.exec, B.bytes, B.returns, hml, findClass_of_methodNamed B.named, atoms_spec (ws := wsL_others) B.pre, B.notSynchronized, hK, fun q h => Or.inr h⟩
  have hl := lv_entry ([.ref hLn]) (n := 10) (Nat.le_of_ble_eq_true rfl)
  rw [lg_entry_eq]
  generalize (lg_sl ([.ref hLn]) ++ List.replicate (10 - (lg_sl ([.ref hLn])).length) Slot.unset).toArray = ls at hl ⊢
  exact tL_others_b0 (fun q => K q.1 q.2) E hZ hY un u _ _ _ hl hP hD0.self va_S.rf h1
