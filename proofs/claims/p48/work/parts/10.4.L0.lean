-- L_at
theorem lcL_at_23 : Cond.constant RL 23 (-1640531535) ∈ wsL_at := List.mem_of_getElem? (i := 1) rfl
theorem lcL_at_24 : Cond.constant RL 24 (-2048144789) ∈ wsL_at := List.mem_of_getElem? (i := 2) rfl
abbrev rmL_at : Room := { frames := 0, cells := 0, slots := 0, locals := 0 }
def fL_at_b13 (x1 : Int32) (s0 : Int32) (Y : YB) : Option (Int32) :=
  (if s0 ≤ 0 then some s0 else (if 512 ≤ s0 then some s0 else some ((s0 * (-1640531535)) ^^^ (x1 * (-2048144789)))))
set_option maxHeartbeats 4000000 in
set_option maxRecDepth 100000 in
theorem tL_at_b13 {p : Program} {l : Launch} {e : Env} {s : State} {m : MethodId} {args : Array Value} {below : List Frame} {meth : Method} {c : Code} {D : va_G} {cy : Nat → ClassId} {A : Nat → Prop} {za zv : Nat → Nat} {Y : YB} (K : Int32 → Prop) (E : mE D cy RL cL_at 3 (some .int) wsL_at A p s m args meth c) (hZ : mZ za zv A s s.heap) (hY : mY Y A s s.heap)
     (x1 : Int32) (s0 : Int32) (H : Heap) (locs : List Loc) (ls : Array Slot) (hl : lv_has ls 3 [(1, .int x1)]) (hP : va_P D kCl (([] : va_W)) H) (hD : va_D A (([] : va_W))) (hS : va_S A s.heap H locs) (h1 : Ok (fL_at_b13 x1 s0 Y) K) :
    kW p l e rmL_at s m args below meth c H locs (va_Qi (fun r (_ : Unit) => K r) (fun _ => kPost D A (([] : va_W))) A) A 13 ls [.int s0] := by
  obtain ⟨hx, hb, hr, hml, hown, hts, hlocks, hK, hA⟩ := id E
  unfold fL_at_b13 at h1
  refine lv_istore_n (lv' := [(2, .int s0), (1, .int x1)]) hx hb dL_at_13 rfl hl (by decide) rfl (fun ls hl => ?_)
  refine lv_iload_n hx hb dL_at_14 rfl (lv_at hl 0 rfl) ?_
  refine lv_if_le (tgt := 37) hx hb dL_at_15 (by decide) (fun c15 => ?_) (fun c15 => ?_)
  · replace h1 := Ok.pos c15 h1
    refine lv_iload_n hx hb dL_at_37 rfl (lv_at hl 0 rfl) ?_
    exact kret_r hx hb hr hlocks hP hD hS h1 dL_at_38
  · replace h1 := Ok.neg c15 h1
    refine lv_iload_n hx hb dL_at_18 rfl (lv_at hl 0 rfl) ?_
    refine lv_sipush (v := 512) hx hb dL_at_19 rfl ?_
    refine lv_icmp_ge (tgt := 37) hx hb dL_at_22 (by decide) (fun c22 => ?_) (fun c22 => ?_)
    · replace h1 := Ok.pos c22 h1
      refine lv_iload_n hx hb dL_at_37 rfl (lv_at hl 0 rfl) ?_
      exact kret_r hx hb hr hlocks hP hD hS h1 dL_at_38
    · replace h1 := Ok.neg c22 h1
      refine lv_iload_n hx hb dL_at_25 rfl (lv_at hl 0 rfl) ?_
      refine lv_ldc (v := (-1640531535)) hx hb hown (hts _ lcL_at_23) dL_at_26 ?_
      refine lv_imul hx hb dL_at_28 ?_
      refine lv_iload_n hx hb dL_at_29 rfl (lv_at hl 1 rfl) ?_
      refine lv_ldc (v := (-2048144789)) hx hb hown (hts _ lcL_at_24) dL_at_30 ?_
      refine lv_imul hx hb dL_at_32 ?_
      refine lv_ixor hx hb dL_at_33 ?_
      refine lv_goto (tgt := 38) hx hb dL_at_34 (by decide) ?_
      exact kret_r hx hb hr hlocks hP hD hS h1 dL_at_38
def fL_at_b0 (x1 : Int32) (Y : YB) : Option (Int32) :=
  (if (nI Y.2.2.1) ≤ x1 then fL_at_b13 x1 0 Y else grd (inb x1 Y.2.2.1) (fL_at_b13 x1 (Y.2.2.2 (ix x1)) Y))
set_option maxHeartbeats 4000000 in
set_option maxRecDepth 100000 in
theorem tL_at_b0 {p : Program} {l : Launch} {e : Env} {s : State} {m : MethodId} {args : Array Value} {below : List Frame} {meth : Method} {c : Code} {D : va_G} {cy : Nat → ClassId} {A : Nat → Prop} {za zv : Nat → Nat} {Y : YB} (K : Int32 → Prop) (E : mE D cy RL cL_at 3 (some .int) wsL_at A p s m args meth c) (hZ : mZ za zv A s s.heap) (hY : mY Y A s s.heap)
     (x1 : Int32) (H : Heap) (locs : List Loc) (ls : Array Slot) (hl : lv_has ls 3 [(0, .ref Y.2.1), (1, .int x1)]) (hP : va_P D kCl (([] : va_W)) H) (hD : va_D A (([] : va_W))) (hS : va_S A s.heap H locs) (h1 : Ok (fL_at_b0 x1 Y) K) :
    kW p l e rmL_at s m args below meth c H locs (va_Qi (fun r (_ : Unit) => K r) (fun _ => kPost D A (([] : va_W))) A) A 0 ls [] := by
  obtain ⟨hx, hb, hr, hml, hown, hts, hlocks, hK, hA⟩ := id E
  unfold fL_at_b0 at h1
  refine lv_iload_n hx hb dL_at_0 rfl (lv_at hl 1 rfl) ?_
  refine lv_aload_n hx hb dL_at_1 rfl (lv_at hl 0 rfl) ?_
  refine va_tlen hx hb hY.2.2.2.2.2 hS (v := nI Y.2.2.1) rfl dL_at_2 ?_
  refine lv_icmp_ge (tgt := 12) hx hb dL_at_3 (by decide) (fun c3 => ?_) (fun c3 => ?_)
  · replace h1 := Ok.pos c3 h1
    refine lv_iconst (v := 0) hx hb dL_at_12 rfl ?_
    exact tL_at_b13 K E hZ hY x1 0 H locs ls (lv_sub hl [1] rfl) hP hD hS h1
  · replace h1 := Ok.neg c3 h1
    refine lv_aload_n hx hb dL_at_6 rfl (lv_at hl 0 rfl) ?_
    refine lv_iload_n hx hb dL_at_7 rfl (lv_at hl 1 rfl) ?_
    have g8 := h1.grd1
    replace h1 := h1.grd2
    refine va_ti hx hb hY.2.2.2.2.2 hS (v := .int (Y.2.2.2 (ix x1))) (inb_vp g8) rfl dL_at_8 ?_
    refine lv_goto (tgt := 13) hx hb dL_at_9 (by decide) ?_
    exact tL_at_b13 K E hZ hY x1 (Y.2.2.2 (ix x1)) H locs ls (lv_sub hl [1] rfl) hP hD hS h1
def fL_at (p1 : Int32) (Y : YB) : Option (Int32) := fL_at_b0 p1 Y
set_option maxHeartbeats 4000000 in
set_option maxRecDepth 100000 in
theorem cL_atM (l : Launch) (D : va_G) (cy : Nat → ClassId) (za zv : Nat → Nat) (Y : YB) (sz : Nat) (p1 : Int32) : ∀ (K : Int32 → Prop), Ok (fL_at p1 Y) K → Met l yL_at wsL_at rmL_at (va_Pc [.ref Y.2.1, .int p1] (kPreY D cy za zv Y sz (([] : va_W)))) (va_Qi (fun r (_ : Unit) => K r) (fun _ => kPost D (va_A (([] : va_W)) sz) (([] : va_W))) (va_A (([] : va_W)) sz)) 0 0 (va_A (([] : va_W)) sz) := by
  intro K h1
  refine Met.ofW (cc := cL_at) (maxL := 3) (ret := (some .int)) (by decide) rfl ?_
  intro p e s m args below meth c s₁ B hml hv
  obtain ⟨rfl, ⟨⟨hsz, hP, hK, hD0⟩, hZ⟩, hY⟩ := hv
  subst hsz
  have E : mE D cy RL cL_at 3 (some .int) wsL_at (va_A (([] : va_W)) s.heap.size) p s m _ meth c := ⟨B.exec, B.bytes, B.returns, hml, findClass_of_methodNamed B.named, atoms_spec (ws := wsL_at) B.pre, B.notSynchronized, hK, fun q h => Or.inr h⟩
  have hl := lv_entry ([.ref Y.2.1, .int p1]) (n := 3) (Nat.le_of_ble_eq_true rfl)
  rw [lg_entry_eq]
  generalize (lg_sl ([.ref Y.2.1, .int p1]) ++ List.replicate (3 - (lg_sl ([.ref Y.2.1, .int p1])).length) Slot.unset).toArray = ls at hl ⊢
  exact tL_at_b0 K E hZ hY p1 _ _ _ hl hP hD0.self va_S.rf h1
-- L_draw
theorem inL_draw_L : ∀ w ∈ u_ws RL TL 4, w ∈ wsL_draw := k_lays 16 rfl
theorem lkL_draw_25 : Cond.fieldLink RL 25 "FerryRampLaw" "ints" "[I" ∈ wsL_draw := List.mem_of_getElem? (i := 1) rfl
theorem lkL_draw_29 : Cond.fieldLink RL 29 "FerryRampLaw" "next" "I" ∈ wsL_draw := List.mem_of_getElem? (i := 2) rfl
theorem heL_at : yL_at.cls ≠ "java/lang/invoke/MethodHandle" ∧ yL_at.cls ≠ "java/lang/invoke/VarHandle" ∧ (parseMethodDescriptor yL_at.desc).map (fun d => d.parameters.length) = some 2 := by decide +kernel
theorem lcL_draw_43 : Cond.constant RL 43 (668265263) ∈ wsL_draw := List.mem_of_getElem? (i := 7) rfl
theorem lcL_draw_44 : Cond.constant RL 44 (739982445) ∈ wsL_draw := List.mem_of_getElem? (i := 8) rfl
theorem lcL_draw_45 : Cond.constant RL 45 (2147483647) ∈ wsL_draw := List.mem_of_getElem? (i := 9) rfl
abbrev rmL_draw : Room := { frames := 1, cells := 0, slots := 0, locals := 40 }
def fL_draw_b0 (x1 : Int32) (Y : YB) (un : Int32) (u : FS) : Option (Int32 × Int32) :=
  grd (nz (if 1 < (nI Y.2.2.1) then (nI Y.2.2.1) else 1)) (bnd (fL_at ((lwN un) - (lwN un) / (if 1 < (nI Y.2.2.1) then (nI Y.2.2.1) else 1) * (if 1 < (nI Y.2.2.1) then (nI Y.2.2.1) else 1)) Y) (fun r18 => grd (nz x1) (some ((((((r18 + ((lwN un) * 668265263)) ^^^ ((Int32.toUInt32 (r18 + ((lwN un) * 668265263)) >>> (Int32.toUInt32 (15) &&& Int32.toUInt32 31)).toInt32)) * 739982445) ^^^ ((Int32.toUInt32 (((r18 + ((lwN un) * 668265263)) ^^^ ((Int32.toUInt32 (r18 + ((lwN un) * 668265263)) >>> (Int32.toUInt32 (15) &&& Int32.toUInt32 31)).toInt32)) * 739982445) >>> (Int32.toUInt32 (13) &&& Int32.toUInt32 31)).toInt32)) &&& 2147483647) - (((((r18 + ((lwN un) * 668265263)) ^^^ ((Int32.toUInt32 (r18 + ((lwN un) * 668265263)) >>> (Int32.toUInt32 (15) &&& Int32.toUInt32 31)).toInt32)) * 739982445) ^^^ ((Int32.toUInt32 (((r18 + ((lwN un) * 668265263)) ^^^ ((Int32.toUInt32 (r18 + ((lwN un) * 668265263)) >>> (Int32.toUInt32 (15) &&& Int32.toUInt32 31)).toInt32)) * 739982445) >>> (Int32.toUInt32 (13) &&& Int32.toUInt32 31)).toInt32)) &&& 2147483647) / x1 * x1, lwNs un ((lwN un) + 1)))))
set_option maxHeartbeats 4000000 in
set_option maxRecDepth 100000 in
theorem tL_draw_b0 {p : Program} {l : Launch} {e : Env} {s : State} {m : MethodId} {args : Array Value} {below : List Frame} {meth : Method} {c : Code} {D : va_G} {cy : Nat → ClassId} {A : Nat → Prop} {hLn : Nat} {lbn : Nat} {ad : Nat → Nat} {hh : Nat → Nat} {aa : Nat → Nat → Nat} {pa : Nat → Nat} {za zv : Nat → Nat} {Y : YB} (K : Int32 × Int32 → Prop) (E : mE D cy RL cL_draw 3 (some .int) wsL_draw A p s m args meth c) (hZ : mZ za zv A s s.heap) (hY : mY Y A s s.heap) (u : FS)
     (x1 : Int32) (un : Int32) (H : Heap) (locs : List Loc) (ls : Array Slot) (hl : lv_has ls 3 [(0, .ref hLn), (1, .int x1)]) (hP : va_P D kCl (([lwW hLn (ad 0) Y.2.1 lbn un, wF cy ad hh aa pa u] : List va_W).flatten) H) (hD : va_D A (([lwW hLn (ad 0) Y.2.1 lbn un, wF cy ad hh aa pa u] : List va_W).flatten)) (hS : va_S A s.heap H locs) (h1 : Ok (fL_draw_b0 x1 Y un u) K) :
    kW p l e rmL_draw s m args below meth c H locs (va_Qi (fun r q => K (r, q)) (fun q => kPost D A (([lwW hLn (ad 0) Y.2.1 lbn q, wF cy ad hh aa pa u] : List va_W).flatten)) A) A 0 ls [] := by
  obtain ⟨hx, hb, hr, hml, hown, hts, hlocks, hK, hA⟩ := id E
  unfold fL_draw_b0 at h1
  refine lv_aload_n hx hb dL_draw_0 rfl (lv_at hl 0 rfl) ?_
  refine k_get (v := .ref Y.2.1) (C := RL) (T := TL) (N := 4) hx hb hts inL_draw_L hown hK hP 0 rfl rfl 1 (by decide) lkL_draw_25 rfl dL_draw_1 ?_
  refine lv_aload_n hx hb dL_draw_4 rfl (lv_at hl 0 rfl) ?_
  refine k_get (v := .int (lwN un)) (C := RL) (T := TL) (N := 4) hx hb hts inL_draw_L hown hK hP 0 rfl rfl 2 (by decide) lkL_draw_29 rfl dL_draw_5 ?_
  refine lv_iconst (v := 1) hx hb dL_draw_8 rfl ?_
  refine lv_aload_n hx hb dL_draw_9 rfl (lv_at hl 0 rfl) ?_
  refine k_get (v := .ref Y.2.1) (C := RL) (T := TL) (N := 4) hx hb hts inL_draw_L hown hK hP 0 rfl rfl 1 (by decide) lkL_draw_25 rfl dL_draw_10 ?_
  refine va_tlen hx hb hY.2.2.2.2.2 hS (v := nI Y.2.2.1) rfl dL_draw_13 ?_
  refine va_mmax hx hb (hml.trans hl.1.symm) hown (hts _ (List.mem_of_getElem? (i := 3) rfl)) (hts _ (List.mem_of_getElem? (i := 4) rfl)) (hts _ (List.mem_of_getElem? (i := 5) rfl)) (hts _ (List.mem_of_getElem? (i := 6) rfl)) (Nat.le_of_ble_eq_true rfl) (Nat.le_of_ble_eq_true rfl) (Nat.zero_le _) (Nat.zero_le _) dL_draw_14 ?_
  have g17 := h1.grd1
  replace h1 := h1.grd2
  refine lv_irem hx hb dL_draw_17 (nz_ne g17) ?_
  refine ky_rS (As := [.ref Y.2.1, .int ((lwN un) - (lwN un) / (if 1 < (nI Y.2.2.1) then (nI Y.2.2.1) else 1) * (if 1 < (nI Y.2.2.1) then (nI Y.2.2.1) else 1))]) (rest := []) (wc := []) (wr := _) h1 ⟨hx, hb, hml, hown, hts⟩ (cL_atM l D cy za zv Y H.size ((lwN un) - (lwN un) / (if 1 < (nI Y.2.2.1) then (nI Y.2.2.1) else 1) * (if 1 < (nI Y.2.2.1) then (nI Y.2.2.1) else 1))) (va_cwS 2 hts gL_draw_L_at rfl rfl rfl heL_at ⟨Nat.le_of_ble_eq_true rfl, Nat.le_of_ble_eq_true rfl⟩) hY hZ hK (List.Perm.refl _) hP hD hS hA rfl hl.1 rfl (Nat.le_of_ble_eq_true rfl) dL_draw_18 ⟨Nat.zero_le _, Nat.zero_le _⟩ (fun r18 H locs h1 hP hS => ?_)
  refine lv_aload_n hx hb dL_draw_21 rfl (lv_at hl 0 rfl) ?_
  refine k_get (v := .int (lwN un)) (C := RL) (T := TL) (N := 4) hx hb hts inL_draw_L hown hK hP 0 rfl rfl 2 (by decide) lkL_draw_29 rfl dL_draw_22 ?_
  refine lv_ldc (v := 668265263) hx hb hown (hts _ lcL_draw_43) dL_draw_25 ?_
  refine lv_imul hx hb dL_draw_27 ?_
  refine lv_iadd hx hb dL_draw_28 ?_
  refine lv_istore_n (lv' := [(2, .int (r18 + ((lwN un) * 668265263))), (0, .ref hLn), (1, .int x1)]) hx hb dL_draw_29 rfl hl (by decide) rfl (fun ls hl => ?_)
  refine lv_aload_n hx hb dL_draw_30 rfl (lv_at hl 1 rfl) ?_
  refine lv_dup hx hb dL_draw_31 rfl ?_
  refine k_get (v := .int (lwN un)) (C := RL) (T := TL) (N := 4) hx hb hts inL_draw_L hown hK hP 0 rfl rfl 2 (by decide) lkL_draw_29 rfl dL_draw_32 ?_
  refine lv_iconst (v := 1) hx hb dL_draw_35 rfl ?_
  refine lv_iadd hx hb dL_draw_36 ?_
  refine k_put (v := .int ((lwN un) + 1)) (ty := .int) (C := RL) (T := TL) (N := 4) hx hb hts inL_draw_L tyL tyL_ok nmL hown hK hP hD hS 0 rfl rfl 2 (by decide) lkL_draw_29 rfl (by decide +kernel) rfl rfl (Nat.le_of_ble_eq_true rfl) (ws' := ([lwW hLn (ad 0) Y.2.1 lbn (lwNs un ((lwN un) + 1)), wF cy ad hh aa pa u] : List va_W).flatten) rfl dL_draw_37 (fun H locs hP hD hS => ?_)
  refine lv_iload_n hx hb dL_draw_40 rfl (lv_at hl 0 rfl) ?_
  refine lv_iload_n hx hb dL_draw_41 rfl (lv_at hl 0 rfl) ?_
  refine lv_bipush (v := 15) hx hb dL_draw_42 rfl ?_
  refine lv_iushr hx hb dL_draw_44 rfl ?_
  refine lv_ixor hx hb dL_draw_45 ?_
  refine lv_istore_n (lv' := [(2, .int ((r18 + ((lwN un) * 668265263)) ^^^ ((Int32.toUInt32 (r18 + ((lwN un) * 668265263)) >>> (Int32.toUInt32 (15) &&& Int32.toUInt32 31)).toInt32))), (0, .ref hLn), (1, .int x1)]) hx hb dL_draw_46 rfl hl (by decide) rfl (fun ls hl => ?_)
  refine lv_iload_n hx hb dL_draw_47 rfl (lv_at hl 0 rfl) ?_
  refine lv_ldc (v := 739982445) hx hb hown (hts _ lcL_draw_44) dL_draw_48 ?_
  refine lv_imul hx hb dL_draw_50 ?_
  refine lv_istore_n (lv' := [(2, .int (((r18 + ((lwN un) * 668265263)) ^^^ ((Int32.toUInt32 (r18 + ((lwN un) * 668265263)) >>> (Int32.toUInt32 (15) &&& Int32.toUInt32 31)).toInt32)) * 739982445)), (0, .ref hLn), (1, .int x1)]) hx hb dL_draw_51 rfl hl (by decide) rfl (fun ls hl => ?_)
  refine lv_iload_n hx hb dL_draw_52 rfl (lv_at hl 0 rfl) ?_
  refine lv_iload_n hx hb dL_draw_53 rfl (lv_at hl 0 rfl) ?_
  refine lv_bipush (v := 13) hx hb dL_draw_54 rfl ?_
  refine lv_iushr hx hb dL_draw_56 rfl ?_
  refine lv_ixor hx hb dL_draw_57 ?_
  refine lv_istore_n (lv' := [(2, .int ((((r18 + ((lwN un) * 668265263)) ^^^ ((Int32.toUInt32 (r18 + ((lwN un) * 668265263)) >>> (Int32.toUInt32 (15) &&& Int32.toUInt32 31)).toInt32)) * 739982445) ^^^ ((Int32.toUInt32 (((r18 + ((lwN un) * 668265263)) ^^^ ((Int32.toUInt32 (r18 + ((lwN un) * 668265263)) >>> (Int32.toUInt32 (15) &&& Int32.toUInt32 31)).toInt32)) * 739982445) >>> (Int32.toUInt32 (13) &&& Int32.toUInt32 31)).toInt32))), (0, .ref hLn), (1, .int x1)]) hx hb dL_draw_58 rfl hl (by decide) rfl (fun ls hl => ?_)
  refine lv_iload_n hx hb dL_draw_59 rfl (lv_at hl 0 rfl) ?_
  refine lv_ldc (v := 2147483647) hx hb hown (hts _ lcL_draw_45) dL_draw_60 ?_
  refine lv_iand hx hb dL_draw_62 ?_
  refine lv_iload_n hx hb dL_draw_63 rfl (lv_at hl 2 rfl) ?_
  have g64 := h1.grd1
  replace h1 := h1.grd2
  refine lv_irem hx hb dL_draw_64 (nz_ne g64) ?_
  exact kret_i hx hb hr hlocks hP hD hS h1 dL_draw_65
def fL_draw (p1 : Int32) (Y : YB) (un : Int32) (u : FS) : Option (Int32 × Int32) := fL_draw_b0 p1 Y un u
set_option maxHeartbeats 4000000 in
set_option maxRecDepth 100000 in
theorem cL_drawM (l : Launch) (D : va_G) (cy : Nat → ClassId) (za zv : Nat → Nat) (Y : YB) (hLn : Nat) (lbn : Nat) (ad : Nat → Nat) (hh : Nat → Nat) (aa : Nat → Nat → Nat) (pa : Nat → Nat) (sz : Nat) (un : Int32) (u : FS) (p1 : Int32) : ∀ (K : Int32 → Int32 → Prop), Ok (fL_draw p1 Y un u) (fun q => K q.1 q.2) → Met l yL_draw wsL_draw rmL_draw (va_Pc [.ref hLn, .int p1] (kPreY D cy za zv Y sz (([lwW hLn (ad 0) Y.2.1 lbn un, wF cy ad hh aa pa u] : List va_W).flatten))) (va_Qi K (fun q => kPost D (va_A (([lwW hLn (ad 0) Y.2.1 lbn un, wF cy ad hh aa pa u] : List va_W).flatten) sz) (([lwW hLn (ad 0) Y.2.1 lbn q, wF cy ad hh aa pa u] : List va_W).flatten)) (va_A (([lwW hLn (ad 0) Y.2.1 lbn un, wF cy ad hh aa pa u] : List va_W).flatten) sz)) 0 0 (va_A (([lwW hLn (ad 0) Y.2.1 lbn un, wF cy ad hh aa pa u] : List va_W).flatten) sz) := by
  intro K h1
  refine Met.ofW (cc := cL_draw) (maxL := 3) (ret := (some .int)) (by decide) rfl ?_
  intro p e s m args below meth c s₁ B hml hv
  obtain ⟨rfl, ⟨⟨hsz, hP, hK, hD0⟩, hZ⟩, hY⟩ := hv
  subst hsz
  have E : mE D cy RL cL_draw 3 (some .int) wsL_draw (va_A (([lwW hLn (ad 0) Y.2.1 lbn un, wF cy ad hh aa pa u] : List va_W).flatten) s.heap.size) p s m _ meth c := ⟨B.exec, B.bytes, B.returns, hml, findClass_of_methodNamed B.named, atoms_spec (ws := wsL_draw) B.pre, B.notSynchronized, hK, fun q h => Or.inr h⟩
  have hl := lv_entry ([.ref hLn, .int p1]) (n := 3) (Nat.le_of_ble_eq_true rfl)
  rw [lg_entry_eq]
  generalize (lg_sl ([.ref hLn, .int p1]) ++ List.replicate (3 - (lg_sl ([.ref hLn, .int p1])).length) Slot.unset).toArray = ls at hl ⊢
  exact tL_draw_b0 (fun q => K q.1 q.2) E hZ hY u p1 un _ _ _ hl hP hD0.self va_S.rf h1
