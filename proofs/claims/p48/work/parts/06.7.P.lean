-- X6_addByte
theorem inX6_addByte_X6 : ∀ w ∈ u_ws RX6 TX6 11, w ∈ wsX6_addByte := k_lays 3 rfl
theorem lkX6_addByte_15 : Cond.fieldLink RX6 15 "FerryRamp$Parser" "length" "I" ∈ wsX6_addByte := List.mem_of_getElem? (i := 1) rfl
theorem lkX6_addByte_9 : Cond.fieldLink RX6 9 "FerryRamp$Parser" "bytes" "[I" ∈ wsX6_addByte := List.mem_of_getElem? (i := 2) rfl
abbrev rmX6_addByte : Room := { frames := 0, cells := 0, slots := 0, locals := 0 }
def fX6_addByte_b0 (x1 : Int32) (u : PS) : Option (PS) :=
  (if (pLe u) < 0 then some u else (if 500 ≤ (pLe u) then some u else grd (inb (pLe u) 500) (some (tLe (tBy u (ix (pLe u)) x1) ((pLe (tBy u (ix (pLe u)) x1)) + 1)))))
set_option maxHeartbeats 4000000 in
set_option maxRecDepth 100000 in
theorem tX6_addByte_b0 {p : Program} {l : Launch} {e : Env} {s : State} {m : MethodId} {args : Array Value} {below : List Frame} {meth : Method} {c : Code} {D : va_G} {cy : Nat → ClassId} {A : Nat → Prop} {g : Nat → Nat} (K : PS → Prop) (E : mE D cy RX6 cX6_addByte 2 none wsX6_addByte A p s m args meth c)
     (x1 : Int32) (u : PS) (H : Heap) (locs : List Loc) (ls : Array Slot) (hl : lv_has ls 2 [(0, .ref (g 0)), (1, .int x1)]) (hP : va_P D kCl (wP cy g u) H) (hD : va_D A (wP cy g u)) (hS : va_S A s.heap H locs) (h1 : Ok (fX6_addByte_b0 x1 u) K) :
    kW p l e rmX6_addByte s m args below meth c H locs (va_Qv K (fun q => kPost D A (wP cy g q)) A) A 0 ls [] := by
  obtain ⟨hx, hb, hr, hml, hown, hts, hlocks, hK, hA⟩ := id E
  unfold fX6_addByte_b0 at h1
  refine lv_aload_n hx hb dX6_addByte_0 rfl (lv_at hl 0 rfl) ?_
  refine k_get (v := .int (pLe u)) (C := RX6) (T := TX6) (N := 11) hx hb hts inX6_addByte_X6 hown hK hP 0 (wP_a0 _ _ _) rfl 1 (by decide) lkX6_addByte_15 (pFs_1 _ _) dX6_addByte_1 ?_
  refine lv_if_lt (tgt := 39) hx hb dX6_addByte_4 (by decide) (fun c4 => ?_) (fun c4 => ?_)
  · replace h1 := Ok.pos c4 h1
    exact kret_v hx hb hr hlocks hP hD hS h1 dX6_addByte_39
  · replace h1 := Ok.neg c4 h1
    refine lv_aload_n hx hb dX6_addByte_7 rfl (lv_at hl 0 rfl) ?_
    refine k_get (v := .int (pLe u)) (C := RX6) (T := TX6) (N := 11) hx hb hts inX6_addByte_X6 hown hK hP 0 (wP_a0 _ _ _) rfl 1 (by decide) lkX6_addByte_15 (pFs_1 _ _) dX6_addByte_8 ?_
    refine lv_aload_n hx hb dX6_addByte_11 rfl (lv_at hl 0 rfl) ?_
    refine k_get (v := .ref (g 1)) (C := RX6) (T := TX6) (N := 11) hx hb hts inX6_addByte_X6 hown hK hP 0 (wP_a0 _ _ _) rfl 0 (by decide) lkX6_addByte_9 (pFs_0 _ _) dX6_addByte_12 ?_
    refine va_alen (v := 500) hx hb hK.1 hP 1 0 (wP_a1 _ _ _) rfl rfl dX6_addByte_15 ?_
    refine lv_icmp_ge (tgt := 39) hx hb dX6_addByte_16 (by decide) (fun c16 => ?_) (fun c16 => ?_)
    · replace h1 := Ok.pos c16 h1
      exact kret_v hx hb hr hlocks hP hD hS h1 dX6_addByte_39
    · replace h1 := Ok.neg c16 h1
      refine lv_aload_n hx hb dX6_addByte_19 rfl (lv_at hl 0 rfl) ?_
      refine k_get (v := .ref (g 1)) (C := RX6) (T := TX6) (N := 11) hx hb hts inX6_addByte_X6 hown hK hP 0 (wP_a0 _ _ _) rfl 0 (by decide) lkX6_addByte_9 (pFs_0 _ _) dX6_addByte_20 ?_
      refine lv_aload_n hx hb dX6_addByte_23 rfl (lv_at hl 0 rfl) ?_
      refine k_get (v := .int (pLe u)) (C := RX6) (T := TX6) (N := 11) hx hb hts inX6_addByte_X6 hown hK hP 0 (wP_a0 _ _ _) rfl 1 (by decide) lkX6_addByte_15 (pFs_1 _ _) dX6_addByte_24 ?_
      refine lv_iload_n hx hb dX6_addByte_27 rfl (lv_at hl 1 rfl) ?_
      have g28 := h1.grd1
      replace h1 := h1.grd2
      refine k_iast (k := (ix (pLe u))) (ws' := wP cy g (tBy u (ix (pLe u)) x1)) hx hb hK hP hD hS 1 (wP_a1 _ _ _) g28 rfl (wP_tBy _ _ _ _ _) dX6_addByte_28 (fun H locs hP hD hS => ?_)
      refine lv_aload_n hx hb dX6_addByte_29 rfl (lv_at hl 0 rfl) ?_
      refine lv_dup hx hb dX6_addByte_30 rfl ?_
      refine k_get (v := .int (pLe (tBy u (ix (pLe u)) x1))) (C := RX6) (T := TX6) (N := 11) hx hb hts inX6_addByte_X6 hown hK hP 0 (wP_a0 _ _ _) rfl 1 (by decide) lkX6_addByte_15 (pFs_1 _ _) dX6_addByte_31 ?_
      refine lv_iconst (v := 1) hx hb dX6_addByte_34 rfl ?_
      refine lv_iadd hx hb dX6_addByte_35 ?_
      refine k_put (v := .int ((pLe (tBy u (ix (pLe u)) x1)) + 1)) (ty := .int) (C := RX6) (T := TX6) (N := 11) hx hb hts inX6_addByte_X6 tyX6 tyX6_ok nmX6 hown hK hP hD hS 0 (wP_a0 _ _ _) rfl 1 (by decide) lkX6_addByte_15 rfl (by decide +kernel) rfl rfl (Nat.le_of_ble_eq_true rfl) (ws' := wP cy g (tLe (tBy u (ix (pLe u)) x1) ((pLe (tBy u (ix (pLe u)) x1)) + 1))) (wP_tLe _ _ _ _) dX6_addByte_36 (fun H locs hP hD hS => ?_)
      exact kret_v hx hb hr hlocks hP hD hS h1 dX6_addByte_39
def fX6_addByte (p1 : Int32) (u : PS) : Option (PS) := fX6_addByte_b0 p1 u
set_option maxHeartbeats 4000000 in
set_option maxRecDepth 100000 in
theorem cX6_addByteM (l : Launch) (D : va_G) (cy : Nat → ClassId) (g : Nat → Nat) (sz : Nat) (u : PS) (p1 : Int32) : ∀ (K : PS → Prop), Ok (fX6_addByte p1 u) K → Met l yX6_addByte wsX6_addByte rmX6_addByte (va_Pc [.ref (g 0), .int p1] (kPre D cy sz (wP cy g u))) (va_Qv K (fun q => kPost D (va_A (wP cy g u) sz) (wP cy g q)) (va_A (wP cy g u) sz)) 0 0 (va_A (wP cy g u) sz) := by
  intro K h1
  refine Met.ofW (cc := cX6_addByte) (maxL := 2) (ret := none) (by decide) rfl ?_
  intro p e s m args below meth c s₁ B hml hv
  obtain ⟨rfl, hsz, hP, hK, hD0⟩ := hv
  subst hsz
  have E : mE D cy RX6 cX6_addByte 2 none wsX6_addByte (va_A (wP cy g u) s.heap.size) p s m _ meth c := ⟨B.exec, B.bytes, B.returns, hml, findClass_of_methodNamed B.named, atoms_spec (ws := wsX6_addByte) B.pre, B.notSynchronized, hK, fun q h => Or.inr h⟩
  have hl := lv_entry ([.ref (g 0), .int p1]) (n := 2) (Nat.le_of_ble_eq_true rfl)
  rw [lg_entry_eq]
  generalize (lg_sl ([.ref (g 0), .int p1]) ++ List.replicate (2 - (lg_sl ([.ref (g 0), .int p1])).length) Slot.unset).toArray = ls at hl ⊢
  exact tX6_addByte_b0 K E p1 u _ _ _ hl hP hD0.self va_S.rf h1
-- X6_typeAt
theorem inX6_typeAt_X6 : ∀ w ∈ u_ws RX6 TX6 11, w ∈ wsX6_typeAt := k_lays 3 rfl
theorem lkX6_typeAt_15 : Cond.fieldLink RX6 15 "FerryRamp$Parser" "length" "I" ∈ wsX6_typeAt := List.mem_of_getElem? (i := 1) rfl
theorem lkX6_typeAt_9 : Cond.fieldLink RX6 9 "FerryRamp$Parser" "bytes" "[I" ∈ wsX6_typeAt := List.mem_of_getElem? (i := 2) rfl
abbrev rmX6_typeAt : Room := { frames := 0, cells := 0, slots := 0, locals := 0 }
def fX6_typeAt_b58 (x2 : Int32) (u : PS) : Option (Int32) :=
  (if x2 = 45 then some 3 else (if x2 = 59 then some 4 else (if x2 = 32 then some 5 else (if x2 = 10 then some 5 else some 6))))
set_option maxHeartbeats 4000000 in
set_option maxRecDepth 100000 in
theorem tX6_typeAt_b58 {p : Program} {l : Launch} {e : Env} {s : State} {m : MethodId} {args : Array Value} {below : List Frame} {meth : Method} {c : Code} {D : va_G} {cy : Nat → ClassId} {A : Nat → Prop} {g : Nat → Nat} (K : Int32 → Prop) (E : mE D cy RX6 cX6_typeAt 3 (some .int) wsX6_typeAt A p s m args meth c) (u : PS)
     (x2 : Int32) (H : Heap) (locs : List Loc) (ls : Array Slot) (hl : lv_has ls 3 [(2, .int x2)]) (hP : va_P D kCl (wP cy g u) H) (hD : va_D A (wP cy g u)) (hS : va_S A s.heap H locs) (h1 : Ok (fX6_typeAt_b58 x2 u) K) :
    kW p l e rmX6_typeAt s m args below meth c H locs (va_Qi (fun r (_ : Unit) => K r) (fun _ => kPost D A (wP cy g u)) A) A 58 ls [] := by
  obtain ⟨hx, hb, hr, hml, hown, hts, hlocks, hK, hA⟩ := id E
  unfold fX6_typeAt_b58 at h1
  refine lv_iload_n hx hb dX6_typeAt_58 rfl (lv_at hl 0 rfl) ?_
  refine lv_bipush (v := 45) hx hb dX6_typeAt_59 rfl ?_
  refine lv_icmp_ne (tgt := 66) hx hb dX6_typeAt_61 (by decide) (fun c61 => ?_) (fun c61 => ?_)
  · replace h1 := Ok.neg c61 h1
    refine lv_iload_n hx hb dX6_typeAt_66 rfl (lv_at hl 0 rfl) ?_
    refine lv_bipush (v := 59) hx hb dX6_typeAt_67 rfl ?_
    refine lv_icmp_ne (tgt := 74) hx hb dX6_typeAt_69 (by decide) (fun c69 => ?_) (fun c69 => ?_)
    · replace h1 := Ok.neg c69 h1
      refine lv_iload_n hx hb dX6_typeAt_74 rfl (lv_at hl 0 rfl) ?_
      refine lv_bipush (v := 32) hx hb dX6_typeAt_75 rfl ?_
      refine lv_icmp_eq (tgt := 86) hx hb dX6_typeAt_77 (by decide) (fun c77 => ?_) (fun c77 => ?_)
      · replace h1 := Ok.pos c77 h1
        refine lv_iconst (v := 5) hx hb dX6_typeAt_86 rfl ?_
        refine lv_goto (tgt := 92) hx hb dX6_typeAt_87 (by decide) ?_
        exact kret_r hx hb hr hlocks hP hD hS h1 dX6_typeAt_92
      · replace h1 := Ok.neg c77 h1
        refine lv_iload_n hx hb dX6_typeAt_80 rfl (lv_at hl 0 rfl) ?_
        refine lv_bipush (v := 10) hx hb dX6_typeAt_81 rfl ?_
        refine lv_icmp_ne (tgt := 90) hx hb dX6_typeAt_83 (by decide) (fun c83 => ?_) (fun c83 => ?_)
        · replace h1 := Ok.neg c83 h1
          refine lv_bipush (v := 6) hx hb dX6_typeAt_90 rfl ?_
          exact kret_r hx hb hr hlocks hP hD hS h1 dX6_typeAt_92
        · replace h1 := Ok.pos c83 h1
          refine lv_iconst (v := 5) hx hb dX6_typeAt_86 rfl ?_
          refine lv_goto (tgt := 92) hx hb dX6_typeAt_87 (by decide) ?_
          exact kret_r hx hb hr hlocks hP hD hS h1 dX6_typeAt_92
    · replace h1 := Ok.pos c69 h1
      refine lv_iconst (v := 4) hx hb dX6_typeAt_72 rfl ?_
      exact kret_r hx hb hr hlocks hP hD hS h1 dX6_typeAt_73
  · replace h1 := Ok.pos c61 h1
    refine lv_iconst (v := 3) hx hb dX6_typeAt_64 rfl ?_
    exact kret_r hx hb hr hlocks hP hD hS h1 dX6_typeAt_65
def fX6_typeAt_b44 (x2 : Int32) (u : PS) : Option (Int32) :=
  (if x2 < 48 then fX6_typeAt_b58 x2 u else (if 57 < x2 then fX6_typeAt_b58 x2 u else some 2))
set_option maxHeartbeats 4000000 in
set_option maxRecDepth 100000 in
theorem tX6_typeAt_b44 {p : Program} {l : Launch} {e : Env} {s : State} {m : MethodId} {args : Array Value} {below : List Frame} {meth : Method} {c : Code} {D : va_G} {cy : Nat → ClassId} {A : Nat → Prop} {g : Nat → Nat} (K : Int32 → Prop) (E : mE D cy RX6 cX6_typeAt 3 (some .int) wsX6_typeAt A p s m args meth c) (u : PS)
     (x2 : Int32) (H : Heap) (locs : List Loc) (ls : Array Slot) (hl : lv_has ls 3 [(2, .int x2)]) (hP : va_P D kCl (wP cy g u) H) (hD : va_D A (wP cy g u)) (hS : va_S A s.heap H locs) (h1 : Ok (fX6_typeAt_b44 x2 u) K) :
    kW p l e rmX6_typeAt s m args below meth c H locs (va_Qi (fun r (_ : Unit) => K r) (fun _ => kPost D A (wP cy g u)) A) A 44 ls [] := by
  obtain ⟨hx, hb, hr, hml, hown, hts, hlocks, hK, hA⟩ := id E
  unfold fX6_typeAt_b44 at h1
  refine lv_iload_n hx hb dX6_typeAt_44 rfl (lv_at hl 0 rfl) ?_
  refine lv_bipush (v := 48) hx hb dX6_typeAt_45 rfl ?_
  refine lv_icmp_lt (tgt := 58) hx hb dX6_typeAt_47 (by decide) (fun c47 => ?_) (fun c47 => ?_)
  · replace h1 := Ok.pos c47 h1
    exact tX6_typeAt_b58 K E u x2 H locs ls (lv_sub hl [0] rfl) hP hD hS h1
  · replace h1 := Ok.neg c47 h1
    refine lv_iload_n hx hb dX6_typeAt_50 rfl (lv_at hl 0 rfl) ?_
    refine lv_bipush (v := 57) hx hb dX6_typeAt_51 rfl ?_
    refine lv_icmp_gt (tgt := 58) hx hb dX6_typeAt_53 (by decide) (fun c53 => ?_) (fun c53 => ?_)
    · replace h1 := Ok.pos c53 h1
      exact tX6_typeAt_b58 K E u x2 H locs ls (lv_sub hl [0] rfl) hP hD hS h1
    · replace h1 := Ok.neg c53 h1
      refine lv_iconst (v := 2) hx hb dX6_typeAt_56 rfl ?_
      exact kret_r hx hb hr hlocks hP hD hS h1 dX6_typeAt_57
def fX6_typeAt_b0 (x1 : Int32) (u : PS) : Option (Int32) :=
  (if x1 < 0 then some 0 else (if (pLe u) ≤ x1 then some 0 else (if x1 < 500 then grd (inb x1 500) ((if (pBy u (ix x1)) < 97 then fX6_typeAt_b44 (pBy u (ix x1)) u else (if 122 < (pBy u (ix x1)) then fX6_typeAt_b44 (pBy u (ix x1)) u else some 1))) else some 0)))
set_option maxHeartbeats 4000000 in
set_option maxRecDepth 100000 in
theorem tX6_typeAt_b0 {p : Program} {l : Launch} {e : Env} {s : State} {m : MethodId} {args : Array Value} {below : List Frame} {meth : Method} {c : Code} {D : va_G} {cy : Nat → ClassId} {A : Nat → Prop} {g : Nat → Nat} (K : Int32 → Prop) (E : mE D cy RX6 cX6_typeAt 3 (some .int) wsX6_typeAt A p s m args meth c) (u : PS)
     (x1 : Int32) (H : Heap) (locs : List Loc) (ls : Array Slot) (hl : lv_has ls 3 [(0, .ref (g 0)), (1, .int x1)]) (hP : va_P D kCl (wP cy g u) H) (hD : va_D A (wP cy g u)) (hS : va_S A s.heap H locs) (h1 : Ok (fX6_typeAt_b0 x1 u) K) :
    kW p l e rmX6_typeAt s m args below meth c H locs (va_Qi (fun r (_ : Unit) => K r) (fun _ => kPost D A (wP cy g u)) A) A 0 ls [] := by
  obtain ⟨hx, hb, hr, hml, hown, hts, hlocks, hK, hA⟩ := id E
  unfold fX6_typeAt_b0 at h1
  refine lv_iload_n hx hb dX6_typeAt_0 rfl (lv_at hl 1 rfl) ?_
  refine lv_if_lt (tgt := 21) hx hb dX6_typeAt_1 (by decide) (fun c1 => ?_) (fun c1 => ?_)
  · replace h1 := Ok.pos c1 h1
    refine lv_iconst (v := 0) hx hb dX6_typeAt_21 rfl ?_
    exact kret_r hx hb hr hlocks hP hD hS h1 dX6_typeAt_22
  · replace h1 := Ok.neg c1 h1
    refine lv_iload_n hx hb dX6_typeAt_4 rfl (lv_at hl 1 rfl) ?_
    refine lv_aload_n hx hb dX6_typeAt_5 rfl (lv_at hl 0 rfl) ?_
    refine k_get (v := .int (pLe u)) (C := RX6) (T := TX6) (N := 11) hx hb hts inX6_typeAt_X6 hown hK hP 0 (wP_a0 _ _ _) rfl 1 (by decide) lkX6_typeAt_15 (pFs_1 _ _) dX6_typeAt_6 ?_
    refine lv_icmp_ge (tgt := 21) hx hb dX6_typeAt_9 (by decide) (fun c9 => ?_) (fun c9 => ?_)
    · replace h1 := Ok.pos c9 h1
      refine lv_iconst (v := 0) hx hb dX6_typeAt_21 rfl ?_
      exact kret_r hx hb hr hlocks hP hD hS h1 dX6_typeAt_22
    · replace h1 := Ok.neg c9 h1
      refine lv_iload_n hx hb dX6_typeAt_12 rfl (lv_at hl 1 rfl) ?_
      refine lv_aload_n hx hb dX6_typeAt_13 rfl (lv_at hl 0 rfl) ?_
      refine k_get (v := .ref (g 1)) (C := RX6) (T := TX6) (N := 11) hx hb hts inX6_typeAt_X6 hown hK hP 0 (wP_a0 _ _ _) rfl 0 (by decide) lkX6_typeAt_9 (pFs_0 _ _) dX6_typeAt_14 ?_
      refine va_alen (v := 500) hx hb hK.1 hP 1 0 (wP_a1 _ _ _) rfl rfl dX6_typeAt_17 ?_
      refine lv_icmp_lt (tgt := 23) hx hb dX6_typeAt_18 (by decide) (fun c18 => ?_) (fun c18 => ?_)
      · replace h1 := Ok.pos c18 h1
        refine lv_aload_n hx hb dX6_typeAt_23 rfl (lv_at hl 0 rfl) ?_
        refine k_get (v := .ref (g 1)) (C := RX6) (T := TX6) (N := 11) hx hb hts inX6_typeAt_X6 hown hK hP 0 (wP_a0 _ _ _) rfl 0 (by decide) lkX6_typeAt_9 (pFs_0 _ _) dX6_typeAt_24 ?_
        refine lv_iload_n hx hb dX6_typeAt_27 rfl (lv_at hl 1 rfl) ?_
        have g28 := h1.grd1
        replace h1 := h1.grd2
        refine k_iald (k := (ix x1)) hx hb hK hP 1 (wP_a1 _ _ _) g28 rfl dX6_typeAt_28 ?_
        refine lv_istore_n (lv' := [(2, .int (pBy u (ix x1))), (0, .ref (g 0)), (1, .int x1)]) hx hb dX6_typeAt_29 rfl hl (by decide) rfl (fun ls hl => ?_)
        refine lv_iload_n hx hb dX6_typeAt_30 rfl (lv_at hl 0 rfl) ?_
        refine lv_bipush (v := 97) hx hb dX6_typeAt_31 rfl ?_
        refine lv_icmp_lt (tgt := 44) hx hb dX6_typeAt_33 (by decide) (fun c33 => ?_) (fun c33 => ?_)
        · replace h1 := Ok.pos c33 h1
          exact tX6_typeAt_b44 K E u (pBy u (ix x1)) H locs ls (lv_sub hl [0] rfl) hP hD hS h1
        · replace h1 := Ok.neg c33 h1
          refine lv_iload_n hx hb dX6_typeAt_36 rfl (lv_at hl 0 rfl) ?_
          refine lv_bipush (v := 122) hx hb dX6_typeAt_37 rfl ?_
          refine lv_icmp_gt (tgt := 44) hx hb dX6_typeAt_39 (by decide) (fun c39 => ?_) (fun c39 => ?_)
          · replace h1 := Ok.pos c39 h1
            exact tX6_typeAt_b44 K E u (pBy u (ix x1)) H locs ls (lv_sub hl [0] rfl) hP hD hS h1
          · replace h1 := Ok.neg c39 h1
            refine lv_iconst (v := 1) hx hb dX6_typeAt_42 rfl ?_
            exact kret_r hx hb hr hlocks hP hD hS h1 dX6_typeAt_43
      · replace h1 := Ok.neg c18 h1
        refine lv_iconst (v := 0) hx hb dX6_typeAt_21 rfl ?_
        exact kret_r hx hb hr hlocks hP hD hS h1 dX6_typeAt_22
def fX6_typeAt (p1 : Int32) (u : PS) : Option (Int32) := fX6_typeAt_b0 p1 u
set_option maxHeartbeats 4000000 in
set_option maxRecDepth 100000 in
theorem cX6_typeAtM (l : Launch) (D : va_G) (cy : Nat → ClassId) (g : Nat → Nat) (sz : Nat) (u : PS) (p1 : Int32) : ∀ (K : Int32 → Prop), Ok (fX6_typeAt p1 u) K → Met l yX6_typeAt wsX6_typeAt rmX6_typeAt (va_Pc [.ref (g 0), .int p1] (kPre D cy sz (wP cy g u))) (va_Qi (fun r (_ : Unit) => K r) (fun _ => kPost D (va_A (wP cy g u) sz) (wP cy g u)) (va_A (wP cy g u) sz)) 0 0 (va_A (wP cy g u) sz) := by
  intro K h1
  refine Met.ofW (cc := cX6_typeAt) (maxL := 3) (ret := (some .int)) (by decide) rfl ?_
  intro p e s m args below meth c s₁ B hml hv
  obtain ⟨rfl, hsz, hP, hK, hD0⟩ := hv
  subst hsz
  have E : mE D cy RX6 cX6_typeAt 3 (some .int) wsX6_typeAt (va_A (wP cy g u) s.heap.size) p s m _ meth c := ⟨B.exec, B.bytes, B.returns, hml, findClass_of_methodNamed B.named, atoms_spec (ws := wsX6_typeAt) B.pre, B.notSynchronized, hK, fun q h => Or.inr h⟩
  have hl := lv_entry ([.ref (g 0), .int p1]) (n := 3) (Nat.le_of_ble_eq_true rfl)
  rw [lg_entry_eq]
  generalize (lg_sl ([.ref (g 0), .int p1]) ++ List.replicate (3 - (lg_sl ([.ref (g 0), .int p1])).length) Slot.unset).toArray = ls at hl ⊢
  exact tX6_typeAt_b0 K E u p1 _ _ _ hl hP hD0.self va_S.rf h1
-- X6_readToken
theorem inX6_readToken_X6 : ∀ w ∈ u_ws RX6 TX6 11, w ∈ wsX6_readToken := k_lays 12 rfl
theorem lkX6_readToken_19 : Cond.fieldLink RX6 19 "FerryRamp$Parser" "errorCode" "I" ∈ wsX6_readToken := List.mem_of_getElem? (i := 1) rfl
theorem lkX6_readToken_39 : Cond.fieldLink RX6 39 "FerryRamp$Parser" "end" "I" ∈ wsX6_readToken := List.mem_of_getElem? (i := 2) rfl
theorem lkX6_readToken_15 : Cond.fieldLink RX6 15 "FerryRamp$Parser" "length" "I" ∈ wsX6_readToken := List.mem_of_getElem? (i := 3) rfl
theorem lkX6_readToken_36 : Cond.fieldLink RX6 36 "FerryRamp$Parser" "start" "I" ∈ wsX6_readToken := List.mem_of_getElem? (i := 4) rfl
theorem hdX6_typeAt : yX6_typeAt.cls = RX6 ∧ yX6_typeAt.cls ≠ "java/lang/invoke/MethodHandle" ∧ yX6_typeAt.cls ≠ "java/lang/invoke/VarHandle" ∧ (parseMethodDescriptor yX6_typeAt.desc).map (fun d => d.parameters.length) = some 1 := by decide +kernel
theorem lkX6_readToken_33 : Cond.fieldLink RX6 33 "FerryRamp$Parser" "type" "I" ∈ wsX6_readToken := List.mem_of_getElem? (i := 5) rfl
abbrev rmX6_readToken : Room := { frames := 1, cells := 0, slots := 0, locals := 22 }
def fX6_readToken_b66 (k66 : Int32 × PS → Option (PS)) (x1 : Int32) (u : PS) : Option (PS) :=
  (if (pLe u) ≤ x1 then some (tEn u x1) else bnd (fX6_typeAt x1 u) (fun r76 => (if r76 = (pTy u) then k66 (x1 + 1, u) else some (tEn u x1))))
set_option maxHeartbeats 4000000 in
set_option maxRecDepth 100000 in
theorem tX6_readToken_b66 {p : Program} {l : Launch} {e : Env} {s : State} {m : MethodId} {args : Array Value} {below : List Frame} {meth : Method} {c : Code} {D : va_G} {cy : Nat → ClassId} {A : Nat → Prop} {g : Nat → Nat} (K : PS → Prop) (E : mE D cy RX6 cX6_readToken 2 none wsX6_readToken A p s m args meth c)
    (k66 : Int32 × PS → Option (PS)) (hk66 : ∀ (x1 : Int32) (u : PS) (H : Heap) (locs : List Loc) (ls : Array Slot), lv_has ls 2 [(0, .ref (g 0)), (1, .int x1)] → va_P D kCl (wP cy g u) H → va_D A (wP cy g u) → va_S A s.heap H locs → Ok (k66 (x1, u)) K → kW p l e rmX6_readToken s m args below meth c H locs (va_Qv K (fun q => kPost D A (wP cy g q)) A) A 66 ls [])
     (x1 : Int32) (u : PS) (H : Heap) (locs : List Loc) (ls : Array Slot) (hl : lv_has ls 2 [(0, .ref (g 0)), (1, .int x1)]) (hP : va_P D kCl (wP cy g u) H) (hD : va_D A (wP cy g u)) (hS : va_S A s.heap H locs) (h1 : Ok (fX6_readToken_b66 k66 x1 u) K) :
    kW p l e rmX6_readToken s m args below meth c H locs (va_Qv K (fun q => kPost D A (wP cy g q)) A) A 66 ls [] := by
  obtain ⟨hx, hb, hr, hml, hown, hts, hlocks, hK, hA⟩ := id E
  unfold fX6_readToken_b66 at h1
  refine lv_iload_n hx hb dX6_readToken_66 rfl (lv_at hl 1 rfl) ?_
  refine lv_aload_n hx hb dX6_readToken_67 rfl (lv_at hl 0 rfl) ?_
  refine k_get (v := .int (pLe u)) (C := RX6) (T := TX6) (N := 11) hx hb hts inX6_readToken_X6 hown hK hP 0 (wP_a0 _ _ _) rfl 1 (by decide) lkX6_readToken_15 (pFs_1 _ _) dX6_readToken_68 ?_
  refine lv_icmp_ge (tgt := 102) hx hb dX6_readToken_71 (by decide) (fun c71 => ?_) (fun c71 => ?_)
  · replace h1 := Ok.pos c71 h1
    refine lv_aload_n hx hb dX6_readToken_102 rfl (lv_at hl 0 rfl) ?_
    refine lv_iload_n hx hb dX6_readToken_103 rfl (lv_at hl 1 rfl) ?_
    refine k_put (v := .int x1) (ty := .int) (C := RX6) (T := TX6) (N := 11) hx hb hts inX6_readToken_X6 tyX6 tyX6_ok nmX6 hown hK hP hD hS 0 (wP_a0 _ _ _) rfl 8 (by decide) lkX6_readToken_39 rfl (by decide +kernel) rfl rfl (Nat.le_of_ble_eq_true rfl) (ws' := wP cy g (tEn u x1)) (wP_tEn _ _ _ _) dX6_readToken_104 (fun H locs hP hD hS => ?_)
    exact kret_v hx hb hr hlocks hP hD hS h1 dX6_readToken_107
  · replace h1 := Ok.neg c71 h1
    refine lv_aload_n hx hb dX6_readToken_74 rfl (lv_at hl 0 rfl) ?_
    refine lv_iload_n hx hb dX6_readToken_75 rfl (lv_at hl 1 rfl) ?_
    refine kc_rV0 (b := (g 0)) (As := [.int x1]) (rest := []) h1 ⟨hx, hb, hml, hown, hts⟩ (cX6_typeAtM l D cy g H.size u x1) (cwV 1 hts gX6_readToken_X6_typeAt rfl rfl rfl hdX6_typeAt ⟨Nat.le_of_ble_eq_true rfl, Nat.le_of_ble_eq_true rfl⟩) hK hP hD hS hA (q0 := 0) rfl rfl rfl hl.1 rfl (Nat.le_of_ble_eq_true rfl) dX6_readToken_76 ⟨Nat.zero_le _, Nat.zero_le _⟩ (fun r76 H locs h1 hP hS => ?_)
    refine lv_aload_n hx hb dX6_readToken_79 rfl (lv_at hl 0 rfl) ?_
    refine k_get (v := .int (pTy u)) (C := RX6) (T := TX6) (N := 11) hx hb hts inX6_readToken_X6 hown hK hP 0 (wP_a0 _ _ _) rfl 6 (by decide) lkX6_readToken_33 (pFs_6 _ _) dX6_readToken_80 ?_
    refine lv_icmp_ne (tgt := 102) hx hb dX6_readToken_83 (by decide) (fun c83 => ?_) (fun c83 => ?_)
    · replace h1 := Ok.neg c83 h1
      refine lv_aload_n hx hb dX6_readToken_102 rfl (lv_at hl 0 rfl) ?_
      refine lv_iload_n hx hb dX6_readToken_103 rfl (lv_at hl 1 rfl) ?_
      refine k_put (v := .int x1) (ty := .int) (C := RX6) (T := TX6) (N := 11) hx hb hts inX6_readToken_X6 tyX6 tyX6_ok nmX6 hown hK hP hD hS 0 (wP_a0 _ _ _) rfl 8 (by decide) lkX6_readToken_39 rfl (by decide +kernel) rfl rfl (Nat.le_of_ble_eq_true rfl) (ws' := wP cy g (tEn u x1)) (wP_tEn _ _ _ _) dX6_readToken_104 (fun H locs hP hD hS => ?_)
      exact kret_v hx hb hr hlocks hP hD hS h1 dX6_readToken_107
    · replace h1 := Ok.pos c83 h1
      refine lv_iinc (v := x1 + 1) (lv' := [(1, .int (x1 + 1)), (0, .ref (g 0))]) hx hb dX6_readToken_86 hl (k := 1) rfl rfl (by decide) rfl (fun ls hl => ?_)
      refine lv_goto (tgt := 66) hx hb dX6_readToken_89 (by decide) ?_
      exact hk66 (x1 + 1) u H locs ls (lv_sub hl [1, 0] rfl) hP hD hS h1
theorem tX6_readToken_l66 {p : Program} {l : Launch} {e : Env} {s : State} {m : MethodId} {args : Array Value} {below : List Frame} {meth : Method} {c : Code} {D : va_G} {cy : Nat → ClassId} {A : Nat → Prop} {g : Nat → Nat} (K : PS → Prop) (E : mE D cy RX6 cX6_readToken 2 none wsX6_readToken A p s m args meth c) : ∀ (n9 : Nat) (x1 : Int32) (u : PS) (H : Heap) (locs : List Loc) (ls : Array Slot), lv_has ls 2 [(0, .ref (g 0)), (1, .int x1)] → va_P D kCl (wP cy g u) H → va_D A (wP cy g u) → va_S A s.heap H locs → Ok (lop (fun y z => fX6_readToken_b66 y z.1 z.2) n9 (x1, u)) K → kW p l e rmX6_readToken s m args below meth c H locs (va_Qv K (fun q => kPost D A (wP cy g q)) A) A 66 ls [] := by
  intro n9
  induction n9 with
  | zero =>
    intro x1 u H locs ls hl hP hD hS h1
    exact h1.no
  | succ n9 ih =>
    intro x1 u H locs ls hl hP hD hS h1
    exact tX6_readToken_b66 K E (lop (fun y z => fX6_readToken_b66 y z.1 z.2) n9) (fun x1 u H locs ls hl hP hD hS h1 => ih x1 u H locs ls hl hP hD hS h1) x1 u H locs ls hl hP hD hS h1
def fX6_readToken_b36 (x1 : Int32) (u : PS) : Option (PS) :=
  bnd (fX6_typeAt x1 (tSt u x1)) (fun r44 => (if (pTy (tTy (tSt u x1) r44)) = 1 then lop (fun y z => fX6_readToken_b66 y z.1 z.2) LF (x1, tTy (tSt u x1) r44) else (if (pTy (tTy (tSt u x1) r44)) = 2 then lop (fun y z => fX6_readToken_b66 y z.1 z.2) LF (x1, tTy (tSt u x1) r44) else (if (pTy (tTy (tSt u x1) r44)) = 0 then some (tEn (tTy (tSt u x1) r44) x1) else some (tEn (tTy (tSt u x1) r44) (x1 + 1))))))
set_option maxHeartbeats 4000000 in
set_option maxRecDepth 100000 in
theorem tX6_readToken_b36 {p : Program} {l : Launch} {e : Env} {s : State} {m : MethodId} {args : Array Value} {below : List Frame} {meth : Method} {c : Code} {D : va_G} {cy : Nat → ClassId} {A : Nat → Prop} {g : Nat → Nat} (K : PS → Prop) (E : mE D cy RX6 cX6_readToken 2 none wsX6_readToken A p s m args meth c)
     (x1 : Int32) (u : PS) (H : Heap) (locs : List Loc) (ls : Array Slot) (hl : lv_has ls 2 [(0, .ref (g 0)), (1, .int x1)]) (hP : va_P D kCl (wP cy g u) H) (hD : va_D A (wP cy g u)) (hS : va_S A s.heap H locs) (h1 : Ok (fX6_readToken_b36 x1 u) K) :
    kW p l e rmX6_readToken s m args below meth c H locs (va_Qv K (fun q => kPost D A (wP cy g q)) A) A 36 ls [] := by
  obtain ⟨hx, hb, hr, hml, hown, hts, hlocks, hK, hA⟩ := id E
  unfold fX6_readToken_b36 at h1
  refine lv_aload_n hx hb dX6_readToken_36 rfl (lv_at hl 0 rfl) ?_
  refine lv_iload_n hx hb dX6_readToken_37 rfl (lv_at hl 1 rfl) ?_
  refine k_put (v := .int x1) (ty := .int) (C := RX6) (T := TX6) (N := 11) hx hb hts inX6_readToken_X6 tyX6 tyX6_ok nmX6 hown hK hP hD hS 0 (wP_a0 _ _ _) rfl 7 (by decide) lkX6_readToken_36 rfl (by decide +kernel) rfl rfl (Nat.le_of_ble_eq_true rfl) (ws' := wP cy g (tSt u x1)) (wP_tSt _ _ _ _) dX6_readToken_38 (fun H locs hP hD hS => ?_)
  refine lv_aload_n hx hb dX6_readToken_41 rfl (lv_at hl 0 rfl) ?_
  refine lv_aload_n hx hb dX6_readToken_42 rfl (lv_at hl 0 rfl) ?_
  refine lv_iload_n hx hb dX6_readToken_43 rfl (lv_at hl 1 rfl) ?_
  refine kc_rV0 (b := (g 0)) (As := [.int x1]) (rest := [.ref (g 0)]) h1 ⟨hx, hb, hml, hown, hts⟩ (cX6_typeAtM l D cy g H.size (tSt u x1) x1) (cwV 1 hts gX6_readToken_X6_typeAt rfl rfl rfl hdX6_typeAt ⟨Nat.le_of_ble_eq_true rfl, Nat.le_of_ble_eq_true rfl⟩) hK hP hD hS hA (q0 := 0) rfl rfl rfl hl.1 rfl (Nat.le_of_ble_eq_true rfl) dX6_readToken_44 ⟨Nat.zero_le _, Nat.zero_le _⟩ (fun r44 H locs h1 hP hS => ?_)
  refine k_put (v := .int r44) (ty := .int) (C := RX6) (T := TX6) (N := 11) hx hb hts inX6_readToken_X6 tyX6 tyX6_ok nmX6 hown hK hP hD hS 0 (wP_a0 _ _ _) rfl 6 (by decide) lkX6_readToken_33 rfl (by decide +kernel) rfl rfl (Nat.le_of_ble_eq_true rfl) (ws' := wP cy g (tTy (tSt u x1) r44)) (wP_tTy _ _ _ _) dX6_readToken_47 (fun H locs hP hD hS => ?_)
  refine lv_aload_n hx hb dX6_readToken_50 rfl (lv_at hl 0 rfl) ?_
  refine k_get (v := .int (pTy (tTy (tSt u x1) r44))) (C := RX6) (T := TX6) (N := 11) hx hb hts inX6_readToken_X6 hown hK hP 0 (wP_a0 _ _ _) rfl 6 (by decide) lkX6_readToken_33 (pFs_6 _ _) dX6_readToken_51 ?_
  refine lv_iconst (v := 1) hx hb dX6_readToken_54 rfl ?_
  refine lv_icmp_eq (tgt := 66) hx hb dX6_readToken_55 (by decide) (fun c55 => ?_) (fun c55 => ?_)
  · replace h1 := Ok.pos c55 h1
    exact tX6_readToken_l66 K E LF x1 (tTy (tSt u x1) r44) H locs ls (lv_sub hl [0, 1] rfl) hP hD hS h1
  · replace h1 := Ok.neg c55 h1
    refine lv_aload_n hx hb dX6_readToken_58 rfl (lv_at hl 0 rfl) ?_
    refine k_get (v := .int (pTy (tTy (tSt u x1) r44))) (C := RX6) (T := TX6) (N := 11) hx hb hts inX6_readToken_X6 hown hK hP 0 (wP_a0 _ _ _) rfl 6 (by decide) lkX6_readToken_33 (pFs_6 _ _) dX6_readToken_59 ?_
    refine lv_iconst (v := 2) hx hb dX6_readToken_62 rfl ?_
    refine lv_icmp_ne (tgt := 92) hx hb dX6_readToken_63 (by decide) (fun c63 => ?_) (fun c63 => ?_)
    · replace h1 := Ok.neg c63 h1
      refine lv_aload_n hx hb dX6_readToken_92 rfl (lv_at hl 0 rfl) ?_
      refine k_get (v := .int (pTy (tTy (tSt u x1) r44))) (C := RX6) (T := TX6) (N := 11) hx hb hts inX6_readToken_X6 hown hK hP 0 (wP_a0 _ _ _) rfl 6 (by decide) lkX6_readToken_33 (pFs_6 _ _) dX6_readToken_93 ?_
      refine lv_if_eq (tgt := 102) hx hb dX6_readToken_96 (by decide) (fun c96 => ?_) (fun c96 => ?_)
      · replace h1 := Ok.pos c96 h1
        refine lv_aload_n hx hb dX6_readToken_102 rfl (lv_at hl 0 rfl) ?_
        refine lv_iload_n hx hb dX6_readToken_103 rfl (lv_at hl 1 rfl) ?_
        refine k_put (v := .int x1) (ty := .int) (C := RX6) (T := TX6) (N := 11) hx hb hts inX6_readToken_X6 tyX6 tyX6_ok nmX6 hown hK hP hD hS 0 (wP_a0 _ _ _) rfl 8 (by decide) lkX6_readToken_39 rfl (by decide +kernel) rfl rfl (Nat.le_of_ble_eq_true rfl) (ws' := wP cy g (tEn (tTy (tSt u x1) r44) x1)) (wP_tEn _ _ _ _) dX6_readToken_104 (fun H locs hP hD hS => ?_)
        exact kret_v hx hb hr hlocks hP hD hS h1 dX6_readToken_107
      · replace h1 := Ok.neg c96 h1
        refine lv_iinc (v := x1 + 1) (lv' := [(1, .int (x1 + 1)), (0, .ref (g 0))]) hx hb dX6_readToken_99 hl (k := 1) rfl rfl (by decide) rfl (fun ls hl => ?_)
        refine lv_aload_n hx hb dX6_readToken_102 rfl (lv_at hl 1 rfl) ?_
        refine lv_iload_n hx hb dX6_readToken_103 rfl (lv_at hl 0 rfl) ?_
        refine k_put (v := .int (x1 + 1)) (ty := .int) (C := RX6) (T := TX6) (N := 11) hx hb hts inX6_readToken_X6 tyX6 tyX6_ok nmX6 hown hK hP hD hS 0 (wP_a0 _ _ _) rfl 8 (by decide) lkX6_readToken_39 rfl (by decide +kernel) rfl rfl (Nat.le_of_ble_eq_true rfl) (ws' := wP cy g (tEn (tTy (tSt u x1) r44) (x1 + 1))) (wP_tEn _ _ _ _) dX6_readToken_104 (fun H locs hP hD hS => ?_)
        exact kret_v hx hb hr hlocks hP hD hS h1 dX6_readToken_107
    · replace h1 := Ok.pos c63 h1
      exact tX6_readToken_l66 K E LF x1 (tTy (tSt u x1) r44) H locs ls (lv_sub hl [0, 1] rfl) hP hD hS h1
def fX6_readToken_b13 (k13 : Int32 × PS → Option (PS)) (x1 : Int32) (u : PS) : Option (PS) :=
  (if (pLe u) ≤ x1 then fX6_readToken_b36 x1 u else bnd (fX6_typeAt x1 u) (fun r23 => (if r23 = 5 then k13 (x1 + 1, u) else fX6_readToken_b36 x1 u)))
set_option maxHeartbeats 4000000 in
set_option maxRecDepth 100000 in
theorem tX6_readToken_b13 {p : Program} {l : Launch} {e : Env} {s : State} {m : MethodId} {args : Array Value} {below : List Frame} {meth : Method} {c : Code} {D : va_G} {cy : Nat → ClassId} {A : Nat → Prop} {g : Nat → Nat} (K : PS → Prop) (E : mE D cy RX6 cX6_readToken 2 none wsX6_readToken A p s m args meth c)
    (k13 : Int32 × PS → Option (PS)) (hk13 : ∀ (x1 : Int32) (u : PS) (H : Heap) (locs : List Loc) (ls : Array Slot), lv_has ls 2 [(0, .ref (g 0)), (1, .int x1)] → va_P D kCl (wP cy g u) H → va_D A (wP cy g u) → va_S A s.heap H locs → Ok (k13 (x1, u)) K → kW p l e rmX6_readToken s m args below meth c H locs (va_Qv K (fun q => kPost D A (wP cy g q)) A) A 13 ls [])
     (x1 : Int32) (u : PS) (H : Heap) (locs : List Loc) (ls : Array Slot) (hl : lv_has ls 2 [(0, .ref (g 0)), (1, .int x1)]) (hP : va_P D kCl (wP cy g u) H) (hD : va_D A (wP cy g u)) (hS : va_S A s.heap H locs) (h1 : Ok (fX6_readToken_b13 k13 x1 u) K) :
    kW p l e rmX6_readToken s m args below meth c H locs (va_Qv K (fun q => kPost D A (wP cy g q)) A) A 13 ls [] := by
  obtain ⟨hx, hb, hr, hml, hown, hts, hlocks, hK, hA⟩ := id E
  unfold fX6_readToken_b13 at h1
  refine lv_iload_n hx hb dX6_readToken_13 rfl (lv_at hl 1 rfl) ?_
  refine lv_aload_n hx hb dX6_readToken_14 rfl (lv_at hl 0 rfl) ?_
  refine k_get (v := .int (pLe u)) (C := RX6) (T := TX6) (N := 11) hx hb hts inX6_readToken_X6 hown hK hP 0 (wP_a0 _ _ _) rfl 1 (by decide) lkX6_readToken_15 (pFs_1 _ _) dX6_readToken_15 ?_
  refine lv_icmp_ge (tgt := 36) hx hb dX6_readToken_18 (by decide) (fun c18 => ?_) (fun c18 => ?_)
  · replace h1 := Ok.pos c18 h1
    exact tX6_readToken_b36 K E x1 u H locs ls (lv_sub hl [0, 1] rfl) hP hD hS h1
  · replace h1 := Ok.neg c18 h1
    refine lv_aload_n hx hb dX6_readToken_21 rfl (lv_at hl 0 rfl) ?_
    refine lv_iload_n hx hb dX6_readToken_22 rfl (lv_at hl 1 rfl) ?_
    refine kc_rV0 (b := (g 0)) (As := [.int x1]) (rest := []) h1 ⟨hx, hb, hml, hown, hts⟩ (cX6_typeAtM l D cy g H.size u x1) (cwV 1 hts gX6_readToken_X6_typeAt rfl rfl rfl hdX6_typeAt ⟨Nat.le_of_ble_eq_true rfl, Nat.le_of_ble_eq_true rfl⟩) hK hP hD hS hA (q0 := 0) rfl rfl rfl hl.1 rfl (Nat.le_of_ble_eq_true rfl) dX6_readToken_23 ⟨Nat.zero_le _, Nat.zero_le _⟩ (fun r23 H locs h1 hP hS => ?_)
    refine lv_iconst (v := 5) hx hb dX6_readToken_26 rfl ?_
    refine lv_icmp_ne (tgt := 36) hx hb dX6_readToken_27 (by decide) (fun c27 => ?_) (fun c27 => ?_)
    · replace h1 := Ok.neg c27 h1
      exact tX6_readToken_b36 K E x1 u H locs ls (lv_sub hl [0, 1] rfl) hP hD hS h1
    · replace h1 := Ok.pos c27 h1
      refine lv_iinc (v := x1 + 1) (lv' := [(1, .int (x1 + 1)), (0, .ref (g 0))]) hx hb dX6_readToken_30 hl (k := 1) rfl rfl (by decide) rfl (fun ls hl => ?_)
      refine lv_goto (tgt := 13) hx hb dX6_readToken_33 (by decide) ?_
      exact hk13 (x1 + 1) u H locs ls (lv_sub hl [1, 0] rfl) hP hD hS h1
theorem tX6_readToken_l13 {p : Program} {l : Launch} {e : Env} {s : State} {m : MethodId} {args : Array Value} {below : List Frame} {meth : Method} {c : Code} {D : va_G} {cy : Nat → ClassId} {A : Nat → Prop} {g : Nat → Nat} (K : PS → Prop) (E : mE D cy RX6 cX6_readToken 2 none wsX6_readToken A p s m args meth c) : ∀ (n9 : Nat) (x1 : Int32) (u : PS) (H : Heap) (locs : List Loc) (ls : Array Slot), lv_has ls 2 [(0, .ref (g 0)), (1, .int x1)] → va_P D kCl (wP cy g u) H → va_D A (wP cy g u) → va_S A s.heap H locs → Ok (lop (fun y z => fX6_readToken_b13 y z.1 z.2) n9 (x1, u)) K → kW p l e rmX6_readToken s m args below meth c H locs (va_Qv K (fun q => kPost D A (wP cy g q)) A) A 13 ls [] := by
  intro n9
  induction n9 with
  | zero =>
    intro x1 u H locs ls hl hP hD hS h1
    exact h1.no
  | succ n9 ih =>
    intro x1 u H locs ls hl hP hD hS h1
    exact tX6_readToken_b13 K E (lop (fun y z => fX6_readToken_b13 y z.1 z.2) n9) (fun x1 u H locs ls hl hP hD hS h1 => ih x1 u H locs ls hl hP hD hS h1) x1 u H locs ls hl hP hD hS h1
def fX6_readToken_b0 (u : PS) : Option (PS) :=
  (if (pEc u) = 0 then lop (fun y z => fX6_readToken_b13 y z.1 z.2) LF (pEn u, u) else some u)
set_option maxHeartbeats 4000000 in
set_option maxRecDepth 100000 in
theorem tX6_readToken_b0 {p : Program} {l : Launch} {e : Env} {s : State} {m : MethodId} {args : Array Value} {below : List Frame} {meth : Method} {c : Code} {D : va_G} {cy : Nat → ClassId} {A : Nat → Prop} {g : Nat → Nat} (K : PS → Prop) (E : mE D cy RX6 cX6_readToken 2 none wsX6_readToken A p s m args meth c)
     (u : PS) (H : Heap) (locs : List Loc) (ls : Array Slot) (hl : lv_has ls 2 [(0, .ref (g 0))]) (hP : va_P D kCl (wP cy g u) H) (hD : va_D A (wP cy g u)) (hS : va_S A s.heap H locs) (h1 : Ok (fX6_readToken_b0 u) K) :
    kW p l e rmX6_readToken s m args below meth c H locs (va_Qv K (fun q => kPost D A (wP cy g q)) A) A 0 ls [] := by
  obtain ⟨hx, hb, hr, hml, hown, hts, hlocks, hK, hA⟩ := id E
  unfold fX6_readToken_b0 at h1
  refine lv_aload_n hx hb dX6_readToken_0 rfl (lv_at hl 0 rfl) ?_
  refine k_get (v := .int (pEc u)) (C := RX6) (T := TX6) (N := 11) hx hb hts inX6_readToken_X6 hown hK hP 0 (wP_a0 _ _ _) rfl 2 (by decide) lkX6_readToken_19 (pFs_2 _ _) dX6_readToken_1 ?_
  refine lv_if_eq (tgt := 8) hx hb dX6_readToken_4 (by decide) (fun c4 => ?_) (fun c4 => ?_)
  · replace h1 := Ok.pos c4 h1
    refine lv_aload_n hx hb dX6_readToken_8 rfl (lv_at hl 0 rfl) ?_
    refine k_get (v := .int (pEn u)) (C := RX6) (T := TX6) (N := 11) hx hb hts inX6_readToken_X6 hown hK hP 0 (wP_a0 _ _ _) rfl 8 (by decide) lkX6_readToken_39 (pFs_8 _ _) dX6_readToken_9 ?_
    refine lv_istore_n (lv' := [(1, .int (pEn u)), (0, .ref (g 0))]) hx hb dX6_readToken_12 rfl hl (by decide) rfl (fun ls hl => ?_)
    exact tX6_readToken_l13 K E LF (pEn u) u H locs ls (lv_sub hl [1, 0] rfl) hP hD hS h1
  · replace h1 := Ok.neg c4 h1
    exact kret_v hx hb hr hlocks hP hD hS h1 dX6_readToken_7
def fX6_readToken (u : PS) : Option (PS) := fX6_readToken_b0 u
set_option maxHeartbeats 4000000 in
set_option maxRecDepth 100000 in
theorem cX6_readTokenM (l : Launch) (D : va_G) (cy : Nat → ClassId) (g : Nat → Nat) (sz : Nat) (u : PS) : ∀ (K : PS → Prop), Ok (fX6_readToken u) K → Met l yX6_readToken wsX6_readToken rmX6_readToken (va_Pc [.ref (g 0)] (kPre D cy sz (wP cy g u))) (va_Qv K (fun q => kPost D (va_A (wP cy g u) sz) (wP cy g q)) (va_A (wP cy g u) sz)) 0 0 (va_A (wP cy g u) sz) := by
  intro K h1
  refine Met.ofW (cc := cX6_readToken) (maxL := 2) (ret := none) (by decide) rfl ?_
  intro p e s m args below meth c s₁ B hml hv
  obtain ⟨rfl, hsz, hP, hK, hD0⟩ := hv
  subst hsz
  have E : mE D cy RX6 cX6_readToken 2 none wsX6_readToken (va_A (wP cy g u) s.heap.size) p s m _ meth c := ⟨B.exec, B.bytes, B.returns, hml, findClass_of_methodNamed B.named, atoms_spec (ws := wsX6_readToken) B.pre, B.notSynchronized, hK, fun q h => Or.inr h⟩
  have hl := lv_entry ([.ref (g 0)]) (n := 2) (Nat.le_of_ble_eq_true rfl)
  rw [lg_entry_eq]
  generalize (lg_sl ([.ref (g 0)]) ++ List.replicate (2 - (lg_sl ([.ref (g 0)])).length) Slot.unset).toArray = ls at hl ⊢
  exact tX6_readToken_b0 K E u _ _ _ hl hP hD0.self va_S.rf h1
-- X6_readFirstToken
theorem inX6_readFirstToken_X6 : ∀ w ∈ u_ws RX6 TX6 11, w ∈ wsX6_readFirstToken := k_lays 17 rfl
theorem lkX6_readFirstToken_19 : Cond.fieldLink RX6 19 "FerryRamp$Parser" "errorCode" "I" ∈ wsX6_readFirstToken := List.mem_of_getElem? (i := 1) rfl
theorem lkX6_readFirstToken_22 : Cond.fieldLink RX6 22 "FerryRamp$Parser" "errorPosition" "I" ∈ wsX6_readFirstToken := List.mem_of_getElem? (i := 2) rfl
theorem lkX6_readFirstToken_39 : Cond.fieldLink RX6 39 "FerryRamp$Parser" "end" "I" ∈ wsX6_readFirstToken := List.mem_of_getElem? (i := 3) rfl
theorem hdX6_readToken : yX6_readToken.cls = RX6 ∧ yX6_readToken.cls ≠ "java/lang/invoke/MethodHandle" ∧ yX6_readToken.cls ≠ "java/lang/invoke/VarHandle" ∧ (parseMethodDescriptor yX6_readToken.desc).map (fun d => d.parameters.length) = some 0 := by decide +kernel
abbrev rmX6_readFirstToken : Room := { frames := 2, cells := 0, slots := 0, locals := 43 }
def fX6_readFirstToken_b0 (u : PS) : Option (PS) :=
  bnd (fX6_readToken (tEn (tEp (tEc u 0) (-1)) 0)) (fun u16 => some u16)
set_option maxHeartbeats 4000000 in
set_option maxRecDepth 100000 in
theorem tX6_readFirstToken_b0 {p : Program} {l : Launch} {e : Env} {s : State} {m : MethodId} {args : Array Value} {below : List Frame} {meth : Method} {c : Code} {D : va_G} {cy : Nat → ClassId} {A : Nat → Prop} {g : Nat → Nat} (K : PS → Prop) (E : mE D cy RX6 cX6_readFirstToken 1 none wsX6_readFirstToken A p s m args meth c)
     (u : PS) (H : Heap) (locs : List Loc) (ls : Array Slot) (hl : lv_has ls 1 [(0, .ref (g 0))]) (hP : va_P D kCl (wP cy g u) H) (hD : va_D A (wP cy g u)) (hS : va_S A s.heap H locs) (h1 : Ok (fX6_readFirstToken_b0 u) K) :
    kW p l e rmX6_readFirstToken s m args below meth c H locs (va_Qv K (fun q => kPost D A (wP cy g q)) A) A 0 ls [] := by
  obtain ⟨hx, hb, hr, hml, hown, hts, hlocks, hK, hA⟩ := id E
  unfold fX6_readFirstToken_b0 at h1
  refine lv_aload_n hx hb dX6_readFirstToken_0 rfl (lv_at hl 0 rfl) ?_
  refine lv_iconst (v := 0) hx hb dX6_readFirstToken_1 rfl ?_
  refine k_put (v := .int 0) (ty := .int) (C := RX6) (T := TX6) (N := 11) hx hb hts inX6_readFirstToken_X6 tyX6 tyX6_ok nmX6 hown hK hP hD hS 0 (wP_a0 _ _ _) rfl 2 (by decide) lkX6_readFirstToken_19 rfl (by decide +kernel) rfl rfl (Nat.le_of_ble_eq_true rfl) (ws' := wP cy g (tEc u 0)) (wP_tEc _ _ _ _) dX6_readFirstToken_2 (fun H locs hP hD hS => ?_)
  refine lv_aload_n hx hb dX6_readFirstToken_5 rfl (lv_at hl 0 rfl) ?_
  refine lv_iconst (v := (-1)) hx hb dX6_readFirstToken_6 rfl ?_
  refine k_put (v := .int (-1)) (ty := .int) (C := RX6) (T := TX6) (N := 11) hx hb hts inX6_readFirstToken_X6 tyX6 tyX6_ok nmX6 hown hK hP hD hS 0 (wP_a0 _ _ _) rfl 3 (by decide) lkX6_readFirstToken_22 rfl (by decide +kernel) rfl rfl (Nat.le_of_ble_eq_true rfl) (ws' := wP cy g (tEp (tEc u 0) (-1))) (wP_tEp _ _ _ _) dX6_readFirstToken_7 (fun H locs hP hD hS => ?_)
  refine lv_aload_n hx hb dX6_readFirstToken_10 rfl (lv_at hl 0 rfl) ?_
  refine lv_iconst (v := 0) hx hb dX6_readFirstToken_11 rfl ?_
  refine k_put (v := .int 0) (ty := .int) (C := RX6) (T := TX6) (N := 11) hx hb hts inX6_readFirstToken_X6 tyX6 tyX6_ok nmX6 hown hK hP hD hS 0 (wP_a0 _ _ _) rfl 8 (by decide) lkX6_readFirstToken_39 rfl (by decide +kernel) rfl rfl (Nat.le_of_ble_eq_true rfl) (ws' := wP cy g (tEn (tEp (tEc u 0) (-1)) 0)) (wP_tEn _ _ _ _) dX6_readFirstToken_12 (fun H locs hP hD hS => ?_)
  refine lv_aload_n hx hb dX6_readFirstToken_15 rfl (lv_at hl 0 rfl) ?_
  refine kc_vV0 (b := (g 0)) (As := []) (rest := []) h1 ⟨hx, hb, hml, hown, hts⟩ (cX6_readTokenM l D cy g H.size (tEn (tEp (tEc u 0) (-1)) 0)) (cwV 0 hts gX6_readFirstToken_X6_readToken rfl rfl rfl hdX6_readToken ⟨Nat.le_of_ble_eq_true rfl, Nat.le_of_ble_eq_true rfl⟩) hK hP hD hS hA (q0 := 0) rfl rfl rfl hl.1 rfl (Nat.le_of_ble_eq_true rfl) dX6_readFirstToken_16 ⟨Nat.zero_le _, Nat.zero_le _⟩ (fun u16 H locs h1 hP hD hS => ?_)
  exact kret_v hx hb hr hlocks hP hD hS h1 dX6_readFirstToken_19
def fX6_readFirstToken (u : PS) : Option (PS) := fX6_readFirstToken_b0 u
set_option maxHeartbeats 4000000 in
set_option maxRecDepth 100000 in
theorem cX6_readFirstTokenM (l : Launch) (D : va_G) (cy : Nat → ClassId) (g : Nat → Nat) (sz : Nat) (u : PS) : ∀ (K : PS → Prop), Ok (fX6_readFirstToken u) K → Met l yX6_readFirstToken wsX6_readFirstToken rmX6_readFirstToken (va_Pc [.ref (g 0)] (kPre D cy sz (wP cy g u))) (va_Qv K (fun q => kPost D (va_A (wP cy g u) sz) (wP cy g q)) (va_A (wP cy g u) sz)) 0 0 (va_A (wP cy g u) sz) := by
  intro K h1
  refine Met.ofW (cc := cX6_readFirstToken) (maxL := 1) (ret := none) (by decide) rfl ?_
  intro p e s m args below meth c s₁ B hml hv
  obtain ⟨rfl, hsz, hP, hK, hD0⟩ := hv
  subst hsz
  have E : mE D cy RX6 cX6_readFirstToken 1 none wsX6_readFirstToken (va_A (wP cy g u) s.heap.size) p s m _ meth c := ⟨B.exec, B.bytes, B.returns, hml, findClass_of_methodNamed B.named, atoms_spec (ws := wsX6_readFirstToken) B.pre, B.notSynchronized, hK, fun q h => Or.inr h⟩
  have hl := lv_entry ([.ref (g 0)]) (n := 1) (Nat.le_of_ble_eq_true rfl)
  rw [lg_entry_eq]
  generalize (lg_sl ([.ref (g 0)]) ++ List.replicate (1 - (lg_sl ([.ref (g 0)])).length) Slot.unset).toArray = ls at hl ⊢
  exact tX6_readFirstToken_b0 K E u _ _ _ hl hP hD0.self va_S.rf h1
-- X6_failAt
theorem inX6_failAt_X6 : ∀ w ∈ u_ws RX6 TX6 11, w ∈ wsX6_failAt := k_lays 3 rfl
theorem lkX6_failAt_19 : Cond.fieldLink RX6 19 "FerryRamp$Parser" "errorCode" "I" ∈ wsX6_failAt := List.mem_of_getElem? (i := 1) rfl
theorem lkX6_failAt_22 : Cond.fieldLink RX6 22 "FerryRamp$Parser" "errorPosition" "I" ∈ wsX6_failAt := List.mem_of_getElem? (i := 2) rfl
abbrev rmX6_failAt : Room := { frames := 0, cells := 0, slots := 0, locals := 0 }
def fX6_failAt_b0 (x1 : Int32) (x2 : Int32) (u : PS) : Option (PS) :=
  (if (pEc u) = 0 then some (tEp (tEc u x1) x2) else some u)
set_option maxHeartbeats 4000000 in
set_option maxRecDepth 100000 in
theorem tX6_failAt_b0 {p : Program} {l : Launch} {e : Env} {s : State} {m : MethodId} {args : Array Value} {below : List Frame} {meth : Method} {c : Code} {D : va_G} {cy : Nat → ClassId} {A : Nat → Prop} {g : Nat → Nat} (K : PS → Prop) (E : mE D cy RX6 cX6_failAt 3 none wsX6_failAt A p s m args meth c)
     (x1 : Int32) (x2 : Int32) (u : PS) (H : Heap) (locs : List Loc) (ls : Array Slot) (hl : lv_has ls 3 [(0, .ref (g 0)), (1, .int x1), (2, .int x2)]) (hP : va_P D kCl (wP cy g u) H) (hD : va_D A (wP cy g u)) (hS : va_S A s.heap H locs) (h1 : Ok (fX6_failAt_b0 x1 x2 u) K) :
    kW p l e rmX6_failAt s m args below meth c H locs (va_Qv K (fun q => kPost D A (wP cy g q)) A) A 0 ls [] := by
  obtain ⟨hx, hb, hr, hml, hown, hts, hlocks, hK, hA⟩ := id E
  unfold fX6_failAt_b0 at h1
  refine lv_aload_n hx hb dX6_failAt_0 rfl (lv_at hl 0 rfl) ?_
  refine k_get (v := .int (pEc u)) (C := RX6) (T := TX6) (N := 11) hx hb hts inX6_failAt_X6 hown hK hP 0 (wP_a0 _ _ _) rfl 2 (by decide) lkX6_failAt_19 (pFs_2 _ _) dX6_failAt_1 ?_
  refine lv_if_ne (tgt := 17) hx hb dX6_failAt_4 (by decide) (fun c4 => ?_) (fun c4 => ?_)
  · replace h1 := Ok.neg c4 h1
    exact kret_v hx hb hr hlocks hP hD hS h1 dX6_failAt_17
  · replace h1 := Ok.pos c4 h1
    refine lv_aload_n hx hb dX6_failAt_7 rfl (lv_at hl 0 rfl) ?_
    refine lv_iload_n hx hb dX6_failAt_8 rfl (lv_at hl 1 rfl) ?_
    refine k_put (v := .int x1) (ty := .int) (C := RX6) (T := TX6) (N := 11) hx hb hts inX6_failAt_X6 tyX6 tyX6_ok nmX6 hown hK hP hD hS 0 (wP_a0 _ _ _) rfl 2 (by decide) lkX6_failAt_19 rfl (by decide +kernel) rfl rfl (Nat.le_of_ble_eq_true rfl) (ws' := wP cy g (tEc u x1)) (wP_tEc _ _ _ _) dX6_failAt_9 (fun H locs hP hD hS => ?_)
    refine lv_aload_n hx hb dX6_failAt_12 rfl (lv_at hl 0 rfl) ?_
    refine lv_iload_n hx hb dX6_failAt_13 rfl (lv_at hl 2 rfl) ?_
    refine k_put (v := .int x2) (ty := .int) (C := RX6) (T := TX6) (N := 11) hx hb hts inX6_failAt_X6 tyX6 tyX6_ok nmX6 hown hK hP hD hS 0 (wP_a0 _ _ _) rfl 3 (by decide) lkX6_failAt_22 rfl (by decide +kernel) rfl rfl (Nat.le_of_ble_eq_true rfl) (ws' := wP cy g (tEp (tEc u x1) x2)) (wP_tEp _ _ _ _) dX6_failAt_14 (fun H locs hP hD hS => ?_)
    exact kret_v hx hb hr hlocks hP hD hS h1 dX6_failAt_17
def fX6_failAt (p1 : Int32) (p2 : Int32) (u : PS) : Option (PS) := fX6_failAt_b0 p1 p2 u
set_option maxHeartbeats 4000000 in
set_option maxRecDepth 100000 in
theorem cX6_failAtM (l : Launch) (D : va_G) (cy : Nat → ClassId) (g : Nat → Nat) (sz : Nat) (u : PS) (p1 : Int32) (p2 : Int32) : ∀ (K : PS → Prop), Ok (fX6_failAt p1 p2 u) K → Met l yX6_failAt wsX6_failAt rmX6_failAt (va_Pc [.ref (g 0), .int p1, .int p2] (kPre D cy sz (wP cy g u))) (va_Qv K (fun q => kPost D (va_A (wP cy g u) sz) (wP cy g q)) (va_A (wP cy g u) sz)) 0 0 (va_A (wP cy g u) sz) := by
  intro K h1
  refine Met.ofW (cc := cX6_failAt) (maxL := 3) (ret := none) (by decide) rfl ?_
  intro p e s m args below meth c s₁ B hml hv
  obtain ⟨rfl, hsz, hP, hK, hD0⟩ := hv
  subst hsz
  have E : mE D cy RX6 cX6_failAt 3 none wsX6_failAt (va_A (wP cy g u) s.heap.size) p s m _ meth c := ⟨B.exec, B.bytes, B.returns, hml, findClass_of_methodNamed B.named, atoms_spec (ws := wsX6_failAt) B.pre, B.notSynchronized, hK, fun q h => Or.inr h⟩
  have hl := lv_entry ([.ref (g 0), .int p1, .int p2]) (n := 3) (Nat.le_of_ble_eq_true rfl)
  rw [lg_entry_eq]
  generalize (lg_sl ([.ref (g 0), .int p1, .int p2]) ++ List.replicate (3 - (lg_sl ([.ref (g 0), .int p1, .int p2])).length) Slot.unset).toArray = ls at hl ⊢
  exact tX6_failAt_b0 K E p1 p2 u _ _ _ hl hP hD0.self va_S.rf h1
-- X6_fail
theorem inX6_fail_X6 : ∀ w ∈ u_ws RX6 TX6 11, w ∈ wsX6_fail := k_lays 9 rfl
theorem lkX6_fail_36 : Cond.fieldLink RX6 36 "FerryRamp$Parser" "start" "I" ∈ wsX6_fail := List.mem_of_getElem? (i := 1) rfl
theorem hdX6_failAt : yX6_failAt.cls = RX6 ∧ yX6_failAt.cls ≠ "java/lang/invoke/MethodHandle" ∧ yX6_failAt.cls ≠ "java/lang/invoke/VarHandle" ∧ (parseMethodDescriptor yX6_failAt.desc).map (fun d => d.parameters.length) = some 2 := by decide +kernel
abbrev rmX6_fail : Room := { frames := 1, cells := 0, slots := 0, locals := 22 }
def fX6_fail_b0 (x1 : Int32) (u : PS) : Option (PS) :=
  bnd (fX6_failAt x1 (pSt u) u) (fun u6 => some u6)
set_option maxHeartbeats 4000000 in
set_option maxRecDepth 100000 in
theorem tX6_fail_b0 {p : Program} {l : Launch} {e : Env} {s : State} {m : MethodId} {args : Array Value} {below : List Frame} {meth : Method} {c : Code} {D : va_G} {cy : Nat → ClassId} {A : Nat → Prop} {g : Nat → Nat} (K : PS → Prop) (E : mE D cy RX6 cX6_fail 2 none wsX6_fail A p s m args meth c)
     (x1 : Int32) (u : PS) (H : Heap) (locs : List Loc) (ls : Array Slot) (hl : lv_has ls 2 [(0, .ref (g 0)), (1, .int x1)]) (hP : va_P D kCl (wP cy g u) H) (hD : va_D A (wP cy g u)) (hS : va_S A s.heap H locs) (h1 : Ok (fX6_fail_b0 x1 u) K) :
    kW p l e rmX6_fail s m args below meth c H locs (va_Qv K (fun q => kPost D A (wP cy g q)) A) A 0 ls [] := by
  obtain ⟨hx, hb, hr, hml, hown, hts, hlocks, hK, hA⟩ := id E
  unfold fX6_fail_b0 at h1
  refine lv_aload_n hx hb dX6_fail_0 rfl (lv_at hl 0 rfl) ?_
  refine lv_iload_n hx hb dX6_fail_1 rfl (lv_at hl 1 rfl) ?_
  refine lv_aload_n hx hb dX6_fail_2 rfl (lv_at hl 0 rfl) ?_
  refine k_get (v := .int (pSt u)) (C := RX6) (T := TX6) (N := 11) hx hb hts inX6_fail_X6 hown hK hP 0 (wP_a0 _ _ _) rfl 7 (by decide) lkX6_fail_36 (pFs_7 _ _) dX6_fail_3 ?_
  refine kc_vV0 (b := (g 0)) (As := [.int x1, .int (pSt u)]) (rest := []) h1 ⟨hx, hb, hml, hown, hts⟩ (cX6_failAtM l D cy g H.size u x1 (pSt u)) (cwV 2 hts gX6_fail_X6_failAt rfl rfl rfl hdX6_failAt ⟨Nat.le_of_ble_eq_true rfl, Nat.le_of_ble_eq_true rfl⟩) hK hP hD hS hA (q0 := 0) rfl rfl rfl hl.1 rfl (Nat.le_of_ble_eq_true rfl) dX6_fail_6 ⟨Nat.zero_le _, Nat.zero_le _⟩ (fun u6 H locs h1 hP hD hS => ?_)
  exact kret_v hx hb hr hlocks hP hD hS h1 dX6_fail_9
def fX6_fail (p1 : Int32) (u : PS) : Option (PS) := fX6_fail_b0 p1 u
set_option maxHeartbeats 4000000 in
set_option maxRecDepth 100000 in
theorem cX6_failM (l : Launch) (D : va_G) (cy : Nat → ClassId) (g : Nat → Nat) (sz : Nat) (u : PS) (p1 : Int32) : ∀ (K : PS → Prop), Ok (fX6_fail p1 u) K → Met l yX6_fail wsX6_fail rmX6_fail (va_Pc [.ref (g 0), .int p1] (kPre D cy sz (wP cy g u))) (va_Qv K (fun q => kPost D (va_A (wP cy g u) sz) (wP cy g q)) (va_A (wP cy g u) sz)) 0 0 (va_A (wP cy g u) sz) := by
  intro K h1
  refine Met.ofW (cc := cX6_fail) (maxL := 2) (ret := none) (by decide) rfl ?_
  intro p e s m args below meth c s₁ B hml hv
  obtain ⟨rfl, hsz, hP, hK, hD0⟩ := hv
  subst hsz
  have E : mE D cy RX6 cX6_fail 2 none wsX6_fail (va_A (wP cy g u) s.heap.size) p s m _ meth c := ⟨B.exec, B.bytes, B.returns, hml, findClass_of_methodNamed B.named, atoms_spec (ws := wsX6_fail) B.pre, B.notSynchronized, hK, fun q h => Or.inr h⟩
  have hl := lv_entry ([.ref (g 0), .int p1]) (n := 2) (Nat.le_of_ble_eq_true rfl)
  rw [lg_entry_eq]
  generalize (lg_sl ([.ref (g 0), .int p1]) ++ List.replicate (2 - (lg_sl ([.ref (g 0), .int p1])).length) Slot.unset).toArray = ls at hl ⊢
  exact tX6_fail_b0 K E p1 u _ _ _ hl hP hD0.self va_S.rf h1
-- X6_numberHere
theorem inX6_numberHere_X6 : ∀ w ∈ u_ws RX6 TX6 11, w ∈ wsX6_numberHere := k_lays 8 rfl
theorem lkX6_numberHere_36 : Cond.fieldLink RX6 36 "FerryRamp$Parser" "start" "I" ∈ wsX6_numberHere := List.mem_of_getElem? (i := 1) rfl
theorem lkX6_numberHere_39 : Cond.fieldLink RX6 39 "FerryRamp$Parser" "end" "I" ∈ wsX6_numberHere := List.mem_of_getElem? (i := 2) rfl
theorem lkX6_numberHere_9 : Cond.fieldLink RX6 9 "FerryRamp$Parser" "bytes" "[I" ∈ wsX6_numberHere := List.mem_of_getElem? (i := 3) rfl
theorem lcX6_numberHere_199 : Cond.constant RX6 199 (100000) ∈ wsX6_numberHere := List.mem_of_getElem? (i := 4) rfl
abbrev rmX6_numberHere : Room := { frames := 1, cells := 0, slots := 0, locals := 21 }
def fX6_numberHere_b41 (k7 : Int32 × Int32 → Option (Int32)) (x1 : Int32) (x2 : Int32) (u : PS) : Option (Int32) :=
  k7 (x1, x2 + 1)
set_option maxHeartbeats 4000000 in
set_option maxRecDepth 100000 in
theorem tX6_numberHere_b41 {p : Program} {l : Launch} {e : Env} {s : State} {m : MethodId} {args : Array Value} {below : List Frame} {meth : Method} {c : Code} {D : va_G} {cy : Nat → ClassId} {A : Nat → Prop} {g : Nat → Nat} (K : Int32 → Prop) (E : mE D cy RX6 cX6_numberHere 3 (some .int) wsX6_numberHere A p s m args meth c) (u : PS)
    (k7 : Int32 × Int32 → Option (Int32)) (hk7 : ∀ (x1 : Int32) (x2 : Int32) (H : Heap) (locs : List Loc) (ls : Array Slot), lv_has ls 3 [(0, .ref (g 0)), (1, .int x1), (2, .int x2)] → va_P D kCl (wP cy g u) H → va_D A (wP cy g u) → va_S A s.heap H locs → Ok (k7 (x1, x2)) K → kW p l e rmX6_numberHere s m args below meth c H locs (va_Qi (fun r (_ : Unit) => K r) (fun _ => kPost D A (wP cy g u)) A) A 7 ls [])
     (x1 : Int32) (x2 : Int32) (H : Heap) (locs : List Loc) (ls : Array Slot) (hl : lv_has ls 3 [(0, .ref (g 0)), (1, .int x1), (2, .int x2)]) (hP : va_P D kCl (wP cy g u) H) (hD : va_D A (wP cy g u)) (hS : va_S A s.heap H locs) (h1 : Ok (fX6_numberHere_b41 k7 x1 x2 u) K) :
    kW p l e rmX6_numberHere s m args below meth c H locs (va_Qi (fun r (_ : Unit) => K r) (fun _ => kPost D A (wP cy g u)) A) A 41 ls [] := by
  obtain ⟨hx, hb, hr, hml, hown, hts, hlocks, hK, hA⟩ := id E
  unfold fX6_numberHere_b41 at h1
  refine lv_iinc (v := x2 + 1) (lv' := [(2, .int (x2 + 1)), (0, .ref (g 0)), (1, .int x1)]) hx hb dX6_numberHere_41 hl (k := 2) rfl rfl (by decide) rfl (fun ls hl => ?_)
  refine lv_goto (tgt := 7) hx hb dX6_numberHere_44 (by decide) ?_
  exact hk7 x1 (x2 + 1) H locs ls (lv_sub hl [1, 2, 0] rfl) hP hD hS h1
def fX6_numberHere_b7 (k7 : Int32 × Int32 → Option (Int32)) (x1 : Int32) (x2 : Int32) (u : PS) : Option (Int32) :=
  (if (pEn u) ≤ x2 then some x1 else bnd (fX9_at x2 500 (pBy u)) (fun r24 => (if (((x1 * 10) + r24) - 48) ≤ 100000 then fX6_numberHere_b41 k7 (((x1 * 10) + r24) - 48) x2 u else fX6_numberHere_b41 k7 100000 x2 u)))
set_option maxHeartbeats 4000000 in
set_option maxRecDepth 100000 in
theorem tX6_numberHere_b7 {p : Program} {l : Launch} {e : Env} {s : State} {m : MethodId} {args : Array Value} {below : List Frame} {meth : Method} {c : Code} {D : va_G} {cy : Nat → ClassId} {A : Nat → Prop} {g : Nat → Nat} (K : Int32 → Prop) (E : mE D cy RX6 cX6_numberHere 3 (some .int) wsX6_numberHere A p s m args meth c) (u : PS)
    (k7 : Int32 × Int32 → Option (Int32)) (hk7 : ∀ (x1 : Int32) (x2 : Int32) (H : Heap) (locs : List Loc) (ls : Array Slot), lv_has ls 3 [(0, .ref (g 0)), (1, .int x1), (2, .int x2)] → va_P D kCl (wP cy g u) H → va_D A (wP cy g u) → va_S A s.heap H locs → Ok (k7 (x1, x2)) K → kW p l e rmX6_numberHere s m args below meth c H locs (va_Qi (fun r (_ : Unit) => K r) (fun _ => kPost D A (wP cy g u)) A) A 7 ls [])
     (x1 : Int32) (x2 : Int32) (H : Heap) (locs : List Loc) (ls : Array Slot) (hl : lv_has ls 3 [(0, .ref (g 0)), (1, .int x1), (2, .int x2)]) (hP : va_P D kCl (wP cy g u) H) (hD : va_D A (wP cy g u)) (hS : va_S A s.heap H locs) (h1 : Ok (fX6_numberHere_b7 k7 x1 x2 u) K) :
    kW p l e rmX6_numberHere s m args below meth c H locs (va_Qi (fun r (_ : Unit) => K r) (fun _ => kPost D A (wP cy g u)) A) A 7 ls [] := by
  obtain ⟨hx, hb, hr, hml, hown, hts, hlocks, hK, hA⟩ := id E
  unfold fX6_numberHere_b7 at h1
  refine lv_iload_n hx hb dX6_numberHere_7 rfl (lv_at hl 2 rfl) ?_
  refine lv_aload_n hx hb dX6_numberHere_8 rfl (lv_at hl 0 rfl) ?_
  refine k_get (v := .int (pEn u)) (C := RX6) (T := TX6) (N := 11) hx hb hts inX6_numberHere_X6 hown hK hP 0 (wP_a0 _ _ _) rfl 8 (by decide) lkX6_numberHere_39 (pFs_8 _ _) dX6_numberHere_9 ?_
  refine lv_icmp_ge (tgt := 47) hx hb dX6_numberHere_12 (by decide) (fun c12 => ?_) (fun c12 => ?_)
  · replace h1 := Ok.pos c12 h1
    refine lv_iload_n hx hb dX6_numberHere_47 rfl (lv_at hl 1 rfl) ?_
    exact kret_r hx hb hr hlocks hP hD hS h1 dX6_numberHere_48
  · replace h1 := Ok.neg c12 h1
    refine lv_iload_n hx hb dX6_numberHere_15 rfl (lv_at hl 1 rfl) ?_
    refine lv_bipush (v := 10) hx hb dX6_numberHere_16 rfl ?_
    refine lv_imul hx hb dX6_numberHere_18 ?_
    refine lv_aload_n hx hb dX6_numberHere_19 rfl (lv_at hl 0 rfl) ?_
    refine k_get (v := .ref (g 1)) (C := RX6) (T := TX6) (N := 11) hx hb hts inX6_numberHere_X6 hown hK hP 0 (wP_a0 _ _ _) rfl 0 (by decide) lkX6_numberHere_9 (pFs_0 _ _) dX6_numberHere_20 ?_
    refine lv_iload_n hx hb dX6_numberHere_23 rfl (lv_at hl 2 rfl) ?_
    refine kc_rSN (As := [.ref (g 1), .int x2]) (rest := [.int (x1 * 10)]) h1 ⟨hx, hb, hml, hown, hts⟩ (cX9_atM l D cy (g 1) H.size 500 (pBy u) x2) ⟨va_cnB 2 hts gX6_numberHere_X9_at_n48 rfl rfl rfl hK.2.2.2.1 (hts _ (List.mem_of_getElem? (i := 6) rfl)) heX9_at ⟨Nat.le_of_ble_eq_true rfl, Nat.le_of_ble_eq_true rfl⟩, hts _ (List.mem_of_getElem? (i := 5) rfl), trivial⟩ hK (k_pick (k := 1) (wP_a1 _ _ _)) hP hD hS hA rfl hl.1 rfl (Nat.le_of_ble_eq_true rfl) dX6_numberHere_24 ⟨Nat.zero_le _, Nat.zero_le _⟩ (fun r24 H locs h1 hP hS => ?_)
    refine lv_iadd hx hb dX6_numberHere_27 ?_
    refine lv_bipush (v := 48) hx hb dX6_numberHere_28 rfl ?_
    refine lv_isub hx hb dX6_numberHere_30 ?_
    refine lv_istore_n (lv' := [(1, .int (((x1 * 10) + r24) - 48)), (0, .ref (g 0)), (2, .int x2)]) hx hb dX6_numberHere_31 rfl hl (by decide) rfl (fun ls hl => ?_)
    refine lv_iload_n hx hb dX6_numberHere_32 rfl (lv_at hl 0 rfl) ?_
    refine lv_ldc (v := 100000) hx hb hown (hts _ lcX6_numberHere_199) dX6_numberHere_33 ?_
    refine lv_icmp_le (tgt := 41) hx hb dX6_numberHere_35 (by decide) (fun c35 => ?_) (fun c35 => ?_)
    · replace h1 := Ok.pos c35 h1
      exact tX6_numberHere_b41 K E u k7 hk7 (((x1 * 10) + r24) - 48) x2 H locs ls (lv_sub hl [1, 0, 2] rfl) hP hD hS h1
    · replace h1 := Ok.neg c35 h1
      refine lv_ldc (v := 100000) hx hb hown (hts _ lcX6_numberHere_199) dX6_numberHere_38 ?_
      refine lv_istore_n (lv' := [(1, .int 100000), (0, .ref (g 0)), (2, .int x2)]) hx hb dX6_numberHere_40 rfl hl (by decide) rfl (fun ls hl => ?_)
      exact tX6_numberHere_b41 K E u k7 hk7 100000 x2 H locs ls (lv_sub hl [1, 0, 2] rfl) hP hD hS h1
theorem tX6_numberHere_l7 {p : Program} {l : Launch} {e : Env} {s : State} {m : MethodId} {args : Array Value} {below : List Frame} {meth : Method} {c : Code} {D : va_G} {cy : Nat → ClassId} {A : Nat → Prop} {g : Nat → Nat} (K : Int32 → Prop) (E : mE D cy RX6 cX6_numberHere 3 (some .int) wsX6_numberHere A p s m args meth c) (u : PS) : ∀ (n9 : Nat) (x1 : Int32) (x2 : Int32) (H : Heap) (locs : List Loc) (ls : Array Slot), lv_has ls 3 [(0, .ref (g 0)), (1, .int x1), (2, .int x2)] → va_P D kCl (wP cy g u) H → va_D A (wP cy g u) → va_S A s.heap H locs → Ok (lop (fun y z => fX6_numberHere_b7 y z.1 z.2 u) n9 (x1, x2)) K → kW p l e rmX6_numberHere s m args below meth c H locs (va_Qi (fun r (_ : Unit) => K r) (fun _ => kPost D A (wP cy g u)) A) A 7 ls [] := by
  intro n9
  induction n9 with
  | zero =>
    intro x1 x2 H locs ls hl hP hD hS h1
    exact h1.no
  | succ n9 ih =>
    intro x1 x2 H locs ls hl hP hD hS h1
    exact tX6_numberHere_b7 K E u (lop (fun y z => fX6_numberHere_b7 y z.1 z.2 u) n9) (fun x1 x2 H locs ls hl hP hD hS h1 => ih x1 x2 H locs ls hl hP hD hS h1) x1 x2 H locs ls hl hP hD hS h1
def fX6_numberHere_b0 (u : PS) : Option (Int32) :=
  lop (fun y z => fX6_numberHere_b7 y z.1 z.2 u) LF (0, pSt u)
set_option maxHeartbeats 4000000 in
set_option maxRecDepth 100000 in
theorem tX6_numberHere_b0 {p : Program} {l : Launch} {e : Env} {s : State} {m : MethodId} {args : Array Value} {below : List Frame} {meth : Method} {c : Code} {D : va_G} {cy : Nat → ClassId} {A : Nat → Prop} {g : Nat → Nat} (K : Int32 → Prop) (E : mE D cy RX6 cX6_numberHere 3 (some .int) wsX6_numberHere A p s m args meth c) (u : PS)
     (H : Heap) (locs : List Loc) (ls : Array Slot) (hl : lv_has ls 3 [(0, .ref (g 0))]) (hP : va_P D kCl (wP cy g u) H) (hD : va_D A (wP cy g u)) (hS : va_S A s.heap H locs) (h1 : Ok (fX6_numberHere_b0 u) K) :
    kW p l e rmX6_numberHere s m args below meth c H locs (va_Qi (fun r (_ : Unit) => K r) (fun _ => kPost D A (wP cy g u)) A) A 0 ls [] := by
  obtain ⟨hx, hb, hr, hml, hown, hts, hlocks, hK, hA⟩ := id E
  unfold fX6_numberHere_b0 at h1
  refine lv_iconst (v := 0) hx hb dX6_numberHere_0 rfl ?_
  refine lv_istore_n (lv' := [(1, .int 0), (0, .ref (g 0))]) hx hb dX6_numberHere_1 rfl hl (by decide) rfl (fun ls hl => ?_)
  refine lv_aload_n hx hb dX6_numberHere_2 rfl (lv_at hl 1 rfl) ?_
  refine k_get (v := .int (pSt u)) (C := RX6) (T := TX6) (N := 11) hx hb hts inX6_numberHere_X6 hown hK hP 0 (wP_a0 _ _ _) rfl 7 (by decide) lkX6_numberHere_36 (pFs_7 _ _) dX6_numberHere_3 ?_
  refine lv_istore_n (lv' := [(2, .int (pSt u)), (1, .int 0), (0, .ref (g 0))]) hx hb dX6_numberHere_6 rfl hl (by decide) rfl (fun ls hl => ?_)
  exact tX6_numberHere_l7 K E u LF 0 (pSt u) H locs ls (lv_sub hl [2, 1, 0] rfl) hP hD hS h1
def fX6_numberHere (u : PS) : Option (Int32) := fX6_numberHere_b0 u
set_option maxHeartbeats 4000000 in
set_option maxRecDepth 100000 in
theorem cX6_numberHereM (l : Launch) (D : va_G) (cy : Nat → ClassId) (g : Nat → Nat) (sz : Nat) (u : PS) : ∀ (K : Int32 → Prop), Ok (fX6_numberHere u) K → Met l yX6_numberHere wsX6_numberHere rmX6_numberHere (va_Pc [.ref (g 0)] (kPre D cy sz (wP cy g u))) (va_Qi (fun r (_ : Unit) => K r) (fun _ => kPost D (va_A (wP cy g u) sz) (wP cy g u)) (va_A (wP cy g u) sz)) 0 0 (va_A (wP cy g u) sz) := by
  intro K h1
  refine Met.ofW (cc := cX6_numberHere) (maxL := 3) (ret := (some .int)) (by decide) rfl ?_
  intro p e s m args below meth c s₁ B hml hv
  obtain ⟨rfl, hsz, hP, hK, hD0⟩ := hv
  subst hsz
  have E : mE D cy RX6 cX6_numberHere 3 (some .int) wsX6_numberHere (va_A (wP cy g u) s.heap.size) p s m _ meth c := ⟨B.exec, B.bytes, B.returns, hml, findClass_of_methodNamed B.named, atoms_spec (ws := wsX6_numberHere) B.pre, B.notSynchronized, hK, fun q h => Or.inr h⟩
  have hl := lv_entry ([.ref (g 0)]) (n := 3) (Nat.le_of_ble_eq_true rfl)
  rw [lg_entry_eq]
  generalize (lg_sl ([.ref (g 0)]) ++ List.replicate (3 - (lg_sl ([.ref (g 0)])).length) Slot.unset).toArray = ls at hl ⊢
  exact tX6_numberHere_b0 K E u _ _ _ hl hP hD0.self va_S.rf h1
-- X6_isHere
theorem inX6_isHere_X6 : ∀ w ∈ u_ws RX6 TX6 11, w ∈ wsX6_isHere := k_lays 57 rfl
theorem lkX6_isHere_33 : Cond.fieldLink RX6 33 "FerryRamp$Parser" "type" "I" ∈ wsX6_isHere := List.mem_of_getElem? (i := 1) rfl
theorem lkX6_isHere_39 : Cond.fieldLink RX6 39 "FerryRamp$Parser" "end" "I" ∈ wsX6_isHere := List.mem_of_getElem? (i := 2) rfl
theorem lkX6_isHere_36 : Cond.fieldLink RX6 36 "FerryRamp$Parser" "start" "I" ∈ wsX6_isHere := List.mem_of_getElem? (i := 3) rfl
theorem lkX6_isHere_9 : Cond.fieldLink RX6 9 "FerryRamp$Parser" "bytes" "[I" ∈ wsX6_isHere := List.mem_of_getElem? (i := 4) rfl
abbrev rmX6_isHere : Room := { frames := 4, cells := 0, slots := 0, locals := 85 }
def fX6_isHere_b28 (k28 : Int32 → Option (Int32)) (x2 : Int32) (w1 : Nat) (u : PS) : Option (Int32) :=
  bnd (fJ0_length_8abf5 w1) (fun r30 => (if r30 ≤ x2 then some 1 else bnd (fX9_at ((pSt u) + x2) 500 (pBy u)) (fun r46 => bnd (fJ0_charAt_5068e x2 w1) (fun r51 => (if r46 = r51 then k28 (x2 + 1) else some 0)))))
set_option maxHeartbeats 4000000 in
set_option maxRecDepth 100000 in
theorem tX6_isHere_b28 {p : Program} {l : Launch} {e : Env} {s : State} {m : MethodId} {args : Array Value} {below : List Frame} {meth : Method} {c : Code} {D : va_G} {cy : Nat → ClassId} {A : Nat → Prop} {g : Nat → Nat} {za zv : Nat → Nat} (K : Int32 → Prop) (E : mE D cy RX6 cX6_isHere 3 (some .boolean) wsX6_isHere A p s m args meth c) (w1 : Nat) (hZ : mZ za zv A s s.heap) (hw1 : w1 < 39) (u : PS)
    (k28 : Int32 → Option (Int32)) (hk28 : ∀ (x2 : Int32) (H : Heap) (locs : List Loc) (ls : Array Slot), lv_has ls 3 [(0, .ref (g 0)), (1, .ref (za w1)), (2, .int x2)] → va_P D kCl (wP cy g u) H → va_D A (wP cy g u) → va_S A s.heap H locs → Ok (k28 x2) K → kW p l e rmX6_isHere s m args below meth c H locs (va_Qi (fun r (_ : Unit) => K r) (fun _ => kPost D A (wP cy g u)) A) A 28 ls [])
     (x2 : Int32) (H : Heap) (locs : List Loc) (ls : Array Slot) (hl : lv_has ls 3 [(0, .ref (g 0)), (1, .ref (za w1)), (2, .int x2)]) (hP : va_P D kCl (wP cy g u) H) (hD : va_D A (wP cy g u)) (hS : va_S A s.heap H locs) (h1 : Ok (fX6_isHere_b28 k28 x2 w1 u) K) :
    kW p l e rmX6_isHere s m args below meth c H locs (va_Qi (fun r (_ : Unit) => K r) (fun _ => kPost D A (wP cy g u)) A) A 28 ls [] := by
  obtain ⟨hx, hb, hr, hml, hown, hts, hlocks, hK, hA⟩ := id E
  unfold fX6_isHere_b28 at h1
  refine lv_iload_n hx hb dX6_isHere_28 rfl (lv_at hl 2 rfl) ?_
  refine lv_aload_n hx hb dX6_isHere_29 rfl (lv_at hl 1 rfl) ?_
  refine kz_str (As := []) (rest := [.int x2]) h1 ⟨hx, hb, hml, hown, hts⟩ hw1 (cJ0_length_8abf5M l D cy za zv H.size w1 hw1) (cwV 0 hts gX6_isHere_J0_length_8abf5 rfl rfl rfl hdJ0_length_8abf5 ⟨Nat.le_of_ble_eq_true rfl, Nat.le_of_ble_eq_true rfl⟩) hZ hK hP hD hS hA rfl hl.1 rfl (Nat.le_of_ble_eq_true rfl) dX6_isHere_30 ⟨Nat.zero_le _, Nat.zero_le _⟩ (fun r30 H locs h1 hP hS => ?_)
  refine lv_icmp_ge (tgt := 65) hx hb dX6_isHere_33 (by decide) (fun c33 => ?_) (fun c33 => ?_)
  · replace h1 := Ok.pos c33 h1
    refine lv_iconst (v := 1) hx hb dX6_isHere_65 rfl ?_
    exact kret_rz hx hb hr rfl hlocks hP hD hS h1 dX6_isHere_66
  · replace h1 := Ok.neg c33 h1
    refine lv_aload_n hx hb dX6_isHere_36 rfl (lv_at hl 0 rfl) ?_
    refine k_get (v := .ref (g 1)) (C := RX6) (T := TX6) (N := 11) hx hb hts inX6_isHere_X6 hown hK hP 0 (wP_a0 _ _ _) rfl 0 (by decide) lkX6_isHere_9 (pFs_0 _ _) dX6_isHere_37 ?_
    refine lv_aload_n hx hb dX6_isHere_40 rfl (lv_at hl 0 rfl) ?_
    refine k_get (v := .int (pSt u)) (C := RX6) (T := TX6) (N := 11) hx hb hts inX6_isHere_X6 hown hK hP 0 (wP_a0 _ _ _) rfl 7 (by decide) lkX6_isHere_36 (pFs_7 _ _) dX6_isHere_41 ?_
    refine lv_iload_n hx hb dX6_isHere_44 rfl (lv_at hl 2 rfl) ?_
    refine lv_iadd hx hb dX6_isHere_45 ?_
    refine kc_rSN (As := [.ref (g 1), .int ((pSt u) + x2)]) (rest := []) h1 ⟨hx, hb, hml, hown, hts⟩ (cX9_atM l D cy (g 1) H.size 500 (pBy u) ((pSt u) + x2)) ⟨va_cnB 2 hts gX6_isHere_X9_at_n48 rfl rfl rfl hK.2.2.2.1 (hts _ (List.mem_of_getElem? (i := 18) rfl)) heX9_at ⟨Nat.le_of_ble_eq_true rfl, Nat.le_of_ble_eq_true rfl⟩, hts _ (List.mem_of_getElem? (i := 17) rfl), trivial⟩ hK (k_pick (k := 1) (wP_a1 _ _ _)) hP hD hS hA rfl hl.1 rfl (Nat.le_of_ble_eq_true rfl) dX6_isHere_46 ⟨Nat.zero_le _, Nat.zero_le _⟩ (fun r46 H locs h1 hP hS => ?_)
    refine lv_aload_n hx hb dX6_isHere_49 rfl (lv_at hl 1 rfl) ?_
    refine lv_iload_n hx hb dX6_isHere_50 rfl (lv_at hl 2 rfl) ?_
    refine kz_str (As := [.int x2]) (rest := [.int r46]) h1 ⟨hx, hb, hml, hown, hts⟩ hw1 (cJ0_charAt_5068eM l D cy za zv H.size w1 hw1 x2) (cwV 1 hts gX6_isHere_J0_charAt_5068e rfl rfl rfl hdJ0_charAt_5068e ⟨Nat.le_of_ble_eq_true rfl, Nat.le_of_ble_eq_true rfl⟩) hZ hK hP hD hS hA rfl hl.1 rfl (Nat.le_of_ble_eq_true rfl) dX6_isHere_51 ⟨Nat.zero_le _, Nat.zero_le _⟩ (fun r51 H locs h1 hP hS => ?_)
    refine lv_icmp_eq (tgt := 59) hx hb dX6_isHere_54 (by decide) (fun c54 => ?_) (fun c54 => ?_)
    · replace h1 := Ok.pos c54 h1
      refine lv_iinc (v := x2 + 1) (lv' := [(2, .int (x2 + 1)), (0, .ref (g 0)), (1, .ref (za w1))]) hx hb dX6_isHere_59 hl (k := 2) rfl rfl (by decide) rfl (fun ls hl => ?_)
      refine lv_goto (tgt := 28) hx hb dX6_isHere_62 (by decide) ?_
      exact hk28 (x2 + 1) H locs ls (lv_sub hl [1, 2, 0] rfl) hP hD hS h1
    · replace h1 := Ok.neg c54 h1
      refine lv_iconst (v := 0) hx hb dX6_isHere_57 rfl ?_
      exact kret_rz hx hb hr rfl hlocks hP hD hS h1 dX6_isHere_58
theorem tX6_isHere_l28 {p : Program} {l : Launch} {e : Env} {s : State} {m : MethodId} {args : Array Value} {below : List Frame} {meth : Method} {c : Code} {D : va_G} {cy : Nat → ClassId} {A : Nat → Prop} {g : Nat → Nat} {za zv : Nat → Nat} (K : Int32 → Prop) (E : mE D cy RX6 cX6_isHere 3 (some .boolean) wsX6_isHere A p s m args meth c) (w1 : Nat) (hZ : mZ za zv A s s.heap) (hw1 : w1 < 39) (u : PS) : ∀ (n9 : Nat) (x2 : Int32) (H : Heap) (locs : List Loc) (ls : Array Slot), lv_has ls 3 [(0, .ref (g 0)), (1, .ref (za w1)), (2, .int x2)] → va_P D kCl (wP cy g u) H → va_D A (wP cy g u) → va_S A s.heap H locs → Ok (lop (fun y z => fX6_isHere_b28 y z w1 u) n9 x2) K → kW p l e rmX6_isHere s m args below meth c H locs (va_Qi (fun r (_ : Unit) => K r) (fun _ => kPost D A (wP cy g u)) A) A 28 ls [] := by
  intro n9
  induction n9 with
  | zero =>
    intro x2 H locs ls hl hP hD hS h1
    exact h1.no
  | succ n9 ih =>
    intro x2 H locs ls hl hP hD hS h1
    exact tX6_isHere_b28 K E w1 hZ hw1 u (lop (fun y z => fX6_isHere_b28 y z w1 u) n9) (fun x2 H locs ls hl hP hD hS h1 => ih x2 H locs ls hl hP hD hS h1) x2 H locs ls hl hP hD hS h1
def fX6_isHere_b0 (w1 : Nat) (u : PS) : Option (Int32) :=
  (if (pTy u) = 1 then bnd (fJ0_length_8abf5 w1) (fun r18 => (if ((pEn u) - (pSt u)) = r18 then lop (fun y z => fX6_isHere_b28 y z w1 u) LF 0 else some 0)) else some 0)
set_option maxHeartbeats 4000000 in
set_option maxRecDepth 100000 in
theorem tX6_isHere_b0 {p : Program} {l : Launch} {e : Env} {s : State} {m : MethodId} {args : Array Value} {below : List Frame} {meth : Method} {c : Code} {D : va_G} {cy : Nat → ClassId} {A : Nat → Prop} {g : Nat → Nat} {za zv : Nat → Nat} (K : Int32 → Prop) (E : mE D cy RX6 cX6_isHere 3 (some .boolean) wsX6_isHere A p s m args meth c) (w1 : Nat) (hZ : mZ za zv A s s.heap) (hw1 : w1 < 39) (u : PS)
     (H : Heap) (locs : List Loc) (ls : Array Slot) (hl : lv_has ls 3 [(0, .ref (g 0)), (1, .ref (za w1))]) (hP : va_P D kCl (wP cy g u) H) (hD : va_D A (wP cy g u)) (hS : va_S A s.heap H locs) (h1 : Ok (fX6_isHere_b0 w1 u) K) :
    kW p l e rmX6_isHere s m args below meth c H locs (va_Qi (fun r (_ : Unit) => K r) (fun _ => kPost D A (wP cy g u)) A) A 0 ls [] := by
  obtain ⟨hx, hb, hr, hml, hown, hts, hlocks, hK, hA⟩ := id E
  unfold fX6_isHere_b0 at h1
  refine lv_aload_n hx hb dX6_isHere_0 rfl (lv_at hl 0 rfl) ?_
  refine k_get (v := .int (pTy u)) (C := RX6) (T := TX6) (N := 11) hx hb hts inX6_isHere_X6 hown hK hP 0 (wP_a0 _ _ _) rfl 6 (by decide) lkX6_isHere_33 (pFs_6 _ _) dX6_isHere_1 ?_
  refine lv_iconst (v := 1) hx hb dX6_isHere_4 rfl ?_
  refine lv_icmp_ne (tgt := 24) hx hb dX6_isHere_5 (by decide) (fun c5 => ?_) (fun c5 => ?_)
  · replace h1 := Ok.neg c5 h1
    refine lv_iconst (v := 0) hx hb dX6_isHere_24 rfl ?_
    exact kret_rz hx hb hr rfl hlocks hP hD hS h1 dX6_isHere_25
  · replace h1 := Ok.pos c5 h1
    refine lv_aload_n hx hb dX6_isHere_8 rfl (lv_at hl 0 rfl) ?_
    refine k_get (v := .int (pEn u)) (C := RX6) (T := TX6) (N := 11) hx hb hts inX6_isHere_X6 hown hK hP 0 (wP_a0 _ _ _) rfl 8 (by decide) lkX6_isHere_39 (pFs_8 _ _) dX6_isHere_9 ?_
    refine lv_aload_n hx hb dX6_isHere_12 rfl (lv_at hl 0 rfl) ?_
    refine k_get (v := .int (pSt u)) (C := RX6) (T := TX6) (N := 11) hx hb hts inX6_isHere_X6 hown hK hP 0 (wP_a0 _ _ _) rfl 7 (by decide) lkX6_isHere_36 (pFs_7 _ _) dX6_isHere_13 ?_
    refine lv_isub hx hb dX6_isHere_16 ?_
    refine lv_aload_n hx hb dX6_isHere_17 rfl (lv_at hl 1 rfl) ?_
    refine kz_str (As := []) (rest := [.int ((pEn u) - (pSt u))]) h1 ⟨hx, hb, hml, hown, hts⟩ hw1 (cJ0_length_8abf5M l D cy za zv H.size w1 hw1) (cwV 0 hts gX6_isHere_J0_length_8abf5 rfl rfl rfl hdJ0_length_8abf5 ⟨Nat.le_of_ble_eq_true rfl, Nat.le_of_ble_eq_true rfl⟩) hZ hK hP hD hS hA rfl hl.1 rfl (Nat.le_of_ble_eq_true rfl) dX6_isHere_18 ⟨Nat.zero_le _, Nat.zero_le _⟩ (fun r18 H locs h1 hP hS => ?_)
    refine lv_icmp_eq (tgt := 26) hx hb dX6_isHere_21 (by decide) (fun c21 => ?_) (fun c21 => ?_)
    · replace h1 := Ok.pos c21 h1
      refine lv_iconst (v := 0) hx hb dX6_isHere_26 rfl ?_
      refine lv_istore_n (lv' := [(2, .int 0), (0, .ref (g 0)), (1, .ref (za w1))]) hx hb dX6_isHere_27 rfl hl (by decide) rfl (fun ls hl => ?_)
      exact tX6_isHere_l28 K E w1 hZ hw1 u LF 0 H locs ls (lv_sub hl [1, 2, 0] rfl) hP hD hS h1
    · replace h1 := Ok.neg c21 h1
      refine lv_iconst (v := 0) hx hb dX6_isHere_24 rfl ?_
      exact kret_rz hx hb hr rfl hlocks hP hD hS h1 dX6_isHere_25
def fX6_isHere (w1 : Nat) (u : PS) : Option (Int32) := fX6_isHere_b0 w1 u
set_option maxHeartbeats 4000000 in
set_option maxRecDepth 100000 in
theorem cX6_isHereM (l : Launch) (D : va_G) (cy : Nat → ClassId) (za zv : Nat → Nat) (g : Nat → Nat) (sz : Nat) (w1 : Nat) (u : PS) (hw1 : w1 < 39) : ∀ (K : Int32 → Prop), Ok (fX6_isHere w1 u) K → Met l yX6_isHere wsX6_isHere rmX6_isHere (va_Pc [.ref (g 0), .ref (za w1)] (kPreZ D cy za zv sz (wP cy g u))) (va_Qi (fun r (_ : Unit) => K r) (fun _ => kPost D (va_A (wP cy g u) sz) (wP cy g u)) (va_A (wP cy g u) sz)) 0 0 (va_A (wP cy g u) sz) := by
  intro K h1
  refine Met.ofW (cc := cX6_isHere) (maxL := 3) (ret := (some .boolean)) (by decide) rfl ?_
  intro p e s m args below meth c s₁ B hml hv
  obtain ⟨rfl, ⟨hsz, hP, hK, hD0⟩, hZ⟩ := hv
  subst hsz
  have E : mE D cy RX6 cX6_isHere 3 (some .boolean) wsX6_isHere (va_A (wP cy g u) s.heap.size) p s m _ meth c := ⟨B.exec, B.bytes, B.returns, hml, findClass_of_methodNamed B.named, atoms_spec (ws := wsX6_isHere) B.pre, B.notSynchronized, hK, fun q h => Or.inr h⟩
  have hl := lv_entry ([.ref (g 0), .ref (za w1)]) (n := 3) (Nat.le_of_ble_eq_true rfl)
  rw [lg_entry_eq]
  generalize (lg_sl ([.ref (g 0), .ref (za w1)]) ++ List.replicate (3 - (lg_sl ([.ref (g 0), .ref (za w1)])).length) Slot.unset).toArray = ls at hl ⊢
  exact tX6_isHere_b0 K E w1 hZ hw1 u _ _ _ hl hP hD0.self va_S.rf h1
-- X6_readWord
theorem hdX6_isHere : yX6_isHere.cls = RX6 ∧ yX6_isHere.cls ≠ "java/lang/invoke/MethodHandle" ∧ yX6_isHere.cls ≠ "java/lang/invoke/VarHandle" ∧ (parseMethodDescriptor yX6_isHere.desc).map (fun d => d.parameters.length) = some 1 := by decide +kernel
theorem hdX6_fail : yX6_fail.cls = RX6 ∧ yX6_fail.cls ≠ "java/lang/invoke/MethodHandle" ∧ yX6_fail.cls ≠ "java/lang/invoke/VarHandle" ∧ (parseMethodDescriptor yX6_fail.desc).map (fun d => d.parameters.length) = some 1 := by decide +kernel
abbrev rmX6_readWord : Room := { frames := 5, cells := 0, slots := 0, locals := 107 }
def fX6_readWord_b0 (w1 : Nat) (u : PS) : Option (PS) :=
  bnd (fX6_isHere w1 u) (fun r2 => (if r2 = 0 then bnd (fX6_fail 1 u) (fun u17 => some u17) else bnd (fX6_readToken u) (fun u9 => some u9)))
set_option maxHeartbeats 4000000 in
set_option maxRecDepth 100000 in
theorem tX6_readWord_b0 {p : Program} {l : Launch} {e : Env} {s : State} {m : MethodId} {args : Array Value} {below : List Frame} {meth : Method} {c : Code} {D : va_G} {cy : Nat → ClassId} {A : Nat → Prop} {g : Nat → Nat} {za zv : Nat → Nat} (K : PS → Prop) (E : mE D cy RX6 cX6_readWord 2 none wsX6_readWord A p s m args meth c) (w1 : Nat) (hZ : mZ za zv A s s.heap) (hw1 : w1 < 39)
     (u : PS) (H : Heap) (locs : List Loc) (ls : Array Slot) (hl : lv_has ls 2 [(0, .ref (g 0)), (1, .ref (za w1))]) (hP : va_P D kCl (wP cy g u) H) (hD : va_D A (wP cy g u)) (hS : va_S A s.heap H locs) (h1 : Ok (fX6_readWord_b0 w1 u) K) :
    kW p l e rmX6_readWord s m args below meth c H locs (va_Qv K (fun q => kPost D A (wP cy g q)) A) A 0 ls [] := by
  obtain ⟨hx, hb, hr, hml, hown, hts, hlocks, hK, hA⟩ := id E
  unfold fX6_readWord_b0 at h1
  refine lv_aload_n hx hb dX6_readWord_0 rfl (lv_at hl 0 rfl) ?_
  refine lv_aload_n hx hb dX6_readWord_1 rfl (lv_at hl 1 rfl) ?_
  refine kz_rV0 (b := (g 0)) (As := [.ref (za w1)]) (rest := []) h1 ⟨hx, hb, hml, hown, hts⟩ (cX6_isHereM l D cy za zv g H.size w1 u hw1) (cwV 1 hts gX6_readWord_X6_isHere rfl rfl rfl hdX6_isHere ⟨Nat.le_of_ble_eq_true rfl, Nat.le_of_ble_eq_true rfl⟩) hZ hK hP hD hS hA (q0 := 0) rfl rfl rfl hl.1 rfl (Nat.le_of_ble_eq_true rfl) dX6_readWord_2 ⟨Nat.zero_le _, Nat.zero_le _⟩ (fun r2 H locs h1 hP hS => ?_)
  refine lv_if_eq (tgt := 15) hx hb dX6_readWord_5 (by decide) (fun c5 => ?_) (fun c5 => ?_)
  · replace h1 := Ok.pos c5 h1
    refine lv_aload_n hx hb dX6_readWord_15 rfl (lv_at hl 0 rfl) ?_
    refine lv_iconst (v := 1) hx hb dX6_readWord_16 rfl ?_
    refine kc_vV0 (b := (g 0)) (As := [.int 1]) (rest := []) h1 ⟨hx, hb, hml, hown, hts⟩ (cX6_failM l D cy g H.size u 1) (cwV 1 hts gX6_readWord_X6_fail rfl rfl rfl hdX6_fail ⟨Nat.le_of_ble_eq_true rfl, Nat.le_of_ble_eq_true rfl⟩) hK hP hD hS hA (q0 := 0) rfl rfl rfl hl.1 rfl (Nat.le_of_ble_eq_true rfl) dX6_readWord_17 ⟨Nat.zero_le _, Nat.zero_le _⟩ (fun u17 H locs h1 hP hD hS => ?_)
    exact kret_v hx hb hr hlocks hP hD hS h1 dX6_readWord_20
  · replace h1 := Ok.neg c5 h1
    refine lv_aload_n hx hb dX6_readWord_8 rfl (lv_at hl 0 rfl) ?_
    refine kc_vV0 (b := (g 0)) (As := []) (rest := []) h1 ⟨hx, hb, hml, hown, hts⟩ (cX6_readTokenM l D cy g H.size u) (cwV 0 hts gX6_readWord_X6_readToken rfl rfl rfl hdX6_readToken ⟨Nat.le_of_ble_eq_true rfl, Nat.le_of_ble_eq_true rfl⟩) hK hP hD hS hA (q0 := 0) rfl rfl rfl hl.1 rfl (Nat.le_of_ble_eq_true rfl) dX6_readWord_9 ⟨Nat.zero_le _, Nat.zero_le _⟩ (fun u9 H locs h1 hP hD hS => ?_)
    refine lv_goto (tgt := 20) hx hb dX6_readWord_12 (by decide) ?_
    exact kret_v hx hb hr hlocks hP hD hS h1 dX6_readWord_20
def fX6_readWord (w1 : Nat) (u : PS) : Option (PS) := fX6_readWord_b0 w1 u
set_option maxHeartbeats 4000000 in
set_option maxRecDepth 100000 in
theorem cX6_readWordM (l : Launch) (D : va_G) (cy : Nat → ClassId) (za zv : Nat → Nat) (g : Nat → Nat) (sz : Nat) (w1 : Nat) (u : PS) (hw1 : w1 < 39) : ∀ (K : PS → Prop), Ok (fX6_readWord w1 u) K → Met l yX6_readWord wsX6_readWord rmX6_readWord (va_Pc [.ref (g 0), .ref (za w1)] (kPreZ D cy za zv sz (wP cy g u))) (va_Qv K (fun q => kPost D (va_A (wP cy g u) sz) (wP cy g q)) (va_A (wP cy g u) sz)) 0 0 (va_A (wP cy g u) sz) := by
  intro K h1
  refine Met.ofW (cc := cX6_readWord) (maxL := 2) (ret := none) (by decide) rfl ?_
  intro p e s m args below meth c s₁ B hml hv
  obtain ⟨rfl, ⟨hsz, hP, hK, hD0⟩, hZ⟩ := hv
  subst hsz
  have E : mE D cy RX6 cX6_readWord 2 none wsX6_readWord (va_A (wP cy g u) s.heap.size) p s m _ meth c := ⟨B.exec, B.bytes, B.returns, hml, findClass_of_methodNamed B.named, atoms_spec (ws := wsX6_readWord) B.pre, B.notSynchronized, hK, fun q h => Or.inr h⟩
  have hl := lv_entry ([.ref (g 0), .ref (za w1)]) (n := 2) (Nat.le_of_ble_eq_true rfl)
  rw [lg_entry_eq]
  generalize (lg_sl ([.ref (g 0), .ref (za w1)]) ++ List.replicate (2 - (lg_sl ([.ref (g 0), .ref (za w1)])).length) Slot.unset).toArray = ls at hl ⊢
  exact tX6_readWord_b0 K E w1 hZ hw1 u _ _ _ hl hP hD0.self va_S.rf h1
-- X6_readSemicolon
theorem inX6_readSemicolon_X6 : ∀ w ∈ u_ws RX6 TX6 11, w ∈ wsX6_readSemicolon := k_lays 25 rfl
theorem lkX6_readSemicolon_33 : Cond.fieldLink RX6 33 "FerryRamp$Parser" "type" "I" ∈ wsX6_readSemicolon := List.mem_of_getElem? (i := 1) rfl
abbrev rmX6_readSemicolon : Room := { frames := 2, cells := 0, slots := 0, locals := 43 }
def fX6_readSemicolon_b0 (u : PS) : Option (PS) :=
  (if (pTy u) = 4 then bnd (fX6_readToken u) (fun u9 => some u9) else bnd (fX6_fail 1 u) (fun u17 => some u17))
set_option maxHeartbeats 4000000 in
set_option maxRecDepth 100000 in
theorem tX6_readSemicolon_b0 {p : Program} {l : Launch} {e : Env} {s : State} {m : MethodId} {args : Array Value} {below : List Frame} {meth : Method} {c : Code} {D : va_G} {cy : Nat → ClassId} {A : Nat → Prop} {g : Nat → Nat} (K : PS → Prop) (E : mE D cy RX6 cX6_readSemicolon 1 none wsX6_readSemicolon A p s m args meth c)
     (u : PS) (H : Heap) (locs : List Loc) (ls : Array Slot) (hl : lv_has ls 1 [(0, .ref (g 0))]) (hP : va_P D kCl (wP cy g u) H) (hD : va_D A (wP cy g u)) (hS : va_S A s.heap H locs) (h1 : Ok (fX6_readSemicolon_b0 u) K) :
    kW p l e rmX6_readSemicolon s m args below meth c H locs (va_Qv K (fun q => kPost D A (wP cy g q)) A) A 0 ls [] := by
  obtain ⟨hx, hb, hr, hml, hown, hts, hlocks, hK, hA⟩ := id E
  unfold fX6_readSemicolon_b0 at h1
  refine lv_aload_n hx hb dX6_readSemicolon_0 rfl (lv_at hl 0 rfl) ?_
  refine k_get (v := .int (pTy u)) (C := RX6) (T := TX6) (N := 11) hx hb hts inX6_readSemicolon_X6 hown hK hP 0 (wP_a0 _ _ _) rfl 6 (by decide) lkX6_readSemicolon_33 (pFs_6 _ _) dX6_readSemicolon_1 ?_
  refine lv_iconst (v := 4) hx hb dX6_readSemicolon_4 rfl ?_
  refine lv_icmp_ne (tgt := 15) hx hb dX6_readSemicolon_5 (by decide) (fun c5 => ?_) (fun c5 => ?_)
  · replace h1 := Ok.neg c5 h1
    refine lv_aload_n hx hb dX6_readSemicolon_15 rfl (lv_at hl 0 rfl) ?_
    refine lv_iconst (v := 1) hx hb dX6_readSemicolon_16 rfl ?_
    refine kc_vV0 (b := (g 0)) (As := [.int 1]) (rest := []) h1 ⟨hx, hb, hml, hown, hts⟩ (cX6_failM l D cy g H.size u 1) (cwV 1 hts gX6_readSemicolon_X6_fail rfl rfl rfl hdX6_fail ⟨Nat.le_of_ble_eq_true rfl, Nat.le_of_ble_eq_true rfl⟩) hK hP hD hS hA (q0 := 0) rfl rfl rfl hl.1 rfl (Nat.le_of_ble_eq_true rfl) dX6_readSemicolon_17 ⟨Nat.zero_le _, Nat.zero_le _⟩ (fun u17 H locs h1 hP hD hS => ?_)
    exact kret_v hx hb hr hlocks hP hD hS h1 dX6_readSemicolon_20
  · replace h1 := Ok.pos c5 h1
    refine lv_aload_n hx hb dX6_readSemicolon_8 rfl (lv_at hl 0 rfl) ?_
    refine kc_vV0 (b := (g 0)) (As := []) (rest := []) h1 ⟨hx, hb, hml, hown, hts⟩ (cX6_readTokenM l D cy g H.size u) (cwV 0 hts gX6_readSemicolon_X6_readToken rfl rfl rfl hdX6_readToken ⟨Nat.le_of_ble_eq_true rfl, Nat.le_of_ble_eq_true rfl⟩) hK hP hD hS hA (q0 := 0) rfl rfl rfl hl.1 rfl (Nat.le_of_ble_eq_true rfl) dX6_readSemicolon_9 ⟨Nat.zero_le _, Nat.zero_le _⟩ (fun u9 H locs h1 hP hD hS => ?_)
    refine lv_goto (tgt := 20) hx hb dX6_readSemicolon_12 (by decide) ?_
    exact kret_v hx hb hr hlocks hP hD hS h1 dX6_readSemicolon_20
def fX6_readSemicolon (u : PS) : Option (PS) := fX6_readSemicolon_b0 u
set_option maxHeartbeats 4000000 in
set_option maxRecDepth 100000 in
theorem cX6_readSemicolonM (l : Launch) (D : va_G) (cy : Nat → ClassId) (g : Nat → Nat) (sz : Nat) (u : PS) : ∀ (K : PS → Prop), Ok (fX6_readSemicolon u) K → Met l yX6_readSemicolon wsX6_readSemicolon rmX6_readSemicolon (va_Pc [.ref (g 0)] (kPre D cy sz (wP cy g u))) (va_Qv K (fun q => kPost D (va_A (wP cy g u) sz) (wP cy g q)) (va_A (wP cy g u) sz)) 0 0 (va_A (wP cy g u) sz) := by
  intro K h1
  refine Met.ofW (cc := cX6_readSemicolon) (maxL := 1) (ret := none) (by decide) rfl ?_
  intro p e s m args below meth c s₁ B hml hv
  obtain ⟨rfl, hsz, hP, hK, hD0⟩ := hv
  subst hsz
  have E : mE D cy RX6 cX6_readSemicolon 1 none wsX6_readSemicolon (va_A (wP cy g u) s.heap.size) p s m _ meth c := ⟨B.exec, B.bytes, B.returns, hml, findClass_of_methodNamed B.named, atoms_spec (ws := wsX6_readSemicolon) B.pre, B.notSynchronized, hK, fun q h => Or.inr h⟩
  have hl := lv_entry ([.ref (g 0)]) (n := 1) (Nat.le_of_ble_eq_true rfl)
  rw [lg_entry_eq]
  generalize (lg_sl ([.ref (g 0)]) ++ List.replicate (1 - (lg_sl ([.ref (g 0)])).length) Slot.unset).toArray = ls at hl ⊢
  exact tX6_readSemicolon_b0 K E u _ _ _ hl hP hD0.self va_S.rf h1
-- X6_readNumber
theorem inX6_readNumber_X6 : ∀ w ∈ u_ws RX6 TX6 11, w ∈ wsX6_readNumber := k_lays 33 rfl
theorem lkX6_readNumber_33 : Cond.fieldLink RX6 33 "FerryRamp$Parser" "type" "I" ∈ wsX6_readNumber := List.mem_of_getElem? (i := 1) rfl
theorem hdX6_numberHere : yX6_numberHere.cls = RX6 ∧ yX6_numberHere.cls ≠ "java/lang/invoke/MethodHandle" ∧ yX6_numberHere.cls ≠ "java/lang/invoke/VarHandle" ∧ (parseMethodDescriptor yX6_numberHere.desc).map (fun d => d.parameters.length) = some 0 := by decide +kernel
abbrev rmX6_readNumber : Room := { frames := 2, cells := 0, slots := 0, locals := 43 }
def fX6_readNumber_b30 (x1 : Int32) (u : PS) : Option (Int32 × PS) :=
  bnd (fX6_fail 2 u) (fun u32 => some (x1, u32))
set_option maxHeartbeats 4000000 in
set_option maxRecDepth 100000 in
theorem tX6_readNumber_b30 {p : Program} {l : Launch} {e : Env} {s : State} {m : MethodId} {args : Array Value} {below : List Frame} {meth : Method} {c : Code} {D : va_G} {cy : Nat → ClassId} {A : Nat → Prop} {g : Nat → Nat} (K : Int32 × PS → Prop) (E : mE D cy RX6 cX6_readNumber 4 (some .int) wsX6_readNumber A p s m args meth c)
     (x1 : Int32) (u : PS) (H : Heap) (locs : List Loc) (ls : Array Slot) (hl : lv_has ls 4 [(0, .ref (g 0)), (1, .int x1)]) (hP : va_P D kCl (wP cy g u) H) (hD : va_D A (wP cy g u)) (hS : va_S A s.heap H locs) (h1 : Ok (fX6_readNumber_b30 x1 u) K) :
    kW p l e rmX6_readNumber s m args below meth c H locs (va_Qi (fun r q => K (r, q)) (fun q => kPost D A (wP cy g q)) A) A 30 ls [] := by
  obtain ⟨hx, hb, hr, hml, hown, hts, hlocks, hK, hA⟩ := id E
  unfold fX6_readNumber_b30 at h1
  refine lv_aload_n hx hb dX6_readNumber_30 rfl (lv_at hl 0 rfl) ?_
  refine lv_iconst (v := 2) hx hb dX6_readNumber_31 rfl ?_
  refine kc_vV0 (b := (g 0)) (As := [.int 2]) (rest := []) h1 ⟨hx, hb, hml, hown, hts⟩ (cX6_failM l D cy g H.size u 2) (cwV 1 hts gX6_readNumber_X6_fail rfl rfl rfl hdX6_fail ⟨Nat.le_of_ble_eq_true rfl, Nat.le_of_ble_eq_true rfl⟩) hK hP hD hS hA (q0 := 0) rfl rfl rfl hl.1 rfl (Nat.le_of_ble_eq_true rfl) dX6_readNumber_32 ⟨Nat.zero_le _, Nat.zero_le _⟩ (fun u32 H locs h1 hP hD hS => ?_)
  refine lv_iload_n hx hb dX6_readNumber_35 rfl (lv_at hl 1 rfl) ?_
  exact kret_i hx hb hr hlocks hP hD hS h1 dX6_readNumber_36
def fX6_readNumber_b0 (x1 : Int32) (x2 : Int32) (u : PS) : Option (Int32 × PS) :=
  (if (pTy u) = 2 then bnd (fX6_numberHere u) (fun r16 => (if r16 < x1 then fX6_readNumber_b30 x1 u else (if r16 ≤ x2 then bnd (fX6_readToken u) (fun u38 => some (r16, u38)) else fX6_readNumber_b30 x1 u))) else bnd (fX6_fail 1 u) (fun u10 => some (x1, u10)))
set_option maxHeartbeats 4000000 in
set_option maxRecDepth 100000 in
theorem tX6_readNumber_b0 {p : Program} {l : Launch} {e : Env} {s : State} {m : MethodId} {args : Array Value} {below : List Frame} {meth : Method} {c : Code} {D : va_G} {cy : Nat → ClassId} {A : Nat → Prop} {g : Nat → Nat} (K : Int32 × PS → Prop) (E : mE D cy RX6 cX6_readNumber 4 (some .int) wsX6_readNumber A p s m args meth c)
     (x1 : Int32) (x2 : Int32) (u : PS) (H : Heap) (locs : List Loc) (ls : Array Slot) (hl : lv_has ls 4 [(0, .ref (g 0)), (1, .int x1), (2, .int x2)]) (hP : va_P D kCl (wP cy g u) H) (hD : va_D A (wP cy g u)) (hS : va_S A s.heap H locs) (h1 : Ok (fX6_readNumber_b0 x1 x2 u) K) :
    kW p l e rmX6_readNumber s m args below meth c H locs (va_Qi (fun r q => K (r, q)) (fun q => kPost D A (wP cy g q)) A) A 0 ls [] := by
  obtain ⟨hx, hb, hr, hml, hown, hts, hlocks, hK, hA⟩ := id E
  unfold fX6_readNumber_b0 at h1
  refine lv_aload_n hx hb dX6_readNumber_0 rfl (lv_at hl 0 rfl) ?_
  refine k_get (v := .int (pTy u)) (C := RX6) (T := TX6) (N := 11) hx hb hts inX6_readNumber_X6 hown hK hP 0 (wP_a0 _ _ _) rfl 6 (by decide) lkX6_readNumber_33 (pFs_6 _ _) dX6_readNumber_1 ?_
  refine lv_iconst (v := 2) hx hb dX6_readNumber_4 rfl ?_
  refine lv_icmp_eq (tgt := 15) hx hb dX6_readNumber_5 (by decide) (fun c5 => ?_) (fun c5 => ?_)
  · replace h1 := Ok.pos c5 h1
    refine lv_aload_n hx hb dX6_readNumber_15 rfl (lv_at hl 0 rfl) ?_
    refine kc_rV0 (b := (g 0)) (As := []) (rest := []) h1 ⟨hx, hb, hml, hown, hts⟩ (cX6_numberHereM l D cy g H.size u) (cwV 0 hts gX6_readNumber_X6_numberHere rfl rfl rfl hdX6_numberHere ⟨Nat.le_of_ble_eq_true rfl, Nat.le_of_ble_eq_true rfl⟩) hK hP hD hS hA (q0 := 0) rfl rfl rfl hl.1 rfl (Nat.le_of_ble_eq_true rfl) dX6_readNumber_16 ⟨Nat.zero_le _, Nat.zero_le _⟩ (fun r16 H locs h1 hP hS => ?_)
    refine lv_istore_n (lv' := [(3, .int r16), (0, .ref (g 0)), (1, .int x1), (2, .int x2)]) hx hb dX6_readNumber_19 rfl hl (by decide) rfl (fun ls hl => ?_)
    refine lv_iload_n hx hb dX6_readNumber_20 rfl (lv_at hl 0 rfl) ?_
    refine lv_iload_n hx hb dX6_readNumber_21 rfl (lv_at hl 2 rfl) ?_
    refine lv_icmp_lt (tgt := 30) hx hb dX6_readNumber_22 (by decide) (fun c22 => ?_) (fun c22 => ?_)
    · replace h1 := Ok.pos c22 h1
      exact tX6_readNumber_b30 K E x1 u H locs ls (lv_sub hl [1, 2] rfl) hP hD hS h1
    · replace h1 := Ok.neg c22 h1
      refine lv_iload_n hx hb dX6_readNumber_25 rfl (lv_at hl 0 rfl) ?_
      refine lv_iload_n hx hb dX6_readNumber_26 rfl (lv_at hl 3 rfl) ?_
      refine lv_icmp_le (tgt := 37) hx hb dX6_readNumber_27 (by decide) (fun c27 => ?_) (fun c27 => ?_)
      · replace h1 := Ok.pos c27 h1
        refine lv_aload_n hx hb dX6_readNumber_37 rfl (lv_at hl 1 rfl) ?_
        refine kc_vV0 (b := (g 0)) (As := []) (rest := []) h1 ⟨hx, hb, hml, hown, hts⟩ (cX6_readTokenM l D cy g H.size u) (cwV 0 hts gX6_readNumber_X6_readToken rfl rfl rfl hdX6_readToken ⟨Nat.le_of_ble_eq_true rfl, Nat.le_of_ble_eq_true rfl⟩) hK hP hD hS hA (q0 := 0) rfl rfl rfl hl.1 rfl (Nat.le_of_ble_eq_true rfl) dX6_readNumber_38 ⟨Nat.zero_le _, Nat.zero_le _⟩ (fun u38 H locs h1 hP hD hS => ?_)
        refine lv_iload_n hx hb dX6_readNumber_41 rfl (lv_at hl 0 rfl) ?_
        exact kret_i hx hb hr hlocks hP hD hS h1 dX6_readNumber_42
      · replace h1 := Ok.neg c27 h1
        exact tX6_readNumber_b30 K E x1 u H locs ls (lv_sub hl [1, 2] rfl) hP hD hS h1
  · replace h1 := Ok.neg c5 h1
    refine lv_aload_n hx hb dX6_readNumber_8 rfl (lv_at hl 0 rfl) ?_
    refine lv_iconst (v := 1) hx hb dX6_readNumber_9 rfl ?_
    refine kc_vV0 (b := (g 0)) (As := [.int 1]) (rest := []) h1 ⟨hx, hb, hml, hown, hts⟩ (cX6_failM l D cy g H.size u 1) (cwV 1 hts gX6_readNumber_X6_fail rfl rfl rfl hdX6_fail ⟨Nat.le_of_ble_eq_true rfl, Nat.le_of_ble_eq_true rfl⟩) hK hP hD hS hA (q0 := 0) rfl rfl rfl hl.1 rfl (Nat.le_of_ble_eq_true rfl) dX6_readNumber_10 ⟨Nat.zero_le _, Nat.zero_le _⟩ (fun u10 H locs h1 hP hD hS => ?_)
    refine lv_iload_n hx hb dX6_readNumber_13 rfl (lv_at hl 1 rfl) ?_
    exact kret_i hx hb hr hlocks hP hD hS h1 dX6_readNumber_14
def fX6_readNumber (p1 : Int32) (p2 : Int32) (u : PS) : Option (Int32 × PS) := fX6_readNumber_b0 p1 p2 u
set_option maxHeartbeats 4000000 in
set_option maxRecDepth 100000 in
theorem cX6_readNumberM (l : Launch) (D : va_G) (cy : Nat → ClassId) (g : Nat → Nat) (sz : Nat) (u : PS) (p1 : Int32) (p2 : Int32) : ∀ (K : Int32 → PS → Prop), Ok (fX6_readNumber p1 p2 u) (fun q => K q.1 q.2) → Met l yX6_readNumber wsX6_readNumber rmX6_readNumber (va_Pc [.ref (g 0), .int p1, .int p2] (kPre D cy sz (wP cy g u))) (va_Qi K (fun q => kPost D (va_A (wP cy g u) sz) (wP cy g q)) (va_A (wP cy g u) sz)) 0 0 (va_A (wP cy g u) sz) := by
  intro K h1
  refine Met.ofW (cc := cX6_readNumber) (maxL := 4) (ret := (some .int)) (by decide) rfl ?_
  intro p e s m args below meth c s₁ B hml hv
  obtain ⟨rfl, hsz, hP, hK, hD0⟩ := hv
  subst hsz
  have E : mE D cy RX6 cX6_readNumber 4 (some .int) wsX6_readNumber (va_A (wP cy g u) s.heap.size) p s m _ meth c := ⟨B.exec, B.bytes, B.returns, hml, findClass_of_methodNamed B.named, atoms_spec (ws := wsX6_readNumber) B.pre, B.notSynchronized, hK, fun q h => Or.inr h⟩
  have hl := lv_entry ([.ref (g 0), .int p1, .int p2]) (n := 4) (Nat.le_of_ble_eq_true rfl)
  rw [lg_entry_eq]
  generalize (lg_sl ([.ref (g 0), .int p1, .int p2]) ++ List.replicate (4 - (lg_sl ([.ref (g 0), .int p1, .int p2])).length) Slot.unset).toArray = ls at hl ⊢
  exact tX6_readNumber_b0 (fun q => K q.1 q.2) E p1 p2 u _ _ _ hl hP hD0.self va_S.rf h1
-- X6_readHeight
theorem inX6_readHeight_X6 : ∀ w ∈ u_ws RX6 TX6 11, w ∈ wsX6_readHeight := k_lays 37 rfl
theorem lkX6_readHeight_19 : Cond.fieldLink RX6 19 "FerryRamp$Parser" "errorCode" "I" ∈ wsX6_readHeight := List.mem_of_getElem? (i := 1) rfl
theorem lkX6_readHeight_36 : Cond.fieldLink RX6 36 "FerryRamp$Parser" "start" "I" ∈ wsX6_readHeight := List.mem_of_getElem? (i := 3) rfl
theorem hdX6_readNumber : yX6_readNumber.cls = RX6 ∧ yX6_readNumber.cls ≠ "java/lang/invoke/MethodHandle" ∧ yX6_readNumber.cls ≠ "java/lang/invoke/VarHandle" ∧ (parseMethodDescriptor yX6_readNumber.desc).map (fun d => d.parameters.length) = some 2 := by decide +kernel
theorem lkX6_readHeight_33 : Cond.fieldLink RX6 33 "FerryRamp$Parser" "type" "I" ∈ wsX6_readHeight := List.mem_of_getElem? (i := 2) rfl
abbrev rmX6_readHeight : Room := { frames := 3, cells := 0, slots := 0, locals := 66 }
def fX6_readHeight_b55 (x1 : Int32) (x4 : Int32) (s0 : Int32) (u : PS) : Option (Int32 × PS) :=
  (if (pEc u) = 0 then (if x1 ≤ s0 then some (s0, u) else bnd (fX6_failAt 2 x4 u) (fun u74 => some (s0, u74))) else some (s0, u))
set_option maxHeartbeats 4000000 in
set_option maxRecDepth 100000 in
theorem tX6_readHeight_b55 {p : Program} {l : Launch} {e : Env} {s : State} {m : MethodId} {args : Array Value} {below : List Frame} {meth : Method} {c : Code} {D : va_G} {cy : Nat → ClassId} {A : Nat → Prop} {g : Nat → Nat} (K : Int32 × PS → Prop) (E : mE D cy RX6 cX6_readHeight 7 (some .int) wsX6_readHeight A p s m args meth c)
     (x1 : Int32) (x4 : Int32) (s0 : Int32) (u : PS) (H : Heap) (locs : List Loc) (ls : Array Slot) (hl : lv_has ls 7 [(0, .ref (g 0)), (1, .int x1), (4, .int x4)]) (hP : va_P D kCl (wP cy g u) H) (hD : va_D A (wP cy g u)) (hS : va_S A s.heap H locs) (h1 : Ok (fX6_readHeight_b55 x1 x4 s0 u) K) :
    kW p l e rmX6_readHeight s m args below meth c H locs (va_Qi (fun r q => K (r, q)) (fun q => kPost D A (wP cy g q)) A) A 55 ls [.int s0] := by
  obtain ⟨hx, hb, hr, hml, hown, hts, hlocks, hK, hA⟩ := id E
  unfold fX6_readHeight_b55 at h1
  refine lv_istore (lv' := [(6, .int s0), (0, .ref (g 0)), (1, .int x1), (4, .int x4)]) hx hb dX6_readHeight_55 hl (by decide) rfl (fun ls hl => ?_)
  refine lv_aload_n hx hb dX6_readHeight_57 rfl (lv_at hl 1 rfl) ?_
  refine k_get (v := .int (pEc u)) (C := RX6) (T := TX6) (N := 11) hx hb hts inX6_readHeight_X6 hown hK hP 0 (wP_a0 _ _ _) rfl 2 (by decide) lkX6_readHeight_19 (pFs_2 _ _) dX6_readHeight_58 ?_
  refine lv_if_ne (tgt := 77) hx hb dX6_readHeight_61 (by decide) (fun c61 => ?_) (fun c61 => ?_)
  · replace h1 := Ok.neg c61 h1
    refine lv_iload hx hb dX6_readHeight_77 (lv_at hl 0 rfl) ?_
    exact kret_i hx hb hr hlocks hP hD hS h1 dX6_readHeight_79
  · replace h1 := Ok.pos c61 h1
    refine lv_iload hx hb dX6_readHeight_64 (lv_at hl 0 rfl) ?_
    refine lv_iload_n hx hb dX6_readHeight_66 rfl (lv_at hl 2 rfl) ?_
    refine lv_icmp_ge (tgt := 77) hx hb dX6_readHeight_67 (by decide) (fun c67 => ?_) (fun c67 => ?_)
    · replace h1 := Ok.pos c67 h1
      refine lv_iload hx hb dX6_readHeight_77 (lv_at hl 0 rfl) ?_
      exact kret_i hx hb hr hlocks hP hD hS h1 dX6_readHeight_79
    · replace h1 := Ok.neg c67 h1
      refine lv_aload_n hx hb dX6_readHeight_70 rfl (lv_at hl 1 rfl) ?_
      refine lv_iconst (v := 2) hx hb dX6_readHeight_71 rfl ?_
      refine lv_iload hx hb dX6_readHeight_72 (lv_at hl 3 rfl) ?_
      refine kc_vV0 (b := (g 0)) (As := [.int 2, .int x4]) (rest := []) h1 ⟨hx, hb, hml, hown, hts⟩ (cX6_failAtM l D cy g H.size u 2 x4) (cwV 2 hts gX6_readHeight_X6_failAt rfl rfl rfl hdX6_failAt ⟨Nat.le_of_ble_eq_true rfl, Nat.le_of_ble_eq_true rfl⟩) hK hP hD hS hA (q0 := 0) rfl rfl rfl hl.1 rfl (Nat.le_of_ble_eq_true rfl) dX6_readHeight_74 ⟨Nat.zero_le _, Nat.zero_le _⟩ (fun u74 H locs h1 hP hD hS => ?_)
      refine lv_iload hx hb dX6_readHeight_77 (lv_at hl 0 rfl) ?_
      exact kret_i hx hb hr hlocks hP hD hS h1 dX6_readHeight_79
def fX6_readHeight_b29 (x1 : Int32) (x2 : Int32) (x3 : Int32) (u : PS) : Option (Int32 × PS) :=
  bnd2 (fX6_readNumber 0 x2 u) (fun r38 u38 => (if x3 = 0 then fX6_readHeight_b55 x1 (pSt u) r38 u38 else fX6_readHeight_b55 x1 (pSt u) (-r38) u38))
set_option maxHeartbeats 4000000 in
set_option maxRecDepth 100000 in
theorem tX6_readHeight_b29 {p : Program} {l : Launch} {e : Env} {s : State} {m : MethodId} {args : Array Value} {below : List Frame} {meth : Method} {c : Code} {D : va_G} {cy : Nat → ClassId} {A : Nat → Prop} {g : Nat → Nat} (K : Int32 × PS → Prop) (E : mE D cy RX6 cX6_readHeight 7 (some .int) wsX6_readHeight A p s m args meth c)
     (x1 : Int32) (x2 : Int32) (x3 : Int32) (u : PS) (H : Heap) (locs : List Loc) (ls : Array Slot) (hl : lv_has ls 7 [(0, .ref (g 0)), (1, .int x1), (2, .int x2), (3, .int x3)]) (hP : va_P D kCl (wP cy g u) H) (hD : va_D A (wP cy g u)) (hS : va_S A s.heap H locs) (h1 : Ok (fX6_readHeight_b29 x1 x2 x3 u) K) :
    kW p l e rmX6_readHeight s m args below meth c H locs (va_Qi (fun r q => K (r, q)) (fun q => kPost D A (wP cy g q)) A) A 29 ls [] := by
  obtain ⟨hx, hb, hr, hml, hown, hts, hlocks, hK, hA⟩ := id E
  unfold fX6_readHeight_b29 at h1
  refine lv_aload_n hx hb dX6_readHeight_29 rfl (lv_at hl 0 rfl) ?_
  refine k_get (v := .int (pSt u)) (C := RX6) (T := TX6) (N := 11) hx hb hts inX6_readHeight_X6 hown hK hP 0 (wP_a0 _ _ _) rfl 7 (by decide) lkX6_readHeight_36 (pFs_7 _ _) dX6_readHeight_30 ?_
  refine lv_istore (lv' := [(4, .int (pSt u)), (0, .ref (g 0)), (1, .int x1), (2, .int x2), (3, .int x3)]) hx hb dX6_readHeight_33 hl (by decide) rfl (fun ls hl => ?_)
  refine lv_aload_n hx hb dX6_readHeight_35 rfl (lv_at hl 1 rfl) ?_
  refine lv_iconst (v := 0) hx hb dX6_readHeight_36 rfl ?_
  refine lv_iload_n hx hb dX6_readHeight_37 rfl (lv_at hl 3 rfl) ?_
  refine kc_iV0 (b := (g 0)) (As := [.int 0, .int x2]) (rest := []) h1 ⟨hx, hb, hml, hown, hts⟩ (cX6_readNumberM l D cy g H.size u 0 x2) (cwV 2 hts gX6_readHeight_X6_readNumber rfl rfl rfl hdX6_readNumber ⟨Nat.le_of_ble_eq_true rfl, Nat.le_of_ble_eq_true rfl⟩) hK hP hD hS hA (q0 := 0) rfl rfl rfl hl.1 rfl (Nat.le_of_ble_eq_true rfl) dX6_readHeight_38 ⟨Nat.zero_le _, Nat.zero_le _⟩ (fun r38 u38 H locs h1 hP hD hS => ?_)
  refine lv_istore (lv' := [(5, .int r38), (4, .int (pSt u)), (0, .ref (g 0)), (1, .int x1), (2, .int x2), (3, .int x3)]) hx hb dX6_readHeight_41 hl (by decide) rfl (fun ls hl => ?_)
  refine lv_iload_n hx hb dX6_readHeight_43 rfl (lv_at hl 5 rfl) ?_
  refine lv_if_eq (tgt := 53) hx hb dX6_readHeight_44 (by decide) (fun c44 => ?_) (fun c44 => ?_)
  · replace h1 := Ok.pos c44 h1
    refine lv_iload hx hb dX6_readHeight_53 (lv_at hl 0 rfl) ?_
    exact tX6_readHeight_b55 K E x1 (pSt u) r38 u38 H locs ls (lv_sub hl [2, 3, 1] rfl) hP hD hS h1
  · replace h1 := Ok.neg c44 h1
    refine lv_iload hx hb dX6_readHeight_47 (lv_at hl 0 rfl) ?_
    refine lv_ineg hx hb dX6_readHeight_49 ?_
    refine lv_goto (tgt := 55) hx hb dX6_readHeight_50 (by decide) ?_
    exact tX6_readHeight_b55 K E x1 (pSt u) (-r38) u38 H locs ls (lv_sub hl [2, 3, 1] rfl) hP hD hS h1
def fX6_readHeight_b20 (x1 : Int32) (x2 : Int32) (s0 : Int32) (u : PS) : Option (Int32 × PS) :=
  (if s0 = 0 then fX6_readHeight_b29 x1 x2 s0 u else bnd (fX6_readToken u) (fun u26 => fX6_readHeight_b29 x1 x2 s0 u26))
set_option maxHeartbeats 4000000 in
set_option maxRecDepth 100000 in
theorem tX6_readHeight_b20 {p : Program} {l : Launch} {e : Env} {s : State} {m : MethodId} {args : Array Value} {below : List Frame} {meth : Method} {c : Code} {D : va_G} {cy : Nat → ClassId} {A : Nat → Prop} {g : Nat → Nat} (K : Int32 × PS → Prop) (E : mE D cy RX6 cX6_readHeight 7 (some .int) wsX6_readHeight A p s m args meth c)
     (x1 : Int32) (x2 : Int32) (s0 : Int32) (u : PS) (H : Heap) (locs : List Loc) (ls : Array Slot) (hl : lv_has ls 7 [(0, .ref (g 0)), (1, .int x1), (2, .int x2)]) (hP : va_P D kCl (wP cy g u) H) (hD : va_D A (wP cy g u)) (hS : va_S A s.heap H locs) (h1 : Ok (fX6_readHeight_b20 x1 x2 s0 u) K) :
    kW p l e rmX6_readHeight s m args below meth c H locs (va_Qi (fun r q => K (r, q)) (fun q => kPost D A (wP cy g q)) A) A 20 ls [.int s0] := by
  obtain ⟨hx, hb, hr, hml, hown, hts, hlocks, hK, hA⟩ := id E
  unfold fX6_readHeight_b20 at h1
  refine lv_istore_n (lv' := [(3, .int s0), (0, .ref (g 0)), (1, .int x1), (2, .int x2)]) hx hb dX6_readHeight_20 rfl hl (by decide) rfl (fun ls hl => ?_)
  refine lv_iload_n hx hb dX6_readHeight_21 rfl (lv_at hl 0 rfl) ?_
  refine lv_if_eq (tgt := 29) hx hb dX6_readHeight_22 (by decide) (fun c22 => ?_) (fun c22 => ?_)
  · replace h1 := Ok.pos c22 h1
    exact tX6_readHeight_b29 K E x1 x2 s0 u H locs ls (lv_sub hl [1, 2, 3, 0] rfl) hP hD hS h1
  · replace h1 := Ok.neg c22 h1
    refine lv_aload_n hx hb dX6_readHeight_25 rfl (lv_at hl 1 rfl) ?_
    refine kc_vV0 (b := (g 0)) (As := []) (rest := []) h1 ⟨hx, hb, hml, hown, hts⟩ (cX6_readTokenM l D cy g H.size u) (cwV 0 hts gX6_readHeight_X6_readToken rfl rfl rfl hdX6_readToken ⟨Nat.le_of_ble_eq_true rfl, Nat.le_of_ble_eq_true rfl⟩) hK hP hD hS hA (q0 := 0) rfl rfl rfl hl.1 rfl (Nat.le_of_ble_eq_true rfl) dX6_readHeight_26 ⟨Nat.zero_le _, Nat.zero_le _⟩ (fun u26 H locs h1 hP hD hS => ?_)
    exact tX6_readHeight_b29 K E x1 x2 s0 u26 H locs ls (lv_sub hl [1, 2, 3, 0] rfl) hP hD hS h1
def fX6_readHeight_b19 (x1 : Int32) (x2 : Int32) (u : PS) : Option (Int32 × PS) :=
  fX6_readHeight_b20 x1 x2 0 u
set_option maxHeartbeats 4000000 in
set_option maxRecDepth 100000 in
theorem tX6_readHeight_b19 {p : Program} {l : Launch} {e : Env} {s : State} {m : MethodId} {args : Array Value} {below : List Frame} {meth : Method} {c : Code} {D : va_G} {cy : Nat → ClassId} {A : Nat → Prop} {g : Nat → Nat} (K : Int32 × PS → Prop) (E : mE D cy RX6 cX6_readHeight 7 (some .int) wsX6_readHeight A p s m args meth c)
     (x1 : Int32) (x2 : Int32) (u : PS) (H : Heap) (locs : List Loc) (ls : Array Slot) (hl : lv_has ls 7 [(0, .ref (g 0)), (1, .int x1), (2, .int x2)]) (hP : va_P D kCl (wP cy g u) H) (hD : va_D A (wP cy g u)) (hS : va_S A s.heap H locs) (h1 : Ok (fX6_readHeight_b19 x1 x2 u) K) :
    kW p l e rmX6_readHeight s m args below meth c H locs (va_Qi (fun r q => K (r, q)) (fun q => kPost D A (wP cy g q)) A) A 19 ls [] := by
  obtain ⟨hx, hb, hr, hml, hown, hts, hlocks, hK, hA⟩ := id E
  unfold fX6_readHeight_b19 at h1
  refine lv_iconst (v := 0) hx hb dX6_readHeight_19 rfl ?_
  exact tX6_readHeight_b20 K E x1 x2 0 u H locs ls (lv_sub hl [0, 1, 2] rfl) hP hD hS h1
def fX6_readHeight_b0 (x1 : Int32) (x2 : Int32) (u : PS) : Option (Int32 × PS) :=
  (if (pEc u) = 0 then (if (pTy u) = 3 then fX6_readHeight_b20 x1 x2 1 u else fX6_readHeight_b19 x1 x2 u) else fX6_readHeight_b19 x1 x2 u)
set_option maxHeartbeats 4000000 in
set_option maxRecDepth 100000 in
theorem tX6_readHeight_b0 {p : Program} {l : Launch} {e : Env} {s : State} {m : MethodId} {args : Array Value} {below : List Frame} {meth : Method} {c : Code} {D : va_G} {cy : Nat → ClassId} {A : Nat → Prop} {g : Nat → Nat} (K : Int32 × PS → Prop) (E : mE D cy RX6 cX6_readHeight 7 (some .int) wsX6_readHeight A p s m args meth c)
     (x1 : Int32) (x2 : Int32) (u : PS) (H : Heap) (locs : List Loc) (ls : Array Slot) (hl : lv_has ls 7 [(0, .ref (g 0)), (1, .int x1), (2, .int x2)]) (hP : va_P D kCl (wP cy g u) H) (hD : va_D A (wP cy g u)) (hS : va_S A s.heap H locs) (h1 : Ok (fX6_readHeight_b0 x1 x2 u) K) :
    kW p l e rmX6_readHeight s m args below meth c H locs (va_Qi (fun r q => K (r, q)) (fun q => kPost D A (wP cy g q)) A) A 0 ls [] := by
  obtain ⟨hx, hb, hr, hml, hown, hts, hlocks, hK, hA⟩ := id E
  unfold fX6_readHeight_b0 at h1
  refine lv_aload_n hx hb dX6_readHeight_0 rfl (lv_at hl 0 rfl) ?_
  refine k_get (v := .int (pEc u)) (C := RX6) (T := TX6) (N := 11) hx hb hts inX6_readHeight_X6 hown hK hP 0 (wP_a0 _ _ _) rfl 2 (by decide) lkX6_readHeight_19 (pFs_2 _ _) dX6_readHeight_1 ?_
  refine lv_if_ne (tgt := 19) hx hb dX6_readHeight_4 (by decide) (fun c4 => ?_) (fun c4 => ?_)
  · replace h1 := Ok.neg c4 h1
    exact tX6_readHeight_b19 K E x1 x2 u H locs ls (lv_sub hl [0, 1, 2] rfl) hP hD hS h1
  · replace h1 := Ok.pos c4 h1
    refine lv_aload_n hx hb dX6_readHeight_7 rfl (lv_at hl 0 rfl) ?_
    refine k_get (v := .int (pTy u)) (C := RX6) (T := TX6) (N := 11) hx hb hts inX6_readHeight_X6 hown hK hP 0 (wP_a0 _ _ _) rfl 6 (by decide) lkX6_readHeight_33 (pFs_6 _ _) dX6_readHeight_8 ?_
    refine lv_iconst (v := 3) hx hb dX6_readHeight_11 rfl ?_
    refine lv_icmp_ne (tgt := 19) hx hb dX6_readHeight_12 (by decide) (fun c12 => ?_) (fun c12 => ?_)
    · replace h1 := Ok.neg c12 h1
      exact tX6_readHeight_b19 K E x1 x2 u H locs ls (lv_sub hl [0, 1, 2] rfl) hP hD hS h1
    · replace h1 := Ok.pos c12 h1
      refine lv_iconst (v := 1) hx hb dX6_readHeight_15 rfl ?_
      refine lv_goto (tgt := 20) hx hb dX6_readHeight_16 (by decide) ?_
      exact tX6_readHeight_b20 K E x1 x2 1 u H locs ls (lv_sub hl [0, 1, 2] rfl) hP hD hS h1
def fX6_readHeight (p1 : Int32) (p2 : Int32) (u : PS) : Option (Int32 × PS) := fX6_readHeight_b0 p1 p2 u
set_option maxHeartbeats 4000000 in
set_option maxRecDepth 100000 in
theorem cX6_readHeightM (l : Launch) (D : va_G) (cy : Nat → ClassId) (g : Nat → Nat) (sz : Nat) (u : PS) (p1 : Int32) (p2 : Int32) : ∀ (K : Int32 → PS → Prop), Ok (fX6_readHeight p1 p2 u) (fun q => K q.1 q.2) → Met l yX6_readHeight wsX6_readHeight rmX6_readHeight (va_Pc [.ref (g 0), .int p1, .int p2] (kPre D cy sz (wP cy g u))) (va_Qi K (fun q => kPost D (va_A (wP cy g u) sz) (wP cy g q)) (va_A (wP cy g u) sz)) 0 0 (va_A (wP cy g u) sz) := by
  intro K h1
  refine Met.ofW (cc := cX6_readHeight) (maxL := 7) (ret := (some .int)) (by decide) rfl ?_
  intro p e s m args below meth c s₁ B hml hv
  obtain ⟨rfl, hsz, hP, hK, hD0⟩ := hv
  subst hsz
  have E : mE D cy RX6 cX6_readHeight 7 (some .int) wsX6_readHeight (va_A (wP cy g u) s.heap.size) p s m _ meth c := ⟨B.exec, B.bytes, B.returns, hml, findClass_of_methodNamed B.named, atoms_spec (ws := wsX6_readHeight) B.pre, B.notSynchronized, hK, fun q h => Or.inr h⟩
  have hl := lv_entry ([.ref (g 0), .int p1, .int p2]) (n := 7) (Nat.le_of_ble_eq_true rfl)
  rw [lg_entry_eq]
  generalize (lg_sl ([.ref (g 0), .int p1, .int p2]) ++ List.replicate (7 - (lg_sl ([.ref (g 0), .int p1, .int p2])).length) Slot.unset).toArray = ls at hl ⊢
  exact tX6_readHeight_b0 (fun q => K q.1 q.2) E p1 p2 u _ _ _ hl hP hD0.self va_S.rf h1
-- X6_readKind
theorem inX6_readKind_X6 : ∀ w ∈ u_ws RX6 TX6 11, w ∈ wsX6_readKind := k_lays 44 rfl
theorem lkX6_readKind_36 : Cond.fieldLink RX6 36 "FerryRamp$Parser" "start" "I" ∈ wsX6_readKind := List.mem_of_getElem? (i := 1) rfl
theorem lkX6_readKind_19 : Cond.fieldLink RX6 19 "FerryRamp$Parser" "errorCode" "I" ∈ wsX6_readKind := List.mem_of_getElem? (i := 2) rfl
theorem lkX6_readKind_45 : Cond.fieldLink RX6 45 "FerryRamp$Parser" "kindsTold" "I" ∈ wsX6_readKind := List.mem_of_getElem? (i := 3) rfl
abbrev rmX6_readKind : Room := { frames := 3, cells := 0, slots := 0, locals := 66 }
def fX6_readKind_b36 (x3 : Int32) (u : PS) (u2 : KS) : Option (PS × KS) :=
  bnd2 (fX6_readNumber 0 500 (tKo u ((pKo u) ||| (1 <<< (x3 &&& 31))))) (fun r53 u53 => bnd2 (fX6_readNumber 0 99 u53) (fun r62 u62 => bnd2 (fX6_readNumber 1 9 u62) (fun r71 u71 => bnd (fX8_setKind x3 r53 r62 r71 u2) (fun u84 => some (u71, u84)))))
set_option maxHeartbeats 4000000 in
set_option maxRecDepth 100000 in
theorem tX6_readKind_b36 {p : Program} {l : Launch} {e : Env} {s : State} {m : MethodId} {args : Array Value} {below : List Frame} {meth : Method} {c : Code} {D : va_G} {cy : Nat → ClassId} {A : Nat → Prop} {g : Nat → Nat} {h2 : Nat} {a2 : Nat → Nat} (K : PS × KS → Prop) (E : mE D cy RX6 cX6_readKind 7 none wsX6_readKind A p s m args meth c)
     (x3 : Int32) (u : PS) (u2 : KS) (H : Heap) (locs : List Loc) (ls : Array Slot) (hl : lv_has ls 7 [(0, .ref (g 0)), (1, .ref h2), (3, .int x3)]) (hP : va_P D kCl (([wP cy g u, wS cy h2 a2 u2] : List va_W).flatten) H) (hD : va_D A (([wP cy g u, wS cy h2 a2 u2] : List va_W).flatten)) (hS : va_S A s.heap H locs) (h1 : Ok (fX6_readKind_b36 x3 u u2) K) :
    kW p l e rmX6_readKind s m args below meth c H locs (va_Qv K (fun q => kPost D A (([wP cy g q.1, wS cy h2 a2 q.2] : List va_W).flatten)) A) A 36 ls [] := by
  obtain ⟨hx, hb, hr, hml, hown, hts, hlocks, hK, hA⟩ := id E
  unfold fX6_readKind_b36 at h1
  refine lv_aload_n hx hb dX6_readKind_36 rfl (lv_at hl 0 rfl) ?_
  refine lv_dup hx hb dX6_readKind_37 rfl ?_
  refine k_get (v := .int (pKo u)) (C := RX6) (T := TX6) (N := 11) hx hb hts inX6_readKind_X6 hown hK hP 0 (fl_at (pre := []) (post := [wS cy h2 a2 u2]) (q := 0) rfl (wP_a0 _ _ _)) rfl 10 (by decide) lkX6_readKind_45 (pFs_10 _ _) dX6_readKind_38 ?_
  refine lv_iconst (v := 1) hx hb dX6_readKind_41 rfl ?_
  refine lv_iload_n hx hb dX6_readKind_42 rfl (lv_at hl 2 rfl) ?_
  refine lv_ishl hx hb dX6_readKind_43 ?_
  refine lv_ior hx hb dX6_readKind_44 ?_
  refine k_put (v := .int ((pKo u) ||| (1 <<< (x3 &&& 31)))) (ty := .int) (C := RX6) (T := TX6) (N := 11) hx hb hts inX6_readKind_X6 tyX6 tyX6_ok nmX6 hown hK hP hD hS 0 (fl_at (pre := []) (post := [wS cy h2 a2 u2]) (q := 0) rfl (wP_a0 _ _ _)) rfl 10 (by decide) lkX6_readKind_45 rfl (by decide +kernel) rfl rfl (Nat.le_of_ble_eq_true rfl) (ws' := ([wP cy g (tKo u ((pKo u) ||| (1 <<< (x3 &&& 31)))), wS cy h2 a2 u2] : List va_W).flatten) (fl_set (pre := []) (post := [wS cy h2 a2 u2]) (q := 0) rfl (Nat.le_of_ble_eq_true rfl) (wP_tKo _ _ _ _)) dX6_readKind_45 (fun H locs hP hD hS => ?_)
  refine lv_aload_n hx hb dX6_readKind_48 rfl (lv_at hl 0 rfl) ?_
  refine lv_iconst (v := 0) hx hb dX6_readKind_49 rfl ?_
  refine lv_sipush (v := 500) hx hb dX6_readKind_50 rfl ?_
  refine kc_iV (b := (g 0)) (As := [.int 0, .int 500]) (rest := []) h1 ⟨hx, hb, hml, hown, hts⟩ (cX6_readNumberM l D cy g H.size (tKo u ((pKo u) ||| (1 <<< (x3 &&& 31)))) 0 500) (cwV 2 hts gX6_readKind_X6_readNumber rfl rfl rfl hdX6_readNumber ⟨Nat.le_of_ble_eq_true rfl, Nat.le_of_ble_eq_true rfl⟩) hK (k_sel1 (l := [wP cy g (tKo u ((pKo u) ||| (1 <<< (x3 &&& 31)))), wS cy h2 a2 u2]) (n := 2) 0 [1] rfl rfl (by decide)) hP hD hS hA (q0 := 0) rfl rfl rfl hl.1 rfl (Nat.le_of_ble_eq_true rfl) dX6_readKind_53 ⟨Nat.zero_le _, Nat.zero_le _⟩ (fun r53 u53 H locs h1 hP hD hS => ?_)
  replace hP := kP_perm (List.Perm.symm (k_sel1 (l := [wP cy g u53, wS cy h2 a2 u2]) (n := 2) 0 [1] rfl rfl (by decide))) hP
  replace hD := kD_perm (List.Perm.symm (k_sel1 (l := [wP cy g u53, wS cy h2 a2 u2]) (n := 2) 0 [1] rfl rfl (by decide))) hD
  refine lv_istore (lv' := [(4, .int r53), (0, .ref (g 0)), (1, .ref h2), (3, .int x3)]) hx hb dX6_readKind_56 hl (by decide) rfl (fun ls hl => ?_)
  refine lv_aload_n hx hb dX6_readKind_58 rfl (lv_at hl 1 rfl) ?_
  refine lv_iconst (v := 0) hx hb dX6_readKind_59 rfl ?_
  refine lv_bipush (v := 99) hx hb dX6_readKind_60 rfl ?_
  refine kc_iV (b := (g 0)) (As := [.int 0, .int 99]) (rest := []) h1 ⟨hx, hb, hml, hown, hts⟩ (cX6_readNumberM l D cy g H.size u53 0 99) (cwV 2 hts gX6_readKind_X6_readNumber rfl rfl rfl hdX6_readNumber ⟨Nat.le_of_ble_eq_true rfl, Nat.le_of_ble_eq_true rfl⟩) hK (k_sel1 (l := [wP cy g u53, wS cy h2 a2 u2]) (n := 2) 0 [1] rfl rfl (by decide)) hP hD hS hA (q0 := 0) rfl rfl rfl hl.1 rfl (Nat.le_of_ble_eq_true rfl) dX6_readKind_62 ⟨Nat.zero_le _, Nat.zero_le _⟩ (fun r62 u62 H locs h1 hP hD hS => ?_)
  replace hP := kP_perm (List.Perm.symm (k_sel1 (l := [wP cy g u62, wS cy h2 a2 u2]) (n := 2) 0 [1] rfl rfl (by decide))) hP
  replace hD := kD_perm (List.Perm.symm (k_sel1 (l := [wP cy g u62, wS cy h2 a2 u2]) (n := 2) 0 [1] rfl rfl (by decide))) hD
  refine lv_istore (lv' := [(5, .int r62), (4, .int r53), (0, .ref (g 0)), (1, .ref h2), (3, .int x3)]) hx hb dX6_readKind_65 hl (by decide) rfl (fun ls hl => ?_)
  refine lv_aload_n hx hb dX6_readKind_67 rfl (lv_at hl 2 rfl) ?_
  refine lv_iconst (v := 1) hx hb dX6_readKind_68 rfl ?_
  refine lv_bipush (v := 9) hx hb dX6_readKind_69 rfl ?_
  refine kc_iV (b := (g 0)) (As := [.int 1, .int 9]) (rest := []) h1 ⟨hx, hb, hml, hown, hts⟩ (cX6_readNumberM l D cy g H.size u62 1 9) (cwV 2 hts gX6_readKind_X6_readNumber rfl rfl rfl hdX6_readNumber ⟨Nat.le_of_ble_eq_true rfl, Nat.le_of_ble_eq_true rfl⟩) hK (k_sel1 (l := [wP cy g u62, wS cy h2 a2 u2]) (n := 2) 0 [1] rfl rfl (by decide)) hP hD hS hA (q0 := 0) rfl rfl rfl hl.1 rfl (Nat.le_of_ble_eq_true rfl) dX6_readKind_71 ⟨Nat.zero_le _, Nat.zero_le _⟩ (fun r71 u71 H locs h1 hP hD hS => ?_)
  replace hP := kP_perm (List.Perm.symm (k_sel1 (l := [wP cy g u71, wS cy h2 a2 u2]) (n := 2) 0 [1] rfl rfl (by decide))) hP
  replace hD := kD_perm (List.Perm.symm (k_sel1 (l := [wP cy g u71, wS cy h2 a2 u2]) (n := 2) 0 [1] rfl rfl (by decide))) hD
  refine lv_istore (lv' := [(6, .int r71), (5, .int r62), (4, .int r53), (0, .ref (g 0)), (1, .ref h2), (3, .int x3)]) hx hb dX6_readKind_74 hl (by decide) rfl (fun ls hl => ?_)
  refine lv_aload_n hx hb dX6_readKind_76 rfl (lv_at hl 4 rfl) ?_
  refine lv_iload_n hx hb dX6_readKind_77 rfl (lv_at hl 5 rfl) ?_
  refine lv_iload hx hb dX6_readKind_78 (lv_at hl 2 rfl) ?_
  refine lv_iload hx hb dX6_readKind_80 (lv_at hl 1 rfl) ?_
  refine lv_iload hx hb dX6_readKind_82 (lv_at hl 0 rfl) ?_
  refine kc_vV (b := h2) (As := [.int x3, .int r53, .int r62, .int r71]) (rest := []) h1 ⟨hx, hb, hml, hown, hts⟩ (cX8_setKindM l D cy h2 a2 H.size u2 x3 r53 r62 r71) (cwV 4 hts gX6_readKind_X8_setKind rfl rfl rfl hdX8_setKind ⟨Nat.le_of_ble_eq_true rfl, Nat.le_of_ble_eq_true rfl⟩) hK (k_sel1 (l := [wP cy g u71, wS cy h2 a2 u2]) (n := 2) 1 [0] rfl rfl (by decide)) hP hD hS hA (q0 := 0) rfl rfl rfl hl.1 rfl (Nat.le_of_ble_eq_true rfl) dX6_readKind_84 ⟨Nat.zero_le _, Nat.zero_le _⟩ (fun u84 H locs h1 hP hD hS => ?_)
  replace hP := kP_perm (List.Perm.symm (k_sel1 (l := [wP cy g u71, wS cy h2 a2 u84]) (n := 2) 1 [0] rfl rfl (by decide))) hP
  replace hD := kD_perm (List.Perm.symm (k_sel1 (l := [wP cy g u71, wS cy h2 a2 u84]) (n := 2) 1 [0] rfl rfl (by decide))) hD
  exact kret_v hx hb hr hlocks hP hD hS h1 dX6_readKind_87
def fX6_readKind_b0 (u : PS) (u2 : KS) : Option (PS × KS) :=
  bnd2 (fX6_readNumber 0 3 u) (fun r8 u8 => (if (pEc u8) = 0 then (if (((pKo u8) >>> (r8 &&& 31)) &&& 1) = 0 then fX6_readKind_b36 r8 u8 u2 else bnd (fX6_failAt 3 (pSt u) u8) (fun u33 => fX6_readKind_b36 r8 u33 u2)) else fX6_readKind_b36 r8 u8 u2))
set_option maxHeartbeats 4000000 in
set_option maxRecDepth 100000 in
theorem tX6_readKind_b0 {p : Program} {l : Launch} {e : Env} {s : State} {m : MethodId} {args : Array Value} {below : List Frame} {meth : Method} {c : Code} {D : va_G} {cy : Nat → ClassId} {A : Nat → Prop} {g : Nat → Nat} {h2 : Nat} {a2 : Nat → Nat} (K : PS × KS → Prop) (E : mE D cy RX6 cX6_readKind 7 none wsX6_readKind A p s m args meth c)
     (u : PS) (u2 : KS) (H : Heap) (locs : List Loc) (ls : Array Slot) (hl : lv_has ls 7 [(0, .ref (g 0)), (1, .ref h2)]) (hP : va_P D kCl (([wP cy g u, wS cy h2 a2 u2] : List va_W).flatten) H) (hD : va_D A (([wP cy g u, wS cy h2 a2 u2] : List va_W).flatten)) (hS : va_S A s.heap H locs) (h1 : Ok (fX6_readKind_b0 u u2) K) :
    kW p l e rmX6_readKind s m args below meth c H locs (va_Qv K (fun q => kPost D A (([wP cy g q.1, wS cy h2 a2 q.2] : List va_W).flatten)) A) A 0 ls [] := by
  obtain ⟨hx, hb, hr, hml, hown, hts, hlocks, hK, hA⟩ := id E
  unfold fX6_readKind_b0 at h1
  refine lv_aload_n hx hb dX6_readKind_0 rfl (lv_at hl 0 rfl) ?_
  refine k_get (v := .int (pSt u)) (C := RX6) (T := TX6) (N := 11) hx hb hts inX6_readKind_X6 hown hK hP 0 (fl_at (pre := []) (post := [wS cy h2 a2 u2]) (q := 0) rfl (wP_a0 _ _ _)) rfl 7 (by decide) lkX6_readKind_36 (pFs_7 _ _) dX6_readKind_1 ?_
  refine lv_istore_n (lv' := [(2, .int (pSt u)), (0, .ref (g 0)), (1, .ref h2)]) hx hb dX6_readKind_4 rfl hl (by decide) rfl (fun ls hl => ?_)
  refine lv_aload_n hx hb dX6_readKind_5 rfl (lv_at hl 1 rfl) ?_
  refine lv_iconst (v := 0) hx hb dX6_readKind_6 rfl ?_
  refine lv_iconst (v := 3) hx hb dX6_readKind_7 rfl ?_
  refine kc_iV (b := (g 0)) (As := [.int 0, .int 3]) (rest := []) h1 ⟨hx, hb, hml, hown, hts⟩ (cX6_readNumberM l D cy g H.size u 0 3) (cwV 2 hts gX6_readKind_X6_readNumber rfl rfl rfl hdX6_readNumber ⟨Nat.le_of_ble_eq_true rfl, Nat.le_of_ble_eq_true rfl⟩) hK (k_sel1 (l := [wP cy g u, wS cy h2 a2 u2]) (n := 2) 0 [1] rfl rfl (by decide)) hP hD hS hA (q0 := 0) rfl rfl rfl hl.1 rfl (Nat.le_of_ble_eq_true rfl) dX6_readKind_8 ⟨Nat.zero_le _, Nat.zero_le _⟩ (fun r8 u8 H locs h1 hP hD hS => ?_)
  replace hP := kP_perm (List.Perm.symm (k_sel1 (l := [wP cy g u8, wS cy h2 a2 u2]) (n := 2) 0 [1] rfl rfl (by decide))) hP
  replace hD := kD_perm (List.Perm.symm (k_sel1 (l := [wP cy g u8, wS cy h2 a2 u2]) (n := 2) 0 [1] rfl rfl (by decide))) hD
  refine lv_istore_n (lv' := [(3, .int r8), (2, .int (pSt u)), (0, .ref (g 0)), (1, .ref h2)]) hx hb dX6_readKind_11 rfl hl (by decide) rfl (fun ls hl => ?_)
  refine lv_aload_n hx hb dX6_readKind_12 rfl (lv_at hl 2 rfl) ?_
  refine k_get (v := .int (pEc u8)) (C := RX6) (T := TX6) (N := 11) hx hb hts inX6_readKind_X6 hown hK hP 0 (fl_at (pre := []) (post := [wS cy h2 a2 u2]) (q := 0) rfl (wP_a0 _ _ _)) rfl 2 (by decide) lkX6_readKind_19 (pFs_2 _ _) dX6_readKind_13 ?_
  refine lv_if_ne (tgt := 36) hx hb dX6_readKind_16 (by decide) (fun c16 => ?_) (fun c16 => ?_)
  · replace h1 := Ok.neg c16 h1
    exact tX6_readKind_b36 K E r8 u8 u2 H locs ls (lv_sub hl [2, 3, 0] rfl) hP hD hS h1
  · replace h1 := Ok.pos c16 h1
    refine lv_aload_n hx hb dX6_readKind_19 rfl (lv_at hl 2 rfl) ?_
    refine k_get (v := .int (pKo u8)) (C := RX6) (T := TX6) (N := 11) hx hb hts inX6_readKind_X6 hown hK hP 0 (fl_at (pre := []) (post := [wS cy h2 a2 u2]) (q := 0) rfl (wP_a0 _ _ _)) rfl 10 (by decide) lkX6_readKind_45 (pFs_10 _ _) dX6_readKind_20 ?_
    refine lv_iload_n hx hb dX6_readKind_23 rfl (lv_at hl 0 rfl) ?_
    refine lv_ishr hx hb dX6_readKind_24 ?_
    refine lv_iconst (v := 1) hx hb dX6_readKind_25 rfl ?_
    refine lv_iand hx hb dX6_readKind_26 ?_
    refine lv_if_eq (tgt := 36) hx hb dX6_readKind_27 (by decide) (fun c27 => ?_) (fun c27 => ?_)
    · replace h1 := Ok.pos c27 h1
      exact tX6_readKind_b36 K E r8 u8 u2 H locs ls (lv_sub hl [2, 3, 0] rfl) hP hD hS h1
    · replace h1 := Ok.neg c27 h1
      refine lv_aload_n hx hb dX6_readKind_30 rfl (lv_at hl 2 rfl) ?_
      refine lv_iconst (v := 3) hx hb dX6_readKind_31 rfl ?_
      refine lv_iload_n hx hb dX6_readKind_32 rfl (lv_at hl 1 rfl) ?_
      refine kc_vV (b := (g 0)) (As := [.int 3, .int (pSt u)]) (rest := []) h1 ⟨hx, hb, hml, hown, hts⟩ (cX6_failAtM l D cy g H.size u8 3 (pSt u)) (cwV 2 hts gX6_readKind_X6_failAt rfl rfl rfl hdX6_failAt ⟨Nat.le_of_ble_eq_true rfl, Nat.le_of_ble_eq_true rfl⟩) hK (k_sel1 (l := [wP cy g u8, wS cy h2 a2 u2]) (n := 2) 0 [1] rfl rfl (by decide)) hP hD hS hA (q0 := 0) rfl rfl rfl hl.1 rfl (Nat.le_of_ble_eq_true rfl) dX6_readKind_33 ⟨Nat.zero_le _, Nat.zero_le _⟩ (fun u33 H locs h1 hP hD hS => ?_)
      replace hP := kP_perm (List.Perm.symm (k_sel1 (l := [wP cy g u33, wS cy h2 a2 u2]) (n := 2) 0 [1] rfl rfl (by decide))) hP
      replace hD := kD_perm (List.Perm.symm (k_sel1 (l := [wP cy g u33, wS cy h2 a2 u2]) (n := 2) 0 [1] rfl rfl (by decide))) hD
      exact tX6_readKind_b36 K E r8 u33 u2 H locs ls (lv_sub hl [2, 3, 0] rfl) hP hD hS h1
def fX6_readKind (u : PS) (u2 : KS) : Option (PS × KS) := fX6_readKind_b0 u u2
set_option maxHeartbeats 4000000 in
set_option maxRecDepth 100000 in
theorem cX6_readKindM (l : Launch) (D : va_G) (cy : Nat → ClassId) (g : Nat → Nat) (h2 : Nat) (a2 : Nat → Nat) (sz : Nat) (u : PS) (u2 : KS) : ∀ (K : PS × KS → Prop), Ok (fX6_readKind u u2) K → Met l yX6_readKind wsX6_readKind rmX6_readKind (va_Pc [.ref (g 0), .ref h2] (kPre D cy sz (([wP cy g u, wS cy h2 a2 u2] : List va_W).flatten))) (va_Qv K (fun q => kPost D (va_A (([wP cy g u, wS cy h2 a2 u2] : List va_W).flatten) sz) (([wP cy g q.1, wS cy h2 a2 q.2] : List va_W).flatten)) (va_A (([wP cy g u, wS cy h2 a2 u2] : List va_W).flatten) sz)) 0 0 (va_A (([wP cy g u, wS cy h2 a2 u2] : List va_W).flatten) sz) := by
  intro K h1
  refine Met.ofW (cc := cX6_readKind) (maxL := 7) (ret := none) (by decide) rfl ?_
  intro p e s m args below meth c s₁ B hml hv
  obtain ⟨rfl, hsz, hP, hK, hD0⟩ := hv
  subst hsz
  have E : mE D cy RX6 cX6_readKind 7 none wsX6_readKind (va_A (([wP cy g u, wS cy h2 a2 u2] : List va_W).flatten) s.heap.size) p s m _ meth c := ⟨B.exec, B.bytes, B.returns, hml, findClass_of_methodNamed B.named, atoms_spec (ws := wsX6_readKind) B.pre, B.notSynchronized, hK, fun q h => Or.inr h⟩
  have hl := lv_entry ([.ref (g 0), .ref h2]) (n := 7) (Nat.le_of_ble_eq_true rfl)
  rw [lg_entry_eq]
  generalize (lg_sl ([.ref (g 0), .ref h2]) ++ List.replicate (7 - (lg_sl ([.ref (g 0), .ref h2])).length) Slot.unset).toArray = ls at hl ⊢
  exact tX6_readKind_b0 K E u u2 _ _ _ hl hP hD0.self va_S.rf h1
-- X6_readCar
theorem hdX8_addCar : yX8_addCar.cls = RX8 ∧ yX8_addCar.cls ≠ "java/lang/invoke/MethodHandle" ∧ yX8_addCar.cls ≠ "java/lang/invoke/VarHandle" ∧ (parseMethodDescriptor yX8_addCar.desc).map (fun d => d.parameters.length) = some 2 := by decide +kernel
abbrev rmX6_readCar : Room := { frames := 3, cells := 0, slots := 0, locals := 66 }
def fX6_readCar_b0 (u : PS) (u2 : KS) : Option (PS × KS) :=
  bnd2 (fX6_readNumber 0 3 u) (fun r3 u3 => bnd2 (fX6_readNumber 1 999 u3) (fun r12 u12 => bnd2 (fX8_addCar r3 r12 u2) (fun r19 u19 => some (u12, u19))))
set_option maxHeartbeats 4000000 in
set_option maxRecDepth 100000 in
theorem tX6_readCar_b0 {p : Program} {l : Launch} {e : Env} {s : State} {m : MethodId} {args : Array Value} {below : List Frame} {meth : Method} {c : Code} {D : va_G} {cy : Nat → ClassId} {A : Nat → Prop} {g : Nat → Nat} {h2 : Nat} {a2 : Nat → Nat} (K : PS × KS → Prop) (E : mE D cy RX6 cX6_readCar 4 none wsX6_readCar A p s m args meth c)
     (u : PS) (u2 : KS) (H : Heap) (locs : List Loc) (ls : Array Slot) (hl : lv_has ls 4 [(0, .ref (g 0)), (1, .ref h2)]) (hP : va_P D kCl (([wP cy g u, wS cy h2 a2 u2] : List va_W).flatten) H) (hD : va_D A (([wP cy g u, wS cy h2 a2 u2] : List va_W).flatten)) (hS : va_S A s.heap H locs) (h1 : Ok (fX6_readCar_b0 u u2) K) :
    kW p l e rmX6_readCar s m args below meth c H locs (va_Qv K (fun q => kPost D A (([wP cy g q.1, wS cy h2 a2 q.2] : List va_W).flatten)) A) A 0 ls [] := by
  obtain ⟨hx, hb, hr, hml, hown, hts, hlocks, hK, hA⟩ := id E
  unfold fX6_readCar_b0 at h1
  refine lv_aload_n hx hb dX6_readCar_0 rfl (lv_at hl 0 rfl) ?_
  refine lv_iconst (v := 0) hx hb dX6_readCar_1 rfl ?_
  refine lv_iconst (v := 3) hx hb dX6_readCar_2 rfl ?_
  refine kc_iV (b := (g 0)) (As := [.int 0, .int 3]) (rest := []) h1 ⟨hx, hb, hml, hown, hts⟩ (cX6_readNumberM l D cy g H.size u 0 3) (cwV 2 hts gX6_readCar_X6_readNumber rfl rfl rfl hdX6_readNumber ⟨Nat.le_of_ble_eq_true rfl, Nat.le_of_ble_eq_true rfl⟩) hK (k_sel1 (l := [wP cy g u, wS cy h2 a2 u2]) (n := 2) 0 [1] rfl rfl (by decide)) hP hD hS hA (q0 := 0) rfl rfl rfl hl.1 rfl (Nat.le_of_ble_eq_true rfl) dX6_readCar_3 ⟨Nat.zero_le _, Nat.zero_le _⟩ (fun r3 u3 H locs h1 hP hD hS => ?_)
  replace hP := kP_perm (List.Perm.symm (k_sel1 (l := [wP cy g u3, wS cy h2 a2 u2]) (n := 2) 0 [1] rfl rfl (by decide))) hP
  replace hD := kD_perm (List.Perm.symm (k_sel1 (l := [wP cy g u3, wS cy h2 a2 u2]) (n := 2) 0 [1] rfl rfl (by decide))) hD
  refine lv_istore_n (lv' := [(2, .int r3), (0, .ref (g 0)), (1, .ref h2)]) hx hb dX6_readCar_6 rfl hl (by decide) rfl (fun ls hl => ?_)
  refine lv_aload_n hx hb dX6_readCar_7 rfl (lv_at hl 1 rfl) ?_
  refine lv_iconst (v := 1) hx hb dX6_readCar_8 rfl ?_
  refine lv_sipush (v := 999) hx hb dX6_readCar_9 rfl ?_
  refine kc_iV (b := (g 0)) (As := [.int 1, .int 999]) (rest := []) h1 ⟨hx, hb, hml, hown, hts⟩ (cX6_readNumberM l D cy g H.size u3 1 999) (cwV 2 hts gX6_readCar_X6_readNumber rfl rfl rfl hdX6_readNumber ⟨Nat.le_of_ble_eq_true rfl, Nat.le_of_ble_eq_true rfl⟩) hK (k_sel1 (l := [wP cy g u3, wS cy h2 a2 u2]) (n := 2) 0 [1] rfl rfl (by decide)) hP hD hS hA (q0 := 0) rfl rfl rfl hl.1 rfl (Nat.le_of_ble_eq_true rfl) dX6_readCar_12 ⟨Nat.zero_le _, Nat.zero_le _⟩ (fun r12 u12 H locs h1 hP hD hS => ?_)
  replace hP := kP_perm (List.Perm.symm (k_sel1 (l := [wP cy g u12, wS cy h2 a2 u2]) (n := 2) 0 [1] rfl rfl (by decide))) hP
  replace hD := kD_perm (List.Perm.symm (k_sel1 (l := [wP cy g u12, wS cy h2 a2 u2]) (n := 2) 0 [1] rfl rfl (by decide))) hD
  refine lv_istore_n (lv' := [(3, .int r12), (2, .int r3), (0, .ref (g 0)), (1, .ref h2)]) hx hb dX6_readCar_15 rfl hl (by decide) rfl (fun ls hl => ?_)
  refine lv_aload_n hx hb dX6_readCar_16 rfl (lv_at hl 3 rfl) ?_
  refine lv_iload_n hx hb dX6_readCar_17 rfl (lv_at hl 1 rfl) ?_
  refine lv_iload_n hx hb dX6_readCar_18 rfl (lv_at hl 0 rfl) ?_
  refine kc_iV (b := h2) (As := [.int r3, .int r12]) (rest := []) h1 ⟨hx, hb, hml, hown, hts⟩ (cX8_addCarM l D cy h2 a2 H.size u2 r3 r12) (cwV 2 hts gX6_readCar_X8_addCar rfl rfl rfl hdX8_addCar ⟨Nat.le_of_ble_eq_true rfl, Nat.le_of_ble_eq_true rfl⟩) hK (k_sel1 (l := [wP cy g u12, wS cy h2 a2 u2]) (n := 2) 1 [0] rfl rfl (by decide)) hP hD hS hA (q0 := 0) rfl rfl rfl hl.1 rfl (Nat.le_of_ble_eq_true rfl) dX6_readCar_19 ⟨Nat.zero_le _, Nat.zero_le _⟩ (fun r19 u19 H locs h1 hP hD hS => ?_)
  replace hP := kP_perm (List.Perm.symm (k_sel1 (l := [wP cy g u12, wS cy h2 a2 u19]) (n := 2) 1 [0] rfl rfl (by decide))) hP
  replace hD := kD_perm (List.Perm.symm (k_sel1 (l := [wP cy g u12, wS cy h2 a2 u19]) (n := 2) 1 [0] rfl rfl (by decide))) hD
  refine lv_pop hx hb dX6_readCar_22 rfl ?_
  exact kret_v hx hb hr hlocks hP hD hS h1 dX6_readCar_23
def fX6_readCar (u : PS) (u2 : KS) : Option (PS × KS) := fX6_readCar_b0 u u2
set_option maxHeartbeats 4000000 in
set_option maxRecDepth 100000 in
theorem cX6_readCarM (l : Launch) (D : va_G) (cy : Nat → ClassId) (g : Nat → Nat) (h2 : Nat) (a2 : Nat → Nat) (sz : Nat) (u : PS) (u2 : KS) : ∀ (K : PS × KS → Prop), Ok (fX6_readCar u u2) K → Met l yX6_readCar wsX6_readCar rmX6_readCar (va_Pc [.ref (g 0), .ref h2] (kPre D cy sz (([wP cy g u, wS cy h2 a2 u2] : List va_W).flatten))) (va_Qv K (fun q => kPost D (va_A (([wP cy g u, wS cy h2 a2 u2] : List va_W).flatten) sz) (([wP cy g q.1, wS cy h2 a2 q.2] : List va_W).flatten)) (va_A (([wP cy g u, wS cy h2 a2 u2] : List va_W).flatten) sz)) 0 0 (va_A (([wP cy g u, wS cy h2 a2 u2] : List va_W).flatten) sz) := by
  intro K h1
  refine Met.ofW (cc := cX6_readCar) (maxL := 4) (ret := none) (by decide) rfl ?_
  intro p e s m args below meth c s₁ B hml hv
  obtain ⟨rfl, hsz, hP, hK, hD0⟩ := hv
  subst hsz
  have E : mE D cy RX6 cX6_readCar 4 none wsX6_readCar (va_A (([wP cy g u, wS cy h2 a2 u2] : List va_W).flatten) s.heap.size) p s m _ meth c := ⟨B.exec, B.bytes, B.returns, hml, findClass_of_methodNamed B.named, atoms_spec (ws := wsX6_readCar) B.pre, B.notSynchronized, hK, fun q h => Or.inr h⟩
  have hl := lv_entry ([.ref (g 0), .ref h2]) (n := 4) (Nat.le_of_ble_eq_true rfl)
  rw [lg_entry_eq]
  generalize (lg_sl ([.ref (g 0), .ref h2]) ++ List.replicate (4 - (lg_sl ([.ref (g 0), .ref h2])).length) Slot.unset).toArray = ls at hl ⊢
  exact tX6_readCar_b0 K E u u2 _ _ _ hl hP hD0.self va_S.rf h1
-- X6_statementHere
abbrev rmX6_statementHere : Room := { frames := 5, cells := 0, slots := 0, locals := 107 }
def fX6_statementHere_b0 (u : PS) : Option (Int32) :=
  bnd (fX6_isHere 14 u) (fun r3 => (if r3 = 0 then bnd (fX6_isHere 15 u) (fun r14 => (if r14 = 0 then bnd (fX6_isHere 16 u) (fun r25 => (if r25 = 0 then bnd (fX6_isHere 17 u) (fun r36 => (if r36 = 0 then bnd (fX6_isHere 18 u) (fun r47 => (if r47 = 0 then bnd (fX6_isHere 19 u) (fun r58 => (if r58 = 0 then bnd (fX6_isHere 20 u) (fun r69 => (if r69 = 0 then bnd (fX6_isHere 21 u) (fun r81 => (if r81 = 0 then some (-1) else some 7)) else some 6)) else some 5)) else some 4)) else some 3)) else some 2)) else some 1)) else some 0))
set_option maxHeartbeats 4000000 in
set_option maxRecDepth 100000 in
theorem tX6_statementHere_b0 {p : Program} {l : Launch} {e : Env} {s : State} {m : MethodId} {args : Array Value} {below : List Frame} {meth : Method} {c : Code} {D : va_G} {cy : Nat → ClassId} {A : Nat → Prop} {g : Nat → Nat} {za zv : Nat → Nat} (K : Int32 → Prop) (E : mE D cy RX6 cX6_statementHere 1 (some .int) wsX6_statementHere A p s m args meth c) (hZ : mZ za zv A s s.heap) (u : PS)
     (H : Heap) (locs : List Loc) (ls : Array Slot) (hl : lv_has ls 1 [(0, .ref (g 0))]) (hP : va_P D kCl (wP cy g u) H) (hD : va_D A (wP cy g u)) (hS : va_S A s.heap H locs) (h1 : Ok (fX6_statementHere_b0 u) K) :
    kW p l e rmX6_statementHere s m args below meth c H locs (va_Qi (fun r (_ : Unit) => K r) (fun _ => kPost D A (wP cy g u)) A) A 0 ls [] := by
  obtain ⟨hx, hb, hr, hml, hown, hts, hlocks, hK, hA⟩ := id E
  unfold fX6_statementHere_b0 at h1
  refine lv_aload_n hx hb dX6_statementHere_0 rfl (lv_at hl 0 rfl) ?_
  refine k_ldcS (tx := "tide") (q := za 14) hx hb hown (k_site hZ 14 (by decide)) dX6_statementHere_1 ?_
  refine kz_rV0 (b := (g 0)) (As := [.ref (za 14)]) (rest := []) h1 ⟨hx, hb, hml, hown, hts⟩ (cX6_isHereM l D cy za zv g H.size 14 u (by decide)) (cwV 1 hts gX6_statementHere_X6_isHere rfl rfl rfl hdX6_isHere ⟨Nat.le_of_ble_eq_true rfl, Nat.le_of_ble_eq_true rfl⟩) hZ hK hP hD hS hA (q0 := 0) rfl rfl rfl hl.1 rfl (Nat.le_of_ble_eq_true rfl) dX6_statementHere_3 ⟨Nat.zero_le _, Nat.zero_le _⟩ (fun r3 H locs h1 hP hS => ?_)
  refine lv_if_eq (tgt := 11) hx hb dX6_statementHere_6 (by decide) (fun c6 => ?_) (fun c6 => ?_)
  · replace h1 := Ok.pos c6 h1
    refine lv_aload_n hx hb dX6_statementHere_11 rfl (lv_at hl 0 rfl) ?_
    refine k_ldcS (tx := "quay") (q := za 15) hx hb hown (k_site hZ 15 (by decide)) dX6_statementHere_12 ?_
    refine kz_rV0 (b := (g 0)) (As := [.ref (za 15)]) (rest := []) h1 ⟨hx, hb, hml, hown, hts⟩ (cX6_isHereM l D cy za zv g H.size 15 u (by decide)) (cwV 1 hts gX6_statementHere_X6_isHere rfl rfl rfl hdX6_isHere ⟨Nat.le_of_ble_eq_true rfl, Nat.le_of_ble_eq_true rfl⟩) hZ hK hP hD hS hA (q0 := 0) rfl rfl rfl hl.1 rfl (Nat.le_of_ble_eq_true rfl) dX6_statementHere_14 ⟨Nat.zero_le _, Nat.zero_le _⟩ (fun r14 H locs h1 hP hS => ?_)
    refine lv_if_eq (tgt := 22) hx hb dX6_statementHere_17 (by decide) (fun c17 => ?_) (fun c17 => ?_)
    · replace h1 := Ok.pos c17 h1
      refine lv_aload_n hx hb dX6_statementHere_22 rfl (lv_at hl 0 rfl) ?_
      refine k_ldcS (tx := "deck") (q := za 16) hx hb hown (k_site hZ 16 (by decide)) dX6_statementHere_23 ?_
      refine kz_rV0 (b := (g 0)) (As := [.ref (za 16)]) (rest := []) h1 ⟨hx, hb, hml, hown, hts⟩ (cX6_isHereM l D cy za zv g H.size 16 u (by decide)) (cwV 1 hts gX6_statementHere_X6_isHere rfl rfl rfl hdX6_isHere ⟨Nat.le_of_ble_eq_true rfl, Nat.le_of_ble_eq_true rfl⟩) hZ hK hP hD hS hA (q0 := 0) rfl rfl rfl hl.1 rfl (Nat.le_of_ble_eq_true rfl) dX6_statementHere_25 ⟨Nat.zero_le _, Nat.zero_le _⟩ (fun r25 H locs h1 hP hS => ?_)
      refine lv_if_eq (tgt := 33) hx hb dX6_statementHere_28 (by decide) (fun c28 => ?_) (fun c28 => ?_)
      · replace h1 := Ok.pos c28 h1
        refine lv_aload_n hx hb dX6_statementHere_33 rfl (lv_at hl 0 rfl) ?_
        refine k_ldcS (tx := "lanes") (q := za 17) hx hb hown (k_site hZ 17 (by decide)) dX6_statementHere_34 ?_
        refine kz_rV0 (b := (g 0)) (As := [.ref (za 17)]) (rest := []) h1 ⟨hx, hb, hml, hown, hts⟩ (cX6_isHereM l D cy za zv g H.size 17 u (by decide)) (cwV 1 hts gX6_statementHere_X6_isHere rfl rfl rfl hdX6_isHere ⟨Nat.le_of_ble_eq_true rfl, Nat.le_of_ble_eq_true rfl⟩) hZ hK hP hD hS hA (q0 := 0) rfl rfl rfl hl.1 rfl (Nat.le_of_ble_eq_true rfl) dX6_statementHere_36 ⟨Nat.zero_le _, Nat.zero_le _⟩ (fun r36 H locs h1 hP hS => ?_)
        refine lv_if_eq (tgt := 44) hx hb dX6_statementHere_39 (by decide) (fun c39 => ?_) (fun c39 => ?_)
        · replace h1 := Ok.pos c39 h1
          refine lv_aload_n hx hb dX6_statementHere_44 rfl (lv_at hl 0 rfl) ?_
          refine k_ldcS (tx := "winch") (q := za 18) hx hb hown (k_site hZ 18 (by decide)) dX6_statementHere_45 ?_
          refine kz_rV0 (b := (g 0)) (As := [.ref (za 18)]) (rest := []) h1 ⟨hx, hb, hml, hown, hts⟩ (cX6_isHereM l D cy za zv g H.size 18 u (by decide)) (cwV 1 hts gX6_statementHere_X6_isHere rfl rfl rfl hdX6_isHere ⟨Nat.le_of_ble_eq_true rfl, Nat.le_of_ble_eq_true rfl⟩) hZ hK hP hD hS hA (q0 := 0) rfl rfl rfl hl.1 rfl (Nat.le_of_ble_eq_true rfl) dX6_statementHere_47 ⟨Nat.zero_le _, Nat.zero_le _⟩ (fun r47 H locs h1 hP hS => ?_)
          refine lv_if_eq (tgt := 55) hx hb dX6_statementHere_50 (by decide) (fun c50 => ?_) (fun c50 => ?_)
          · replace h1 := Ok.pos c50 h1
            refine lv_aload_n hx hb dX6_statementHere_55 rfl (lv_at hl 0 rfl) ?_
            refine k_ldcS (tx := "cross") (q := za 19) hx hb hown (k_site hZ 19 (by decide)) dX6_statementHere_56 ?_
            refine kz_rV0 (b := (g 0)) (As := [.ref (za 19)]) (rest := []) h1 ⟨hx, hb, hml, hown, hts⟩ (cX6_isHereM l D cy za zv g H.size 19 u (by decide)) (cwV 1 hts gX6_statementHere_X6_isHere rfl rfl rfl hdX6_isHere ⟨Nat.le_of_ble_eq_true rfl, Nat.le_of_ble_eq_true rfl⟩) hZ hK hP hD hS hA (q0 := 0) rfl rfl rfl hl.1 rfl (Nat.le_of_ble_eq_true rfl) dX6_statementHere_58 ⟨Nat.zero_le _, Nat.zero_le _⟩ (fun r58 H locs h1 hP hS => ?_)
            refine lv_if_eq (tgt := 66) hx hb dX6_statementHere_61 (by decide) (fun c61 => ?_) (fun c61 => ?_)
            · replace h1 := Ok.pos c61 h1
              refine lv_aload_n hx hb dX6_statementHere_66 rfl (lv_at hl 0 rfl) ?_
              refine k_ldcS (tx := "kind") (q := za 20) hx hb hown (k_site hZ 20 (by decide)) dX6_statementHere_67 ?_
              refine kz_rV0 (b := (g 0)) (As := [.ref (za 20)]) (rest := []) h1 ⟨hx, hb, hml, hown, hts⟩ (cX6_isHereM l D cy za zv g H.size 20 u (by decide)) (cwV 1 hts gX6_statementHere_X6_isHere rfl rfl rfl hdX6_isHere ⟨Nat.le_of_ble_eq_true rfl, Nat.le_of_ble_eq_true rfl⟩) hZ hK hP hD hS hA (q0 := 0) rfl rfl rfl hl.1 rfl (Nat.le_of_ble_eq_true rfl) dX6_statementHere_69 ⟨Nat.zero_le _, Nat.zero_le _⟩ (fun r69 H locs h1 hP hS => ?_)
              refine lv_if_eq (tgt := 78) hx hb dX6_statementHere_72 (by decide) (fun c72 => ?_) (fun c72 => ?_)
              · replace h1 := Ok.pos c72 h1
                refine lv_aload_n hx hb dX6_statementHere_78 rfl (lv_at hl 0 rfl) ?_
                refine k_ldcS (tx := "car") (q := za 21) hx hb hown (k_site hZ 21 (by decide)) dX6_statementHere_79 ?_
                refine kz_rV0 (b := (g 0)) (As := [.ref (za 21)]) (rest := []) h1 ⟨hx, hb, hml, hown, hts⟩ (cX6_isHereM l D cy za zv g H.size 21 u (by decide)) (cwV 1 hts gX6_statementHere_X6_isHere rfl rfl rfl hdX6_isHere ⟨Nat.le_of_ble_eq_true rfl, Nat.le_of_ble_eq_true rfl⟩) hZ hK hP hD hS hA (q0 := 0) rfl rfl rfl hl.1 rfl (Nat.le_of_ble_eq_true rfl) dX6_statementHere_81 ⟨Nat.zero_le _, Nat.zero_le _⟩ (fun r81 H locs h1 hP hS => ?_)
                refine lv_if_eq (tgt := 92) hx hb dX6_statementHere_84 (by decide) (fun c84 => ?_) (fun c84 => ?_)
                · replace h1 := Ok.pos c84 h1
                  refine lv_iconst (v := (-1)) hx hb dX6_statementHere_92 rfl ?_
                  exact kret_r hx hb hr hlocks hP hD hS h1 dX6_statementHere_93
                · replace h1 := Ok.neg c84 h1
                  refine lv_bipush (v := 7) hx hb dX6_statementHere_87 rfl ?_
                  refine lv_goto (tgt := 93) hx hb dX6_statementHere_89 (by decide) ?_
                  exact kret_r hx hb hr hlocks hP hD hS h1 dX6_statementHere_93
              · replace h1 := Ok.neg c72 h1
                refine lv_bipush (v := 6) hx hb dX6_statementHere_75 rfl ?_
                exact kret_r hx hb hr hlocks hP hD hS h1 dX6_statementHere_77
            · replace h1 := Ok.neg c61 h1
              refine lv_iconst (v := 5) hx hb dX6_statementHere_64 rfl ?_
              exact kret_r hx hb hr hlocks hP hD hS h1 dX6_statementHere_65
          · replace h1 := Ok.neg c50 h1
            refine lv_iconst (v := 4) hx hb dX6_statementHere_53 rfl ?_
            exact kret_r hx hb hr hlocks hP hD hS h1 dX6_statementHere_54
        · replace h1 := Ok.neg c39 h1
          refine lv_iconst (v := 3) hx hb dX6_statementHere_42 rfl ?_
          exact kret_r hx hb hr hlocks hP hD hS h1 dX6_statementHere_43
      · replace h1 := Ok.neg c28 h1
        refine lv_iconst (v := 2) hx hb dX6_statementHere_31 rfl ?_
        exact kret_r hx hb hr hlocks hP hD hS h1 dX6_statementHere_32
    · replace h1 := Ok.neg c17 h1
      refine lv_iconst (v := 1) hx hb dX6_statementHere_20 rfl ?_
      exact kret_r hx hb hr hlocks hP hD hS h1 dX6_statementHere_21
  · replace h1 := Ok.neg c6 h1
    refine lv_iconst (v := 0) hx hb dX6_statementHere_9 rfl ?_
    exact kret_r hx hb hr hlocks hP hD hS h1 dX6_statementHere_10
def fX6_statementHere (u : PS) : Option (Int32) := fX6_statementHere_b0 u
set_option maxHeartbeats 4000000 in
set_option maxRecDepth 100000 in
theorem cX6_statementHereM (l : Launch) (D : va_G) (cy : Nat → ClassId) (za zv : Nat → Nat) (g : Nat → Nat) (sz : Nat) (u : PS) : ∀ (K : Int32 → Prop), Ok (fX6_statementHere u) K → Met l yX6_statementHere wsX6_statementHere rmX6_statementHere (va_Pc [.ref (g 0)] (kPreZ D cy za zv sz (wP cy g u))) (va_Qi (fun r (_ : Unit) => K r) (fun _ => kPost D (va_A (wP cy g u) sz) (wP cy g u)) (va_A (wP cy g u) sz)) 0 0 (va_A (wP cy g u) sz) := by
  intro K h1
  refine Met.ofW (cc := cX6_statementHere) (maxL := 1) (ret := (some .int)) (by decide) rfl ?_
  intro p e s m args below meth c s₁ B hml hv
  obtain ⟨rfl, ⟨hsz, hP, hK, hD0⟩, hZ⟩ := hv
  subst hsz
  have E : mE D cy RX6 cX6_statementHere 1 (some .int) wsX6_statementHere (va_A (wP cy g u) s.heap.size) p s m _ meth c := ⟨B.exec, B.bytes, B.returns, hml, findClass_of_methodNamed B.named, atoms_spec (ws := wsX6_statementHere) B.pre, B.notSynchronized, hK, fun q h => Or.inr h⟩
  have hl := lv_entry ([.ref (g 0)]) (n := 1) (Nat.le_of_ble_eq_true rfl)
  rw [lg_entry_eq]
  generalize (lg_sl ([.ref (g 0)]) ++ List.replicate (1 - (lg_sl ([.ref (g 0)])).length) Slot.unset).toArray = ls at hl ⊢
  exact tX6_statementHere_b0 K E hZ u _ _ _ hl hP hD0.self va_S.rf h1
-- X6_readSettings
theorem inX6_readSettings_X8 : ∀ w ∈ u_ws RX8 TX8 13, w ∈ wsX6_readSettings := k_lays 125 rfl
theorem lkX6_readSettings_110 : Cond.fieldLink RX6 110 "FerryRamp$State" "settings" "[I" ∈ wsX6_readSettings := List.mem_of_getElem? (i := 1) rfl
theorem hdX6_readHeight : yX6_readHeight.cls = RX6 ∧ yX6_readHeight.cls ≠ "java/lang/invoke/MethodHandle" ∧ yX6_readHeight.cls ≠ "java/lang/invoke/VarHandle" ∧ (parseMethodDescriptor yX6_readHeight.desc).map (fun d => d.parameters.length) = some 2 := by decide +kernel
theorem hdX6_readWord : yX6_readWord.cls = RX6 ∧ yX6_readWord.cls ≠ "java/lang/invoke/MethodHandle" ∧ yX6_readWord.cls ≠ "java/lang/invoke/VarHandle" ∧ (parseMethodDescriptor yX6_readWord.desc).map (fun d => d.parameters.length) = some 1 := by decide +kernel
theorem hdX6_readKind : yX6_readKind.cls = RX6 ∧ yX6_readKind.cls ≠ "java/lang/invoke/MethodHandle" ∧ yX6_readKind.cls ≠ "java/lang/invoke/VarHandle" ∧ (parseMethodDescriptor yX6_readKind.desc).map (fun d => d.parameters.length) = some 1 := by decide +kernel
theorem hdX6_readCar : yX6_readCar.cls = RX6 ∧ yX6_readCar.cls ≠ "java/lang/invoke/MethodHandle" ∧ yX6_readCar.cls ≠ "java/lang/invoke/VarHandle" ∧ (parseMethodDescriptor yX6_readCar.desc).map (fun d => d.parameters.length) = some 1 := by decide +kernel
abbrev rmX6_readSettings : Room := { frames := 6, cells := 0, slots := 0, locals := 128 }
def fX6_readSettings_b0 (x1 : Int32) (u : PS) (u2 : KS) : Option (PS × KS) :=
  (if x1 = 0 then bnd2 (fX6_readHeight (-500) 500 u) (fun r57 u57 => bnd2 (fX6_readHeight (sT (wT u2 0 r57) 0) 500 u57) (fun r70 u70 => bnd (fX6_readWord 22 u70) (fun u77 => bnd2 (fX6_readNumber 1 99 u77) (fun r86 u86 => some (u86, wT (wT (wT u2 0 r57) 1 r70) 2 r86))))) else (if x1 = 1 then bnd2 (fX6_readHeight (-500) 500 u) (fun r102 u102 => some (u102, wT u2 3 r102)) else (if x1 = 2 then bnd2 (fX6_readNumber 0 300 u) (fun r116 u116 => bnd (fX6_readWord 23 u116) (fun u123 => bnd2 (fX6_readNumber 1 999 u123) (fun r133 u133 => some (u133, wT (wT u2 4 r116) 5 r133)))) else (if x1 = 3 then bnd2 (fX6_readNumber 1 30 u) (fun r147 u147 => bnd (fX6_readWord 24 u147) (fun u154 => bnd2 (fX6_readNumber 1 9999 u154) (fun r165 u165 => bnd (fX6_readWord 25 u165) (fun u172 => bnd2 (fX6_readNumber 0 9999 u172) (fun r183 u183 => some (u183, wT (wT (wT u2 6 r147) 7 r165) 8 r183)))))) else (if x1 = 4 then bnd2 (fX6_readNumber 1 20 u) (fun r197 u197 => bnd2 (fX6_readNumber 0 50 u197) (fun r208 u208 => bnd2 (fX6_readNumber 0 20 u208) (fun r219 u219 => some (u219, wT (wT (wT u2 9 r197) 10 r208) 11 r219)))) else (if x1 = 5 then bnd2 (fX6_readNumber 1 20 u) (fun r233 u233 => bnd (fX6_readWord 26 u233) (fun u240 => bnd2 (fX6_readNumber 1 50 u240) (fun r250 u250 => some (u250, wT (wT u2 12 r233) 13 r250)))) else (if x1 = 6 then bnd (fX6_readKind u u2) (fun u259 => some (u259.1, u259.2)) else bnd (fX6_readCar u u2) (fun u267 => some (u267.1, u267.2)))))))))
set_option maxHeartbeats 4000000 in
set_option maxRecDepth 100000 in
theorem tX6_readSettings_b0 {p : Program} {l : Launch} {e : Env} {s : State} {m : MethodId} {args : Array Value} {below : List Frame} {meth : Method} {c : Code} {D : va_G} {cy : Nat → ClassId} {A : Nat → Prop} {g : Nat → Nat} {h2 : Nat} {a2 : Nat → Nat} {za zv : Nat → Nat} (K : PS × KS → Prop) (E : mE D cy RX6 cX6_readSettings 4 none wsX6_readSettings A p s m args meth c) (hZ : mZ za zv A s s.heap)
     (x1 : Int32) (u : PS) (u2 : KS) (H : Heap) (locs : List Loc) (ls : Array Slot) (hl : lv_has ls 4 [(0, .ref (g 0)), (1, .int x1), (2, .ref h2)]) (hP : va_P D kCl (([wP cy g u, wS cy h2 a2 u2] : List va_W).flatten) H) (hD : va_D A (([wP cy g u, wS cy h2 a2 u2] : List va_W).flatten)) (hS : va_S A s.heap H locs) (h1 : Ok (fX6_readSettings_b0 x1 u u2) K) :
    kW p l e rmX6_readSettings s m args below meth c H locs (va_Qv K (fun q => kPost D A (([wP cy g q.1, wS cy h2 a2 q.2] : List va_W).flatten)) A) A 0 ls [] := by
  obtain ⟨hx, hb, hr, hml, hown, hts, hlocks, hK, hA⟩ := id E
  unfold fX6_readSettings_b0 at h1
  refine lv_aload_n hx hb dX6_readSettings_0 rfl (lv_at hl 2 rfl) ?_
  refine k_get (v := .ref (a2 1)) (C := RX8) (T := TX8) (N := 13) hx hb hts inX6_readSettings_X8 hown hK hP 3 (fl_at (pre := [wP cy g u]) (post := []) (q := 0) rfl (wS_a0 _ _ _ _)) rfl 1 (by decide) lkX6_readSettings_110 (sFs_1 _ _) dX6_readSettings_1 ?_
  refine lv_astore_n (lv' := [(3, .ref (a2 1)), (0, .ref (g 0)), (1, .int x1), (2, .ref h2)]) hx hb dX6_readSettings_4 rfl hl (by decide) rfl (fun ls hl => ?_)
  refine lv_iload_n hx hb dX6_readSettings_5 rfl (lv_at hl 2 rfl) ?_
  by_cases c6_0 : x1 = 0
  · replace h1 := Ok.pos c6_0 h1
    refine lv_tableIn (off := 42) (tgt := 48) hx hb dX6_readSettings_6 (by rw [c6_0]; decide) (by rw [c6_0]; decide) (by rw [c6_0]; decide) (by decide) ?_
    refine lv_aload_n hx hb dX6_readSettings_48 rfl (lv_at hl 0 rfl) ?_
    refine lv_iconst (v := 0) hx hb dX6_readSettings_49 rfl ?_
    refine lv_aload_n hx hb dX6_readSettings_50 rfl (lv_at hl 1 rfl) ?_
    refine lv_sipush (v := (-500)) hx hb dX6_readSettings_51 rfl ?_
    refine lv_sipush (v := 500) hx hb dX6_readSettings_54 rfl ?_
    refine kc_iV (b := (g 0)) (As := [.int (-500), .int 500]) (rest := [.int 0, .ref (a2 1)]) h1 ⟨hx, hb, hml, hown, hts⟩ (cX6_readHeightM l D cy g H.size u (-500) 500) (cwV 2 hts gX6_readSettings_X6_readHeight rfl rfl rfl hdX6_readHeight ⟨Nat.le_of_ble_eq_true rfl, Nat.le_of_ble_eq_true rfl⟩) hK (k_sel1 (l := [wP cy g u, wS cy h2 a2 u2]) (n := 2) 0 [1] rfl rfl (by decide)) hP hD hS hA (q0 := 0) rfl rfl rfl hl.1 rfl (Nat.le_of_ble_eq_true rfl) dX6_readSettings_57 ⟨Nat.zero_le _, Nat.zero_le _⟩ (fun r57 u57 H locs h1 hP hD hS => ?_)
    replace hP := kP_perm (List.Perm.symm (k_sel1 (l := [wP cy g u57, wS cy h2 a2 u2]) (n := 2) 0 [1] rfl rfl (by decide))) hP
    replace hD := kD_perm (List.Perm.symm (k_sel1 (l := [wP cy g u57, wS cy h2 a2 u2]) (n := 2) 0 [1] rfl rfl (by decide))) hD
    refine k_iast (k := 0) (ws' := ([wP cy g u57, wS cy h2 a2 (wT u2 0 r57)] : List va_W).flatten) hx hb hK hP hD hS 5 (fl_at (pre := [wP cy g u57]) (post := []) (q := 2) rfl (wS_a2 _ _ _ _)) rfl rfl (fl_set (pre := [wP cy g u57]) (post := []) (q := 2) rfl (Nat.le_of_ble_eq_true rfl) (wS_wT _ _ _ _ _ _)) dX6_readSettings_60 (fun H locs hP hD hS => ?_)
    refine lv_aload_n hx hb dX6_readSettings_61 rfl (lv_at hl 0 rfl) ?_
    refine lv_iconst (v := 1) hx hb dX6_readSettings_62 rfl ?_
    refine lv_aload_n hx hb dX6_readSettings_63 rfl (lv_at hl 1 rfl) ?_
    refine lv_aload_n hx hb dX6_readSettings_64 rfl (lv_at hl 0 rfl) ?_
    refine lv_iconst (v := 0) hx hb dX6_readSettings_65 rfl ?_
    refine k_iald (k := 0) hx hb hK hP 5 (fl_at (pre := [wP cy g u57]) (post := []) (q := 2) rfl (wS_a2 _ _ _ _)) rfl rfl dX6_readSettings_66 ?_
    refine lv_sipush (v := 500) hx hb dX6_readSettings_67 rfl ?_
    refine kc_iV (b := (g 0)) (As := [.int (sT (wT u2 0 r57) 0), .int 500]) (rest := [.int 1, .ref (a2 1)]) h1 ⟨hx, hb, hml, hown, hts⟩ (cX6_readHeightM l D cy g H.size u57 (sT (wT u2 0 r57) 0) 500) (cwV 2 hts gX6_readSettings_X6_readHeight rfl rfl rfl hdX6_readHeight ⟨Nat.le_of_ble_eq_true rfl, Nat.le_of_ble_eq_true rfl⟩) hK (k_sel1 (l := [wP cy g u57, wS cy h2 a2 (wT u2 0 r57)]) (n := 2) 0 [1] rfl rfl (by decide)) hP hD hS hA (q0 := 0) rfl rfl rfl hl.1 rfl (Nat.le_of_ble_eq_true rfl) dX6_readSettings_70 ⟨Nat.zero_le _, Nat.zero_le _⟩ (fun r70 u70 H locs h1 hP hD hS => ?_)
    replace hP := kP_perm (List.Perm.symm (k_sel1 (l := [wP cy g u70, wS cy h2 a2 (wT u2 0 r57)]) (n := 2) 0 [1] rfl rfl (by decide))) hP
    replace hD := kD_perm (List.Perm.symm (k_sel1 (l := [wP cy g u70, wS cy h2 a2 (wT u2 0 r57)]) (n := 2) 0 [1] rfl rfl (by decide))) hD
    refine k_iast (k := 1) (ws' := ([wP cy g u70, wS cy h2 a2 (wT (wT u2 0 r57) 1 r70)] : List va_W).flatten) hx hb hK hP hD hS 5 (fl_at (pre := [wP cy g u70]) (post := []) (q := 2) rfl (wS_a2 _ _ _ _)) rfl rfl (fl_set (pre := [wP cy g u70]) (post := []) (q := 2) rfl (Nat.le_of_ble_eq_true rfl) (wS_wT _ _ _ _ _ _)) dX6_readSettings_73 (fun H locs hP hD hS => ?_)
    refine lv_aload_n hx hb dX6_readSettings_74 rfl (lv_at hl 1 rfl) ?_
    refine k_ldcS (tx := "half") (q := za 22) hx hb hown (k_site hZ 22 (by decide)) dX6_readSettings_75 ?_
    refine kz_vV (b := (g 0)) (As := [.ref (za 22)]) (rest := []) h1 ⟨hx, hb, hml, hown, hts⟩ (cX6_readWordM l D cy za zv g H.size 22 u70 (by decide)) (cwV 1 hts gX6_readSettings_X6_readWord rfl rfl rfl hdX6_readWord ⟨Nat.le_of_ble_eq_true rfl, Nat.le_of_ble_eq_true rfl⟩) hZ hK (k_sel1 (l := [wP cy g u70, wS cy h2 a2 (wT (wT u2 0 r57) 1 r70)]) (n := 2) 0 [1] rfl rfl (by decide)) hP hD hS hA (q0 := 0) rfl rfl rfl hl.1 rfl (Nat.le_of_ble_eq_true rfl) dX6_readSettings_77 ⟨Nat.zero_le _, Nat.zero_le _⟩ (fun u77 H locs h1 hP hD hS => ?_)
    replace hP := kP_perm (List.Perm.symm (k_sel1 (l := [wP cy g u77, wS cy h2 a2 (wT (wT u2 0 r57) 1 r70)]) (n := 2) 0 [1] rfl rfl (by decide))) hP
    replace hD := kD_perm (List.Perm.symm (k_sel1 (l := [wP cy g u77, wS cy h2 a2 (wT (wT u2 0 r57) 1 r70)]) (n := 2) 0 [1] rfl rfl (by decide))) hD
    refine lv_aload_n hx hb dX6_readSettings_80 rfl (lv_at hl 0 rfl) ?_
    refine lv_iconst (v := 2) hx hb dX6_readSettings_81 rfl ?_
    refine lv_aload_n hx hb dX6_readSettings_82 rfl (lv_at hl 1 rfl) ?_
    refine lv_iconst (v := 1) hx hb dX6_readSettings_83 rfl ?_
    refine lv_bipush (v := 99) hx hb dX6_readSettings_84 rfl ?_
    refine kc_iV (b := (g 0)) (As := [.int 1, .int 99]) (rest := [.int 2, .ref (a2 1)]) h1 ⟨hx, hb, hml, hown, hts⟩ (cX6_readNumberM l D cy g H.size u77 1 99) (cwV 2 hts gX6_readSettings_X6_readNumber rfl rfl rfl hdX6_readNumber ⟨Nat.le_of_ble_eq_true rfl, Nat.le_of_ble_eq_true rfl⟩) hK (k_sel1 (l := [wP cy g u77, wS cy h2 a2 (wT (wT u2 0 r57) 1 r70)]) (n := 2) 0 [1] rfl rfl (by decide)) hP hD hS hA (q0 := 0) rfl rfl rfl hl.1 rfl (Nat.le_of_ble_eq_true rfl) dX6_readSettings_86 ⟨Nat.zero_le _, Nat.zero_le _⟩ (fun r86 u86 H locs h1 hP hD hS => ?_)
    replace hP := kP_perm (List.Perm.symm (k_sel1 (l := [wP cy g u86, wS cy h2 a2 (wT (wT u2 0 r57) 1 r70)]) (n := 2) 0 [1] rfl rfl (by decide))) hP
    replace hD := kD_perm (List.Perm.symm (k_sel1 (l := [wP cy g u86, wS cy h2 a2 (wT (wT u2 0 r57) 1 r70)]) (n := 2) 0 [1] rfl rfl (by decide))) hD
    refine k_iast (k := 2) (ws' := ([wP cy g u86, wS cy h2 a2 (wT (wT (wT u2 0 r57) 1 r70) 2 r86)] : List va_W).flatten) hx hb hK hP hD hS 5 (fl_at (pre := [wP cy g u86]) (post := []) (q := 2) rfl (wS_a2 _ _ _ _)) rfl rfl (fl_set (pre := [wP cy g u86]) (post := []) (q := 2) rfl (Nat.le_of_ble_eq_true rfl) (wS_wT _ _ _ _ _ _)) dX6_readSettings_89 (fun H locs hP hD hS => ?_)
    refine lv_goto (tgt := 270) hx hb dX6_readSettings_90 (by decide) ?_
    exact kret_v hx hb hr hlocks hP hD hS h1 dX6_readSettings_270
  replace h1 := Ok.neg c6_0 h1
  by_cases c6_1 : x1 = 1
  · replace h1 := Ok.pos c6_1 h1
    refine lv_tableIn (off := 87) (tgt := 93) hx hb dX6_readSettings_6 (by rw [c6_1]; decide) (by rw [c6_1]; decide) (by rw [c6_1]; decide) (by decide) ?_
    refine lv_aload_n hx hb dX6_readSettings_93 rfl (lv_at hl 0 rfl) ?_
    refine lv_iconst (v := 3) hx hb dX6_readSettings_94 rfl ?_
    refine lv_aload_n hx hb dX6_readSettings_95 rfl (lv_at hl 1 rfl) ?_
    refine lv_sipush (v := (-500)) hx hb dX6_readSettings_96 rfl ?_
    refine lv_sipush (v := 500) hx hb dX6_readSettings_99 rfl ?_
    refine kc_iV (b := (g 0)) (As := [.int (-500), .int 500]) (rest := [.int 3, .ref (a2 1)]) h1 ⟨hx, hb, hml, hown, hts⟩ (cX6_readHeightM l D cy g H.size u (-500) 500) (cwV 2 hts gX6_readSettings_X6_readHeight rfl rfl rfl hdX6_readHeight ⟨Nat.le_of_ble_eq_true rfl, Nat.le_of_ble_eq_true rfl⟩) hK (k_sel1 (l := [wP cy g u, wS cy h2 a2 u2]) (n := 2) 0 [1] rfl rfl (by decide)) hP hD hS hA (q0 := 0) rfl rfl rfl hl.1 rfl (Nat.le_of_ble_eq_true rfl) dX6_readSettings_102 ⟨Nat.zero_le _, Nat.zero_le _⟩ (fun r102 u102 H locs h1 hP hD hS => ?_)
    replace hP := kP_perm (List.Perm.symm (k_sel1 (l := [wP cy g u102, wS cy h2 a2 u2]) (n := 2) 0 [1] rfl rfl (by decide))) hP
    replace hD := kD_perm (List.Perm.symm (k_sel1 (l := [wP cy g u102, wS cy h2 a2 u2]) (n := 2) 0 [1] rfl rfl (by decide))) hD
    refine k_iast (k := 3) (ws' := ([wP cy g u102, wS cy h2 a2 (wT u2 3 r102)] : List va_W).flatten) hx hb hK hP hD hS 5 (fl_at (pre := [wP cy g u102]) (post := []) (q := 2) rfl (wS_a2 _ _ _ _)) rfl rfl (fl_set (pre := [wP cy g u102]) (post := []) (q := 2) rfl (Nat.le_of_ble_eq_true rfl) (wS_wT _ _ _ _ _ _)) dX6_readSettings_105 (fun H locs hP hD hS => ?_)
    refine lv_goto (tgt := 270) hx hb dX6_readSettings_106 (by decide) ?_
    exact kret_v hx hb hr hlocks hP hD hS h1 dX6_readSettings_270
  replace h1 := Ok.neg c6_1 h1
  by_cases c6_2 : x1 = 2
  · replace h1 := Ok.pos c6_2 h1
    refine lv_tableIn (off := 103) (tgt := 109) hx hb dX6_readSettings_6 (by rw [c6_2]; decide) (by rw [c6_2]; decide) (by rw [c6_2]; decide) (by decide) ?_
    refine lv_aload_n hx hb dX6_readSettings_109 rfl (lv_at hl 0 rfl) ?_
    refine lv_iconst (v := 4) hx hb dX6_readSettings_110 rfl ?_
    refine lv_aload_n hx hb dX6_readSettings_111 rfl (lv_at hl 1 rfl) ?_
    refine lv_iconst (v := 0) hx hb dX6_readSettings_112 rfl ?_
    refine lv_sipush (v := 300) hx hb dX6_readSettings_113 rfl ?_
    refine kc_iV (b := (g 0)) (As := [.int 0, .int 300]) (rest := [.int 4, .ref (a2 1)]) h1 ⟨hx, hb, hml, hown, hts⟩ (cX6_readNumberM l D cy g H.size u 0 300) (cwV 2 hts gX6_readSettings_X6_readNumber rfl rfl rfl hdX6_readNumber ⟨Nat.le_of_ble_eq_true rfl, Nat.le_of_ble_eq_true rfl⟩) hK (k_sel1 (l := [wP cy g u, wS cy h2 a2 u2]) (n := 2) 0 [1] rfl rfl (by decide)) hP hD hS hA (q0 := 0) rfl rfl rfl hl.1 rfl (Nat.le_of_ble_eq_true rfl) dX6_readSettings_116 ⟨Nat.zero_le _, Nat.zero_le _⟩ (fun r116 u116 H locs h1 hP hD hS => ?_)
    replace hP := kP_perm (List.Perm.symm (k_sel1 (l := [wP cy g u116, wS cy h2 a2 u2]) (n := 2) 0 [1] rfl rfl (by decide))) hP
    replace hD := kD_perm (List.Perm.symm (k_sel1 (l := [wP cy g u116, wS cy h2 a2 u2]) (n := 2) 0 [1] rfl rfl (by decide))) hD
    refine k_iast (k := 4) (ws' := ([wP cy g u116, wS cy h2 a2 (wT u2 4 r116)] : List va_W).flatten) hx hb hK hP hD hS 5 (fl_at (pre := [wP cy g u116]) (post := []) (q := 2) rfl (wS_a2 _ _ _ _)) rfl rfl (fl_set (pre := [wP cy g u116]) (post := []) (q := 2) rfl (Nat.le_of_ble_eq_true rfl) (wS_wT _ _ _ _ _ _)) dX6_readSettings_119 (fun H locs hP hD hS => ?_)
    refine lv_aload_n hx hb dX6_readSettings_120 rfl (lv_at hl 1 rfl) ?_
    refine k_ldcS (tx := "sink") (q := za 23) hx hb hown (k_site hZ 23 (by decide)) dX6_readSettings_121 ?_
    refine kz_vV (b := (g 0)) (As := [.ref (za 23)]) (rest := []) h1 ⟨hx, hb, hml, hown, hts⟩ (cX6_readWordM l D cy za zv g H.size 23 u116 (by decide)) (cwV 1 hts gX6_readSettings_X6_readWord rfl rfl rfl hdX6_readWord ⟨Nat.le_of_ble_eq_true rfl, Nat.le_of_ble_eq_true rfl⟩) hZ hK (k_sel1 (l := [wP cy g u116, wS cy h2 a2 (wT u2 4 r116)]) (n := 2) 0 [1] rfl rfl (by decide)) hP hD hS hA (q0 := 0) rfl rfl rfl hl.1 rfl (Nat.le_of_ble_eq_true rfl) dX6_readSettings_123 ⟨Nat.zero_le _, Nat.zero_le _⟩ (fun u123 H locs h1 hP hD hS => ?_)
    replace hP := kP_perm (List.Perm.symm (k_sel1 (l := [wP cy g u123, wS cy h2 a2 (wT u2 4 r116)]) (n := 2) 0 [1] rfl rfl (by decide))) hP
    replace hD := kD_perm (List.Perm.symm (k_sel1 (l := [wP cy g u123, wS cy h2 a2 (wT u2 4 r116)]) (n := 2) 0 [1] rfl rfl (by decide))) hD
    refine lv_aload_n hx hb dX6_readSettings_126 rfl (lv_at hl 0 rfl) ?_
    refine lv_iconst (v := 5) hx hb dX6_readSettings_127 rfl ?_
    refine lv_aload_n hx hb dX6_readSettings_128 rfl (lv_at hl 1 rfl) ?_
    refine lv_iconst (v := 1) hx hb dX6_readSettings_129 rfl ?_
    refine lv_sipush (v := 999) hx hb dX6_readSettings_130 rfl ?_
    refine kc_iV (b := (g 0)) (As := [.int 1, .int 999]) (rest := [.int 5, .ref (a2 1)]) h1 ⟨hx, hb, hml, hown, hts⟩ (cX6_readNumberM l D cy g H.size u123 1 999) (cwV 2 hts gX6_readSettings_X6_readNumber rfl rfl rfl hdX6_readNumber ⟨Nat.le_of_ble_eq_true rfl, Nat.le_of_ble_eq_true rfl⟩) hK (k_sel1 (l := [wP cy g u123, wS cy h2 a2 (wT u2 4 r116)]) (n := 2) 0 [1] rfl rfl (by decide)) hP hD hS hA (q0 := 0) rfl rfl rfl hl.1 rfl (Nat.le_of_ble_eq_true rfl) dX6_readSettings_133 ⟨Nat.zero_le _, Nat.zero_le _⟩ (fun r133 u133 H locs h1 hP hD hS => ?_)
    replace hP := kP_perm (List.Perm.symm (k_sel1 (l := [wP cy g u133, wS cy h2 a2 (wT u2 4 r116)]) (n := 2) 0 [1] rfl rfl (by decide))) hP
    replace hD := kD_perm (List.Perm.symm (k_sel1 (l := [wP cy g u133, wS cy h2 a2 (wT u2 4 r116)]) (n := 2) 0 [1] rfl rfl (by decide))) hD
    refine k_iast (k := 5) (ws' := ([wP cy g u133, wS cy h2 a2 (wT (wT u2 4 r116) 5 r133)] : List va_W).flatten) hx hb hK hP hD hS 5 (fl_at (pre := [wP cy g u133]) (post := []) (q := 2) rfl (wS_a2 _ _ _ _)) rfl rfl (fl_set (pre := [wP cy g u133]) (post := []) (q := 2) rfl (Nat.le_of_ble_eq_true rfl) (wS_wT _ _ _ _ _ _)) dX6_readSettings_136 (fun H locs hP hD hS => ?_)
    refine lv_goto (tgt := 270) hx hb dX6_readSettings_137 (by decide) ?_
    exact kret_v hx hb hr hlocks hP hD hS h1 dX6_readSettings_270
  replace h1 := Ok.neg c6_2 h1
  by_cases c6_3 : x1 = 3
  · replace h1 := Ok.pos c6_3 h1
    refine lv_tableIn (off := 134) (tgt := 140) hx hb dX6_readSettings_6 (by rw [c6_3]; decide) (by rw [c6_3]; decide) (by rw [c6_3]; decide) (by decide) ?_
    refine lv_aload_n hx hb dX6_readSettings_140 rfl (lv_at hl 0 rfl) ?_
    refine lv_bipush (v := 6) hx hb dX6_readSettings_141 rfl ?_
    refine lv_aload_n hx hb dX6_readSettings_143 rfl (lv_at hl 1 rfl) ?_
    refine lv_iconst (v := 1) hx hb dX6_readSettings_144 rfl ?_
    refine lv_bipush (v := 30) hx hb dX6_readSettings_145 rfl ?_
    refine kc_iV (b := (g 0)) (As := [.int 1, .int 30]) (rest := [.int 6, .ref (a2 1)]) h1 ⟨hx, hb, hml, hown, hts⟩ (cX6_readNumberM l D cy g H.size u 1 30) (cwV 2 hts gX6_readSettings_X6_readNumber rfl rfl rfl hdX6_readNumber ⟨Nat.le_of_ble_eq_true rfl, Nat.le_of_ble_eq_true rfl⟩) hK (k_sel1 (l := [wP cy g u, wS cy h2 a2 u2]) (n := 2) 0 [1] rfl rfl (by decide)) hP hD hS hA (q0 := 0) rfl rfl rfl hl.1 rfl (Nat.le_of_ble_eq_true rfl) dX6_readSettings_147 ⟨Nat.zero_le _, Nat.zero_le _⟩ (fun r147 u147 H locs h1 hP hD hS => ?_)
    replace hP := kP_perm (List.Perm.symm (k_sel1 (l := [wP cy g u147, wS cy h2 a2 u2]) (n := 2) 0 [1] rfl rfl (by decide))) hP
    replace hD := kD_perm (List.Perm.symm (k_sel1 (l := [wP cy g u147, wS cy h2 a2 u2]) (n := 2) 0 [1] rfl rfl (by decide))) hD
    refine k_iast (k := 6) (ws' := ([wP cy g u147, wS cy h2 a2 (wT u2 6 r147)] : List va_W).flatten) hx hb hK hP hD hS 5 (fl_at (pre := [wP cy g u147]) (post := []) (q := 2) rfl (wS_a2 _ _ _ _)) rfl rfl (fl_set (pre := [wP cy g u147]) (post := []) (q := 2) rfl (Nat.le_of_ble_eq_true rfl) (wS_wT _ _ _ _ _ _)) dX6_readSettings_150 (fun H locs hP hD hS => ?_)
    refine lv_aload_n hx hb dX6_readSettings_151 rfl (lv_at hl 1 rfl) ?_
    refine k_ldcS (tx := "load") (q := za 24) hx hb hown (k_site hZ 24 (by decide)) dX6_readSettings_152 ?_
    refine kz_vV (b := (g 0)) (As := [.ref (za 24)]) (rest := []) h1 ⟨hx, hb, hml, hown, hts⟩ (cX6_readWordM l D cy za zv g H.size 24 u147 (by decide)) (cwV 1 hts gX6_readSettings_X6_readWord rfl rfl rfl hdX6_readWord ⟨Nat.le_of_ble_eq_true rfl, Nat.le_of_ble_eq_true rfl⟩) hZ hK (k_sel1 (l := [wP cy g u147, wS cy h2 a2 (wT u2 6 r147)]) (n := 2) 0 [1] rfl rfl (by decide)) hP hD hS hA (q0 := 0) rfl rfl rfl hl.1 rfl (Nat.le_of_ble_eq_true rfl) dX6_readSettings_154 ⟨Nat.zero_le _, Nat.zero_le _⟩ (fun u154 H locs h1 hP hD hS => ?_)
    replace hP := kP_perm (List.Perm.symm (k_sel1 (l := [wP cy g u154, wS cy h2 a2 (wT u2 6 r147)]) (n := 2) 0 [1] rfl rfl (by decide))) hP
    replace hD := kD_perm (List.Perm.symm (k_sel1 (l := [wP cy g u154, wS cy h2 a2 (wT u2 6 r147)]) (n := 2) 0 [1] rfl rfl (by decide))) hD
    refine lv_aload_n hx hb dX6_readSettings_157 rfl (lv_at hl 0 rfl) ?_
    refine lv_bipush (v := 7) hx hb dX6_readSettings_158 rfl ?_
    refine lv_aload_n hx hb dX6_readSettings_160 rfl (lv_at hl 1 rfl) ?_
    refine lv_iconst (v := 1) hx hb dX6_readSettings_161 rfl ?_
    refine lv_sipush (v := 9999) hx hb dX6_readSettings_162 rfl ?_
    refine kc_iV (b := (g 0)) (As := [.int 1, .int 9999]) (rest := [.int 7, .ref (a2 1)]) h1 ⟨hx, hb, hml, hown, hts⟩ (cX6_readNumberM l D cy g H.size u154 1 9999) (cwV 2 hts gX6_readSettings_X6_readNumber rfl rfl rfl hdX6_readNumber ⟨Nat.le_of_ble_eq_true rfl, Nat.le_of_ble_eq_true rfl⟩) hK (k_sel1 (l := [wP cy g u154, wS cy h2 a2 (wT u2 6 r147)]) (n := 2) 0 [1] rfl rfl (by decide)) hP hD hS hA (q0 := 0) rfl rfl rfl hl.1 rfl (Nat.le_of_ble_eq_true rfl) dX6_readSettings_165 ⟨Nat.zero_le _, Nat.zero_le _⟩ (fun r165 u165 H locs h1 hP hD hS => ?_)
    replace hP := kP_perm (List.Perm.symm (k_sel1 (l := [wP cy g u165, wS cy h2 a2 (wT u2 6 r147)]) (n := 2) 0 [1] rfl rfl (by decide))) hP
    replace hD := kD_perm (List.Perm.symm (k_sel1 (l := [wP cy g u165, wS cy h2 a2 (wT u2 6 r147)]) (n := 2) 0 [1] rfl rfl (by decide))) hD
    refine k_iast (k := 7) (ws' := ([wP cy g u165, wS cy h2 a2 (wT (wT u2 6 r147) 7 r165)] : List va_W).flatten) hx hb hK hP hD hS 5 (fl_at (pre := [wP cy g u165]) (post := []) (q := 2) rfl (wS_a2 _ _ _ _)) rfl rfl (fl_set (pre := [wP cy g u165]) (post := []) (q := 2) rfl (Nat.le_of_ble_eq_true rfl) (wS_wT _ _ _ _ _ _)) dX6_readSettings_168 (fun H locs hP hD hS => ?_)
    refine lv_aload_n hx hb dX6_readSettings_169 rfl (lv_at hl 1 rfl) ?_
    refine k_ldcS (tx := "list") (q := za 25) hx hb hown (k_site hZ 25 (by decide)) dX6_readSettings_170 ?_
    refine kz_vV (b := (g 0)) (As := [.ref (za 25)]) (rest := []) h1 ⟨hx, hb, hml, hown, hts⟩ (cX6_readWordM l D cy za zv g H.size 25 u165 (by decide)) (cwV 1 hts gX6_readSettings_X6_readWord rfl rfl rfl hdX6_readWord ⟨Nat.le_of_ble_eq_true rfl, Nat.le_of_ble_eq_true rfl⟩) hZ hK (k_sel1 (l := [wP cy g u165, wS cy h2 a2 (wT (wT u2 6 r147) 7 r165)]) (n := 2) 0 [1] rfl rfl (by decide)) hP hD hS hA (q0 := 0) rfl rfl rfl hl.1 rfl (Nat.le_of_ble_eq_true rfl) dX6_readSettings_172 ⟨Nat.zero_le _, Nat.zero_le _⟩ (fun u172 H locs h1 hP hD hS => ?_)
    replace hP := kP_perm (List.Perm.symm (k_sel1 (l := [wP cy g u172, wS cy h2 a2 (wT (wT u2 6 r147) 7 r165)]) (n := 2) 0 [1] rfl rfl (by decide))) hP
    replace hD := kD_perm (List.Perm.symm (k_sel1 (l := [wP cy g u172, wS cy h2 a2 (wT (wT u2 6 r147) 7 r165)]) (n := 2) 0 [1] rfl rfl (by decide))) hD
    refine lv_aload_n hx hb dX6_readSettings_175 rfl (lv_at hl 0 rfl) ?_
    refine lv_bipush (v := 8) hx hb dX6_readSettings_176 rfl ?_
    refine lv_aload_n hx hb dX6_readSettings_178 rfl (lv_at hl 1 rfl) ?_
    refine lv_iconst (v := 0) hx hb dX6_readSettings_179 rfl ?_
    refine lv_sipush (v := 9999) hx hb dX6_readSettings_180 rfl ?_
    refine kc_iV (b := (g 0)) (As := [.int 0, .int 9999]) (rest := [.int 8, .ref (a2 1)]) h1 ⟨hx, hb, hml, hown, hts⟩ (cX6_readNumberM l D cy g H.size u172 0 9999) (cwV 2 hts gX6_readSettings_X6_readNumber rfl rfl rfl hdX6_readNumber ⟨Nat.le_of_ble_eq_true rfl, Nat.le_of_ble_eq_true rfl⟩) hK (k_sel1 (l := [wP cy g u172, wS cy h2 a2 (wT (wT u2 6 r147) 7 r165)]) (n := 2) 0 [1] rfl rfl (by decide)) hP hD hS hA (q0 := 0) rfl rfl rfl hl.1 rfl (Nat.le_of_ble_eq_true rfl) dX6_readSettings_183 ⟨Nat.zero_le _, Nat.zero_le _⟩ (fun r183 u183 H locs h1 hP hD hS => ?_)
    replace hP := kP_perm (List.Perm.symm (k_sel1 (l := [wP cy g u183, wS cy h2 a2 (wT (wT u2 6 r147) 7 r165)]) (n := 2) 0 [1] rfl rfl (by decide))) hP
    replace hD := kD_perm (List.Perm.symm (k_sel1 (l := [wP cy g u183, wS cy h2 a2 (wT (wT u2 6 r147) 7 r165)]) (n := 2) 0 [1] rfl rfl (by decide))) hD
    refine k_iast (k := 8) (ws' := ([wP cy g u183, wS cy h2 a2 (wT (wT (wT u2 6 r147) 7 r165) 8 r183)] : List va_W).flatten) hx hb hK hP hD hS 5 (fl_at (pre := [wP cy g u183]) (post := []) (q := 2) rfl (wS_a2 _ _ _ _)) rfl rfl (fl_set (pre := [wP cy g u183]) (post := []) (q := 2) rfl (Nat.le_of_ble_eq_true rfl) (wS_wT _ _ _ _ _ _)) dX6_readSettings_186 (fun H locs hP hD hS => ?_)
    refine lv_goto (tgt := 270) hx hb dX6_readSettings_187 (by decide) ?_
    exact kret_v hx hb hr hlocks hP hD hS h1 dX6_readSettings_270
  replace h1 := Ok.neg c6_3 h1
  by_cases c6_4 : x1 = 4
  · replace h1 := Ok.pos c6_4 h1
    refine lv_tableIn (off := 184) (tgt := 190) hx hb dX6_readSettings_6 (by rw [c6_4]; decide) (by rw [c6_4]; decide) (by rw [c6_4]; decide) (by decide) ?_
    refine lv_aload_n hx hb dX6_readSettings_190 rfl (lv_at hl 0 rfl) ?_
    refine lv_bipush (v := 9) hx hb dX6_readSettings_191 rfl ?_
    refine lv_aload_n hx hb dX6_readSettings_193 rfl (lv_at hl 1 rfl) ?_
    refine lv_iconst (v := 1) hx hb dX6_readSettings_194 rfl ?_
    refine lv_bipush (v := 20) hx hb dX6_readSettings_195 rfl ?_
    refine kc_iV (b := (g 0)) (As := [.int 1, .int 20]) (rest := [.int 9, .ref (a2 1)]) h1 ⟨hx, hb, hml, hown, hts⟩ (cX6_readNumberM l D cy g H.size u 1 20) (cwV 2 hts gX6_readSettings_X6_readNumber rfl rfl rfl hdX6_readNumber ⟨Nat.le_of_ble_eq_true rfl, Nat.le_of_ble_eq_true rfl⟩) hK (k_sel1 (l := [wP cy g u, wS cy h2 a2 u2]) (n := 2) 0 [1] rfl rfl (by decide)) hP hD hS hA (q0 := 0) rfl rfl rfl hl.1 rfl (Nat.le_of_ble_eq_true rfl) dX6_readSettings_197 ⟨Nat.zero_le _, Nat.zero_le _⟩ (fun r197 u197 H locs h1 hP hD hS => ?_)
    replace hP := kP_perm (List.Perm.symm (k_sel1 (l := [wP cy g u197, wS cy h2 a2 u2]) (n := 2) 0 [1] rfl rfl (by decide))) hP
    replace hD := kD_perm (List.Perm.symm (k_sel1 (l := [wP cy g u197, wS cy h2 a2 u2]) (n := 2) 0 [1] rfl rfl (by decide))) hD
    refine k_iast (k := 9) (ws' := ([wP cy g u197, wS cy h2 a2 (wT u2 9 r197)] : List va_W).flatten) hx hb hK hP hD hS 5 (fl_at (pre := [wP cy g u197]) (post := []) (q := 2) rfl (wS_a2 _ _ _ _)) rfl rfl (fl_set (pre := [wP cy g u197]) (post := []) (q := 2) rfl (Nat.le_of_ble_eq_true rfl) (wS_wT _ _ _ _ _ _)) dX6_readSettings_200 (fun H locs hP hD hS => ?_)
    refine lv_aload_n hx hb dX6_readSettings_201 rfl (lv_at hl 0 rfl) ?_
    refine lv_bipush (v := 10) hx hb dX6_readSettings_202 rfl ?_
    refine lv_aload_n hx hb dX6_readSettings_204 rfl (lv_at hl 1 rfl) ?_
    refine lv_iconst (v := 0) hx hb dX6_readSettings_205 rfl ?_
    refine lv_bipush (v := 50) hx hb dX6_readSettings_206 rfl ?_
    refine kc_iV (b := (g 0)) (As := [.int 0, .int 50]) (rest := [.int 10, .ref (a2 1)]) h1 ⟨hx, hb, hml, hown, hts⟩ (cX6_readNumberM l D cy g H.size u197 0 50) (cwV 2 hts gX6_readSettings_X6_readNumber rfl rfl rfl hdX6_readNumber ⟨Nat.le_of_ble_eq_true rfl, Nat.le_of_ble_eq_true rfl⟩) hK (k_sel1 (l := [wP cy g u197, wS cy h2 a2 (wT u2 9 r197)]) (n := 2) 0 [1] rfl rfl (by decide)) hP hD hS hA (q0 := 0) rfl rfl rfl hl.1 rfl (Nat.le_of_ble_eq_true rfl) dX6_readSettings_208 ⟨Nat.zero_le _, Nat.zero_le _⟩ (fun r208 u208 H locs h1 hP hD hS => ?_)
    replace hP := kP_perm (List.Perm.symm (k_sel1 (l := [wP cy g u208, wS cy h2 a2 (wT u2 9 r197)]) (n := 2) 0 [1] rfl rfl (by decide))) hP
    replace hD := kD_perm (List.Perm.symm (k_sel1 (l := [wP cy g u208, wS cy h2 a2 (wT u2 9 r197)]) (n := 2) 0 [1] rfl rfl (by decide))) hD
    refine k_iast (k := 10) (ws' := ([wP cy g u208, wS cy h2 a2 (wT (wT u2 9 r197) 10 r208)] : List va_W).flatten) hx hb hK hP hD hS 5 (fl_at (pre := [wP cy g u208]) (post := []) (q := 2) rfl (wS_a2 _ _ _ _)) rfl rfl (fl_set (pre := [wP cy g u208]) (post := []) (q := 2) rfl (Nat.le_of_ble_eq_true rfl) (wS_wT _ _ _ _ _ _)) dX6_readSettings_211 (fun H locs hP hD hS => ?_)
    refine lv_aload_n hx hb dX6_readSettings_212 rfl (lv_at hl 0 rfl) ?_
    refine lv_bipush (v := 11) hx hb dX6_readSettings_213 rfl ?_
    refine lv_aload_n hx hb dX6_readSettings_215 rfl (lv_at hl 1 rfl) ?_
    refine lv_iconst (v := 0) hx hb dX6_readSettings_216 rfl ?_
    refine lv_bipush (v := 20) hx hb dX6_readSettings_217 rfl ?_
    refine kc_iV (b := (g 0)) (As := [.int 0, .int 20]) (rest := [.int 11, .ref (a2 1)]) h1 ⟨hx, hb, hml, hown, hts⟩ (cX6_readNumberM l D cy g H.size u208 0 20) (cwV 2 hts gX6_readSettings_X6_readNumber rfl rfl rfl hdX6_readNumber ⟨Nat.le_of_ble_eq_true rfl, Nat.le_of_ble_eq_true rfl⟩) hK (k_sel1 (l := [wP cy g u208, wS cy h2 a2 (wT (wT u2 9 r197) 10 r208)]) (n := 2) 0 [1] rfl rfl (by decide)) hP hD hS hA (q0 := 0) rfl rfl rfl hl.1 rfl (Nat.le_of_ble_eq_true rfl) dX6_readSettings_219 ⟨Nat.zero_le _, Nat.zero_le _⟩ (fun r219 u219 H locs h1 hP hD hS => ?_)
    replace hP := kP_perm (List.Perm.symm (k_sel1 (l := [wP cy g u219, wS cy h2 a2 (wT (wT u2 9 r197) 10 r208)]) (n := 2) 0 [1] rfl rfl (by decide))) hP
    replace hD := kD_perm (List.Perm.symm (k_sel1 (l := [wP cy g u219, wS cy h2 a2 (wT (wT u2 9 r197) 10 r208)]) (n := 2) 0 [1] rfl rfl (by decide))) hD
    refine k_iast (k := 11) (ws' := ([wP cy g u219, wS cy h2 a2 (wT (wT (wT u2 9 r197) 10 r208) 11 r219)] : List va_W).flatten) hx hb hK hP hD hS 5 (fl_at (pre := [wP cy g u219]) (post := []) (q := 2) rfl (wS_a2 _ _ _ _)) rfl rfl (fl_set (pre := [wP cy g u219]) (post := []) (q := 2) rfl (Nat.le_of_ble_eq_true rfl) (wS_wT _ _ _ _ _ _)) dX6_readSettings_222 (fun H locs hP hD hS => ?_)
    refine lv_goto (tgt := 270) hx hb dX6_readSettings_223 (by decide) ?_
    exact kret_v hx hb hr hlocks hP hD hS h1 dX6_readSettings_270
  replace h1 := Ok.neg c6_4 h1
  by_cases c6_5 : x1 = 5
  · replace h1 := Ok.pos c6_5 h1
    refine lv_tableIn (off := 220) (tgt := 226) hx hb dX6_readSettings_6 (by rw [c6_5]; decide) (by rw [c6_5]; decide) (by rw [c6_5]; decide) (by decide) ?_
    refine lv_aload_n hx hb dX6_readSettings_226 rfl (lv_at hl 0 rfl) ?_
    refine lv_bipush (v := 12) hx hb dX6_readSettings_227 rfl ?_
    refine lv_aload_n hx hb dX6_readSettings_229 rfl (lv_at hl 1 rfl) ?_
    refine lv_iconst (v := 1) hx hb dX6_readSettings_230 rfl ?_
    refine lv_bipush (v := 20) hx hb dX6_readSettings_231 rfl ?_
    refine kc_iV (b := (g 0)) (As := [.int 1, .int 20]) (rest := [.int 12, .ref (a2 1)]) h1 ⟨hx, hb, hml, hown, hts⟩ (cX6_readNumberM l D cy g H.size u 1 20) (cwV 2 hts gX6_readSettings_X6_readNumber rfl rfl rfl hdX6_readNumber ⟨Nat.le_of_ble_eq_true rfl, Nat.le_of_ble_eq_true rfl⟩) hK (k_sel1 (l := [wP cy g u, wS cy h2 a2 u2]) (n := 2) 0 [1] rfl rfl (by decide)) hP hD hS hA (q0 := 0) rfl rfl rfl hl.1 rfl (Nat.le_of_ble_eq_true rfl) dX6_readSettings_233 ⟨Nat.zero_le _, Nat.zero_le _⟩ (fun r233 u233 H locs h1 hP hD hS => ?_)
    replace hP := kP_perm (List.Perm.symm (k_sel1 (l := [wP cy g u233, wS cy h2 a2 u2]) (n := 2) 0 [1] rfl rfl (by decide))) hP
    replace hD := kD_perm (List.Perm.symm (k_sel1 (l := [wP cy g u233, wS cy h2 a2 u2]) (n := 2) 0 [1] rfl rfl (by decide))) hD
    refine k_iast (k := 12) (ws' := ([wP cy g u233, wS cy h2 a2 (wT u2 12 r233)] : List va_W).flatten) hx hb hK hP hD hS 5 (fl_at (pre := [wP cy g u233]) (post := []) (q := 2) rfl (wS_a2 _ _ _ _)) rfl rfl (fl_set (pre := [wP cy g u233]) (post := []) (q := 2) rfl (Nat.le_of_ble_eq_true rfl) (wS_wT _ _ _ _ _ _)) dX6_readSettings_236 (fun H locs hP hD hS => ?_)
    refine lv_aload_n hx hb dX6_readSettings_237 rfl (lv_at hl 1 rfl) ?_
    refine k_ldcS (tx := "patience") (q := za 26) hx hb hown (k_site hZ 26 (by decide)) dX6_readSettings_238 ?_
    refine kz_vV (b := (g 0)) (As := [.ref (za 26)]) (rest := []) h1 ⟨hx, hb, hml, hown, hts⟩ (cX6_readWordM l D cy za zv g H.size 26 u233 (by decide)) (cwV 1 hts gX6_readSettings_X6_readWord rfl rfl rfl hdX6_readWord ⟨Nat.le_of_ble_eq_true rfl, Nat.le_of_ble_eq_true rfl⟩) hZ hK (k_sel1 (l := [wP cy g u233, wS cy h2 a2 (wT u2 12 r233)]) (n := 2) 0 [1] rfl rfl (by decide)) hP hD hS hA (q0 := 0) rfl rfl rfl hl.1 rfl (Nat.le_of_ble_eq_true rfl) dX6_readSettings_240 ⟨Nat.zero_le _, Nat.zero_le _⟩ (fun u240 H locs h1 hP hD hS => ?_)
    replace hP := kP_perm (List.Perm.symm (k_sel1 (l := [wP cy g u240, wS cy h2 a2 (wT u2 12 r233)]) (n := 2) 0 [1] rfl rfl (by decide))) hP
    replace hD := kD_perm (List.Perm.symm (k_sel1 (l := [wP cy g u240, wS cy h2 a2 (wT u2 12 r233)]) (n := 2) 0 [1] rfl rfl (by decide))) hD
    refine lv_aload_n hx hb dX6_readSettings_243 rfl (lv_at hl 0 rfl) ?_
    refine lv_bipush (v := 13) hx hb dX6_readSettings_244 rfl ?_
    refine lv_aload_n hx hb dX6_readSettings_246 rfl (lv_at hl 1 rfl) ?_
    refine lv_iconst (v := 1) hx hb dX6_readSettings_247 rfl ?_
    refine lv_bipush (v := 50) hx hb dX6_readSettings_248 rfl ?_
    refine kc_iV (b := (g 0)) (As := [.int 1, .int 50]) (rest := [.int 13, .ref (a2 1)]) h1 ⟨hx, hb, hml, hown, hts⟩ (cX6_readNumberM l D cy g H.size u240 1 50) (cwV 2 hts gX6_readSettings_X6_readNumber rfl rfl rfl hdX6_readNumber ⟨Nat.le_of_ble_eq_true rfl, Nat.le_of_ble_eq_true rfl⟩) hK (k_sel1 (l := [wP cy g u240, wS cy h2 a2 (wT u2 12 r233)]) (n := 2) 0 [1] rfl rfl (by decide)) hP hD hS hA (q0 := 0) rfl rfl rfl hl.1 rfl (Nat.le_of_ble_eq_true rfl) dX6_readSettings_250 ⟨Nat.zero_le _, Nat.zero_le _⟩ (fun r250 u250 H locs h1 hP hD hS => ?_)
    replace hP := kP_perm (List.Perm.symm (k_sel1 (l := [wP cy g u250, wS cy h2 a2 (wT u2 12 r233)]) (n := 2) 0 [1] rfl rfl (by decide))) hP
    replace hD := kD_perm (List.Perm.symm (k_sel1 (l := [wP cy g u250, wS cy h2 a2 (wT u2 12 r233)]) (n := 2) 0 [1] rfl rfl (by decide))) hD
    refine k_iast (k := 13) (ws' := ([wP cy g u250, wS cy h2 a2 (wT (wT u2 12 r233) 13 r250)] : List va_W).flatten) hx hb hK hP hD hS 5 (fl_at (pre := [wP cy g u250]) (post := []) (q := 2) rfl (wS_a2 _ _ _ _)) rfl rfl (fl_set (pre := [wP cy g u250]) (post := []) (q := 2) rfl (Nat.le_of_ble_eq_true rfl) (wS_wT _ _ _ _ _ _)) dX6_readSettings_253 (fun H locs hP hD hS => ?_)
    refine lv_goto (tgt := 270) hx hb dX6_readSettings_254 (by decide) ?_
    exact kret_v hx hb hr hlocks hP hD hS h1 dX6_readSettings_270
  replace h1 := Ok.neg c6_5 h1
  by_cases c6_6 : x1 = 6
  · replace h1 := Ok.pos c6_6 h1
    refine lv_tableIn (off := 251) (tgt := 257) hx hb dX6_readSettings_6 (by rw [c6_6]; decide) (by rw [c6_6]; decide) (by rw [c6_6]; decide) (by decide) ?_
    refine lv_aload_n hx hb dX6_readSettings_257 rfl (lv_at hl 1 rfl) ?_
    refine lv_aload_n hx hb dX6_readSettings_258 rfl (lv_at hl 3 rfl) ?_
    refine kc_vV0 (b := (g 0)) (As := [.ref h2]) (rest := []) h1 ⟨hx, hb, hml, hown, hts⟩ (cX6_readKindM l D cy g h2 a2 H.size u u2) (cwV 1 hts gX6_readSettings_X6_readKind rfl rfl rfl hdX6_readKind ⟨Nat.le_of_ble_eq_true rfl, Nat.le_of_ble_eq_true rfl⟩) hK hP hD hS hA (q0 := 0) rfl rfl rfl hl.1 rfl (Nat.le_of_ble_eq_true rfl) dX6_readSettings_259 ⟨Nat.zero_le _, Nat.zero_le _⟩ (fun u259 H locs h1 hP hD hS => ?_)
    refine lv_goto (tgt := 270) hx hb dX6_readSettings_262 (by decide) ?_
    exact kret_v hx hb hr hlocks hP hD hS h1 dX6_readSettings_270
  replace h1 := Ok.neg c6_6 h1
  refine lv_tableOut (tgt := 265) hx hb dX6_readSettings_6 (k_tout (x := x1) [0, 1, 2, 3, 4, 5, 6] (by decide) ⟨c6_0, c6_1, c6_2, c6_3, c6_4, c6_5, c6_6, trivial⟩) (by decide) ?_
  refine lv_aload_n hx hb dX6_readSettings_265 rfl (lv_at hl 1 rfl) ?_
  refine lv_aload_n hx hb dX6_readSettings_266 rfl (lv_at hl 3 rfl) ?_
  refine kc_vV0 (b := (g 0)) (As := [.ref h2]) (rest := []) h1 ⟨hx, hb, hml, hown, hts⟩ (cX6_readCarM l D cy g h2 a2 H.size u u2) (cwV 1 hts gX6_readSettings_X6_readCar rfl rfl rfl hdX6_readCar ⟨Nat.le_of_ble_eq_true rfl, Nat.le_of_ble_eq_true rfl⟩) hK hP hD hS hA (q0 := 0) rfl rfl rfl hl.1 rfl (Nat.le_of_ble_eq_true rfl) dX6_readSettings_267 ⟨Nat.zero_le _, Nat.zero_le _⟩ (fun u267 H locs h1 hP hD hS => ?_)
  exact kret_v hx hb hr hlocks hP hD hS h1 dX6_readSettings_270
def fX6_readSettings (p1 : Int32) (u : PS) (u2 : KS) : Option (PS × KS) := fX6_readSettings_b0 p1 u u2
set_option maxHeartbeats 4000000 in
set_option maxRecDepth 100000 in
theorem cX6_readSettingsM (l : Launch) (D : va_G) (cy : Nat → ClassId) (za zv : Nat → Nat) (g : Nat → Nat) (h2 : Nat) (a2 : Nat → Nat) (sz : Nat) (u : PS) (u2 : KS) (p1 : Int32) : ∀ (K : PS × KS → Prop), Ok (fX6_readSettings p1 u u2) K → Met l yX6_readSettings wsX6_readSettings rmX6_readSettings (va_Pc [.ref (g 0), .int p1, .ref h2] (kPreZ D cy za zv sz (([wP cy g u, wS cy h2 a2 u2] : List va_W).flatten))) (va_Qv K (fun q => kPost D (va_A (([wP cy g u, wS cy h2 a2 u2] : List va_W).flatten) sz) (([wP cy g q.1, wS cy h2 a2 q.2] : List va_W).flatten)) (va_A (([wP cy g u, wS cy h2 a2 u2] : List va_W).flatten) sz)) 0 0 (va_A (([wP cy g u, wS cy h2 a2 u2] : List va_W).flatten) sz) := by
  intro K h1
  refine Met.ofW (cc := cX6_readSettings) (maxL := 4) (ret := none) (by decide) rfl ?_
  intro p e s m args below meth c s₁ B hml hv
  obtain ⟨rfl, ⟨hsz, hP, hK, hD0⟩, hZ⟩ := hv
  subst hsz
  have E : mE D cy RX6 cX6_readSettings 4 none wsX6_readSettings (va_A (([wP cy g u, wS cy h2 a2 u2] : List va_W).flatten) s.heap.size) p s m _ meth c := ⟨B.exec, B.bytes, B.returns, hml, findClass_of_methodNamed B.named, atoms_spec (ws := wsX6_readSettings) B.pre, B.notSynchronized, hK, fun q h => Or.inr h⟩
  have hl := lv_entry ([.ref (g 0), .int p1, .ref h2]) (n := 4) (Nat.le_of_ble_eq_true rfl)
  rw [lg_entry_eq]
  generalize (lg_sl ([.ref (g 0), .int p1, .ref h2]) ++ List.replicate (4 - (lg_sl ([.ref (g 0), .int p1, .ref h2])).length) Slot.unset).toArray = ls at hl ⊢
  exact tX6_readSettings_b0 K E hZ p1 u u2 _ _ _ hl hP hD0.self va_S.rf h1
-- X6_readStatement
theorem hdX6_statementHere : yX6_statementHere.cls = RX6 ∧ yX6_statementHere.cls ≠ "java/lang/invoke/MethodHandle" ∧ yX6_statementHere.cls ≠ "java/lang/invoke/VarHandle" ∧ (parseMethodDescriptor yX6_statementHere.desc).map (fun d => d.parameters.length) = some 0 := by decide +kernel
theorem inX6_readStatement_X6 : ∀ w ∈ u_ws RX6 TX6 11, w ∈ wsX6_readStatement := k_lays 152 rfl
theorem lkX6_readStatement_42 : Cond.fieldLink RX6 42 "FerryRamp$Parser" "statementsTold" "I" ∈ wsX6_readStatement := List.mem_of_getElem? (i := 2) rfl
theorem hdX6_readSettings : yX6_readSettings.cls = RX6 ∧ yX6_readSettings.cls ≠ "java/lang/invoke/MethodHandle" ∧ yX6_readSettings.cls ≠ "java/lang/invoke/VarHandle" ∧ (parseMethodDescriptor yX6_readSettings.desc).map (fun d => d.parameters.length) = some 2 := by decide +kernel
theorem hdX6_readSemicolon : yX6_readSemicolon.cls = RX6 ∧ yX6_readSemicolon.cls ≠ "java/lang/invoke/MethodHandle" ∧ yX6_readSemicolon.cls ≠ "java/lang/invoke/VarHandle" ∧ (parseMethodDescriptor yX6_readSemicolon.desc).map (fun d => d.parameters.length) = some 0 := by decide +kernel
theorem inX6_readStatement_X8 : ∀ w ∈ u_ws RX8 TX8 13, w ∈ wsX6_readStatement := k_lays 139 rfl
theorem lkX6_readStatement_75 : Cond.fieldLink RX6 75 "FerryRamp$State" "counts" "[I" ∈ wsX6_readStatement := List.mem_of_getElem? (i := 1) rfl
abbrev rmX6_readStatement : Room := { frames := 7, cells := 0, slots := 0, locals := 151 }
def fX6_readStatement_b68 (x2 : Int32) (u : PS) (u2 : KS) : Option (PS × KS) :=
  bnd (fX6_readToken (tSo u ((pSo u) ||| (1 <<< (x2 &&& 31))))) (fun u81 => bnd (fX6_readSettings x2 u81 u2) (fun u87 => bnd (fX6_readSemicolon u87.1) (fun u91 => some (u91, u87.2))))
set_option maxHeartbeats 4000000 in
set_option maxRecDepth 100000 in
theorem tX6_readStatement_b68 {p : Program} {l : Launch} {e : Env} {s : State} {m : MethodId} {args : Array Value} {below : List Frame} {meth : Method} {c : Code} {D : va_G} {cy : Nat → ClassId} {A : Nat → Prop} {g : Nat → Nat} {h2 : Nat} {a2 : Nat → Nat} {za zv : Nat → Nat} (K : PS × KS → Prop) (E : mE D cy RX6 cX6_readStatement 3 none wsX6_readStatement A p s m args meth c) (hZ : mZ za zv A s s.heap)
     (x2 : Int32) (u : PS) (u2 : KS) (H : Heap) (locs : List Loc) (ls : Array Slot) (hl : lv_has ls 3 [(0, .ref (g 0)), (1, .ref h2), (2, .int x2)]) (hP : va_P D kCl (([wP cy g u, wS cy h2 a2 u2] : List va_W).flatten) H) (hD : va_D A (([wP cy g u, wS cy h2 a2 u2] : List va_W).flatten)) (hS : va_S A s.heap H locs) (h1 : Ok (fX6_readStatement_b68 x2 u u2) K) :
    kW p l e rmX6_readStatement s m args below meth c H locs (va_Qv K (fun q => kPost D A (([wP cy g q.1, wS cy h2 a2 q.2] : List va_W).flatten)) A) A 68 ls [] := by
  obtain ⟨hx, hb, hr, hml, hown, hts, hlocks, hK, hA⟩ := id E
  unfold fX6_readStatement_b68 at h1
  refine lv_aload_n hx hb dX6_readStatement_68 rfl (lv_at hl 0 rfl) ?_
  refine lv_dup hx hb dX6_readStatement_69 rfl ?_
  refine k_get (v := .int (pSo u)) (C := RX6) (T := TX6) (N := 11) hx hb hts inX6_readStatement_X6 hown hK hP 0 (fl_at (pre := []) (post := [wS cy h2 a2 u2]) (q := 0) rfl (wP_a0 _ _ _)) rfl 9 (by decide) lkX6_readStatement_42 (pFs_9 _ _) dX6_readStatement_70 ?_
  refine lv_iconst (v := 1) hx hb dX6_readStatement_73 rfl ?_
  refine lv_iload_n hx hb dX6_readStatement_74 rfl (lv_at hl 2 rfl) ?_
  refine lv_ishl hx hb dX6_readStatement_75 ?_
  refine lv_ior hx hb dX6_readStatement_76 ?_
  refine k_put (v := .int ((pSo u) ||| (1 <<< (x2 &&& 31)))) (ty := .int) (C := RX6) (T := TX6) (N := 11) hx hb hts inX6_readStatement_X6 tyX6 tyX6_ok nmX6 hown hK hP hD hS 0 (fl_at (pre := []) (post := [wS cy h2 a2 u2]) (q := 0) rfl (wP_a0 _ _ _)) rfl 9 (by decide) lkX6_readStatement_42 rfl (by decide +kernel) rfl rfl (Nat.le_of_ble_eq_true rfl) (ws' := ([wP cy g (tSo u ((pSo u) ||| (1 <<< (x2 &&& 31)))), wS cy h2 a2 u2] : List va_W).flatten) (fl_set (pre := []) (post := [wS cy h2 a2 u2]) (q := 0) rfl (Nat.le_of_ble_eq_true rfl) (wP_tSo _ _ _ _)) dX6_readStatement_77 (fun H locs hP hD hS => ?_)
  refine lv_aload_n hx hb dX6_readStatement_80 rfl (lv_at hl 0 rfl) ?_
  refine kc_vV (b := (g 0)) (As := []) (rest := []) h1 ⟨hx, hb, hml, hown, hts⟩ (cX6_readTokenM l D cy g H.size (tSo u ((pSo u) ||| (1 <<< (x2 &&& 31))))) (cwV 0 hts gX6_readStatement_X6_readToken rfl rfl rfl hdX6_readToken ⟨Nat.le_of_ble_eq_true rfl, Nat.le_of_ble_eq_true rfl⟩) hK (k_sel1 (l := [wP cy g (tSo u ((pSo u) ||| (1 <<< (x2 &&& 31)))), wS cy h2 a2 u2]) (n := 2) 0 [1] rfl rfl (by decide)) hP hD hS hA (q0 := 0) rfl rfl rfl hl.1 rfl (Nat.le_of_ble_eq_true rfl) dX6_readStatement_81 ⟨Nat.zero_le _, Nat.zero_le _⟩ (fun u81 H locs h1 hP hD hS => ?_)
  replace hP := kP_perm (List.Perm.symm (k_sel1 (l := [wP cy g u81, wS cy h2 a2 u2]) (n := 2) 0 [1] rfl rfl (by decide))) hP
  replace hD := kD_perm (List.Perm.symm (k_sel1 (l := [wP cy g u81, wS cy h2 a2 u2]) (n := 2) 0 [1] rfl rfl (by decide))) hD
  refine lv_aload_n hx hb dX6_readStatement_84 rfl (lv_at hl 0 rfl) ?_
  refine lv_iload_n hx hb dX6_readStatement_85 rfl (lv_at hl 2 rfl) ?_
  refine lv_aload_n hx hb dX6_readStatement_86 rfl (lv_at hl 1 rfl) ?_
  refine kz_vV0 (b := (g 0)) (As := [.int x2, .ref h2]) (rest := []) h1 ⟨hx, hb, hml, hown, hts⟩ (cX6_readSettingsM l D cy za zv g h2 a2 H.size u81 u2 x2) (cwV 2 hts gX6_readStatement_X6_readSettings rfl rfl rfl hdX6_readSettings ⟨Nat.le_of_ble_eq_true rfl, Nat.le_of_ble_eq_true rfl⟩) hZ hK hP hD hS hA (q0 := 0) rfl rfl rfl hl.1 rfl (Nat.le_of_ble_eq_true rfl) dX6_readStatement_87 ⟨Nat.zero_le _, Nat.zero_le _⟩ (fun u87 H locs h1 hP hD hS => ?_)
  refine lv_aload_n hx hb dX6_readStatement_90 rfl (lv_at hl 0 rfl) ?_
  refine kc_vV (b := (g 0)) (As := []) (rest := []) h1 ⟨hx, hb, hml, hown, hts⟩ (cX6_readSemicolonM l D cy g H.size u87.1) (cwV 0 hts gX6_readStatement_X6_readSemicolon rfl rfl rfl hdX6_readSemicolon ⟨Nat.le_of_ble_eq_true rfl, Nat.le_of_ble_eq_true rfl⟩) hK (k_sel1 (l := [wP cy g u87.1, wS cy h2 a2 u87.2]) (n := 2) 0 [1] rfl rfl (by decide)) hP hD hS hA (q0 := 0) rfl rfl rfl hl.1 rfl (Nat.le_of_ble_eq_true rfl) dX6_readStatement_91 ⟨Nat.zero_le _, Nat.zero_le _⟩ (fun u91 H locs h1 hP hD hS => ?_)
  replace hP := kP_perm (List.Perm.symm (k_sel1 (l := [wP cy g u91, wS cy h2 a2 u87.2]) (n := 2) 0 [1] rfl rfl (by decide))) hP
  replace hD := kD_perm (List.Perm.symm (k_sel1 (l := [wP cy g u91, wS cy h2 a2 u87.2]) (n := 2) 0 [1] rfl rfl (by decide))) hD
  exact kret_v hx hb hr hlocks hP hD hS h1 dX6_readStatement_94
def fX6_readStatement_b43 (x2 : Int32) (u : PS) (u2 : KS) : Option (PS × KS) :=
  (if 6 ≤ x2 then fX6_readStatement_b68 x2 u u2 else (if (((pSo u) >>> (x2 &&& 31)) &&& 1) = 0 then fX6_readStatement_b68 x2 u u2 else bnd (fX6_fail 3 u) (fun u62 => some (u62, u2))))
set_option maxHeartbeats 4000000 in
set_option maxRecDepth 100000 in
theorem tX6_readStatement_b43 {p : Program} {l : Launch} {e : Env} {s : State} {m : MethodId} {args : Array Value} {below : List Frame} {meth : Method} {c : Code} {D : va_G} {cy : Nat → ClassId} {A : Nat → Prop} {g : Nat → Nat} {h2 : Nat} {a2 : Nat → Nat} {za zv : Nat → Nat} (K : PS × KS → Prop) (E : mE D cy RX6 cX6_readStatement 3 none wsX6_readStatement A p s m args meth c) (hZ : mZ za zv A s s.heap)
     (x2 : Int32) (u : PS) (u2 : KS) (H : Heap) (locs : List Loc) (ls : Array Slot) (hl : lv_has ls 3 [(0, .ref (g 0)), (1, .ref h2), (2, .int x2)]) (hP : va_P D kCl (([wP cy g u, wS cy h2 a2 u2] : List va_W).flatten) H) (hD : va_D A (([wP cy g u, wS cy h2 a2 u2] : List va_W).flatten)) (hS : va_S A s.heap H locs) (h1 : Ok (fX6_readStatement_b43 x2 u u2) K) :
    kW p l e rmX6_readStatement s m args below meth c H locs (va_Qv K (fun q => kPost D A (([wP cy g q.1, wS cy h2 a2 q.2] : List va_W).flatten)) A) A 43 ls [] := by
  obtain ⟨hx, hb, hr, hml, hown, hts, hlocks, hK, hA⟩ := id E
  unfold fX6_readStatement_b43 at h1
  refine lv_iload_n hx hb dX6_readStatement_43 rfl (lv_at hl 2 rfl) ?_
  refine lv_bipush (v := 6) hx hb dX6_readStatement_44 rfl ?_
  refine lv_icmp_ge (tgt := 68) hx hb dX6_readStatement_46 (by decide) (fun c46 => ?_) (fun c46 => ?_)
  · replace h1 := Ok.pos c46 h1
    exact tX6_readStatement_b68 K E hZ x2 u u2 H locs ls (lv_sub hl [0, 1, 2] rfl) hP hD hS h1
  · replace h1 := Ok.neg c46 h1
    refine lv_aload_n hx hb dX6_readStatement_49 rfl (lv_at hl 0 rfl) ?_
    refine k_get (v := .int (pSo u)) (C := RX6) (T := TX6) (N := 11) hx hb hts inX6_readStatement_X6 hown hK hP 0 (fl_at (pre := []) (post := [wS cy h2 a2 u2]) (q := 0) rfl (wP_a0 _ _ _)) rfl 9 (by decide) lkX6_readStatement_42 (pFs_9 _ _) dX6_readStatement_50 ?_
    refine lv_iload_n hx hb dX6_readStatement_53 rfl (lv_at hl 2 rfl) ?_
    refine lv_ishr hx hb dX6_readStatement_54 ?_
    refine lv_iconst (v := 1) hx hb dX6_readStatement_55 rfl ?_
    refine lv_iand hx hb dX6_readStatement_56 ?_
    refine lv_if_eq (tgt := 68) hx hb dX6_readStatement_57 (by decide) (fun c57 => ?_) (fun c57 => ?_)
    · replace h1 := Ok.pos c57 h1
      exact tX6_readStatement_b68 K E hZ x2 u u2 H locs ls (lv_sub hl [0, 1, 2] rfl) hP hD hS h1
    · replace h1 := Ok.neg c57 h1
      refine lv_aload_n hx hb dX6_readStatement_60 rfl (lv_at hl 0 rfl) ?_
      refine lv_iconst (v := 3) hx hb dX6_readStatement_61 rfl ?_
      refine kc_vV (b := (g 0)) (As := [.int 3]) (rest := []) h1 ⟨hx, hb, hml, hown, hts⟩ (cX6_failM l D cy g H.size u 3) (cwV 1 hts gX6_readStatement_X6_fail rfl rfl rfl hdX6_fail ⟨Nat.le_of_ble_eq_true rfl, Nat.le_of_ble_eq_true rfl⟩) hK (k_sel1 (l := [wP cy g u, wS cy h2 a2 u2]) (n := 2) 0 [1] rfl rfl (by decide)) hP hD hS hA (q0 := 0) rfl rfl rfl hl.1 rfl (Nat.le_of_ble_eq_true rfl) dX6_readStatement_62 ⟨Nat.zero_le _, Nat.zero_le _⟩ (fun u62 H locs h1 hP hD hS => ?_)
      replace hP := kP_perm (List.Perm.symm (k_sel1 (l := [wP cy g u62, wS cy h2 a2 u2]) (n := 2) 0 [1] rfl rfl (by decide))) hP
      replace hD := kD_perm (List.Perm.symm (k_sel1 (l := [wP cy g u62, wS cy h2 a2 u2]) (n := 2) 0 [1] rfl rfl (by decide))) hD
      refine lv_goto (tgt := 94) hx hb dX6_readStatement_65 (by decide) ?_
      exact kret_v hx hb hr hlocks hP hD hS h1 dX6_readStatement_94
def fX6_readStatement_b0 (u : PS) (u2 : KS) : Option (PS × KS) :=
  bnd (fX6_statementHere u) (fun r1 => (if r1 = (-1) then bnd (fX6_fail 1 u) (fun u12 => some (u12, u2)) else (if r1 = 7 then (if (sC u2 3) < 20 then fX6_readStatement_b43 r1 u u2 else bnd (fX6_fail 4 u) (fun u37 => some (u37, u2))) else fX6_readStatement_b43 r1 u u2)))
set_option maxHeartbeats 4000000 in
set_option maxRecDepth 100000 in
theorem tX6_readStatement_b0 {p : Program} {l : Launch} {e : Env} {s : State} {m : MethodId} {args : Array Value} {below : List Frame} {meth : Method} {c : Code} {D : va_G} {cy : Nat → ClassId} {A : Nat → Prop} {g : Nat → Nat} {h2 : Nat} {a2 : Nat → Nat} {za zv : Nat → Nat} (K : PS × KS → Prop) (E : mE D cy RX6 cX6_readStatement 3 none wsX6_readStatement A p s m args meth c) (hZ : mZ za zv A s s.heap)
     (u : PS) (u2 : KS) (H : Heap) (locs : List Loc) (ls : Array Slot) (hl : lv_has ls 3 [(0, .ref (g 0)), (1, .ref h2)]) (hP : va_P D kCl (([wP cy g u, wS cy h2 a2 u2] : List va_W).flatten) H) (hD : va_D A (([wP cy g u, wS cy h2 a2 u2] : List va_W).flatten)) (hS : va_S A s.heap H locs) (h1 : Ok (fX6_readStatement_b0 u u2) K) :
    kW p l e rmX6_readStatement s m args below meth c H locs (va_Qv K (fun q => kPost D A (([wP cy g q.1, wS cy h2 a2 q.2] : List va_W).flatten)) A) A 0 ls [] := by
  obtain ⟨hx, hb, hr, hml, hown, hts, hlocks, hK, hA⟩ := id E
  unfold fX6_readStatement_b0 at h1
  refine lv_aload_n hx hb dX6_readStatement_0 rfl (lv_at hl 0 rfl) ?_
  refine kz_rV (b := (g 0)) (As := []) (rest := []) h1 ⟨hx, hb, hml, hown, hts⟩ (cX6_statementHereM l D cy za zv g H.size u) (cwV 0 hts gX6_readStatement_X6_statementHere rfl rfl rfl hdX6_statementHere ⟨Nat.le_of_ble_eq_true rfl, Nat.le_of_ble_eq_true rfl⟩) hZ hK (k_sel1 (l := [wP cy g u, wS cy h2 a2 u2]) (n := 2) 0 [1] rfl rfl (by decide)) hP hD hS hA (q0 := 0) rfl rfl rfl hl.1 rfl (Nat.le_of_ble_eq_true rfl) dX6_readStatement_1 ⟨Nat.zero_le _, Nat.zero_le _⟩ (fun r1 H locs h1 hP hS => ?_)
  refine lv_istore_n (lv' := [(2, .int r1), (0, .ref (g 0)), (1, .ref h2)]) hx hb dX6_readStatement_4 rfl hl (by decide) rfl (fun ls hl => ?_)
  refine lv_iload_n hx hb dX6_readStatement_5 rfl (lv_at hl 0 rfl) ?_
  refine lv_iconst (v := (-1)) hx hb dX6_readStatement_6 rfl ?_
  refine lv_icmp_ne (tgt := 18) hx hb dX6_readStatement_7 (by decide) (fun c7 => ?_) (fun c7 => ?_)
  · replace h1 := Ok.neg c7 h1
    refine lv_iload_n hx hb dX6_readStatement_18 rfl (lv_at hl 0 rfl) ?_
    refine lv_bipush (v := 7) hx hb dX6_readStatement_19 rfl ?_
    refine lv_icmp_ne (tgt := 43) hx hb dX6_readStatement_21 (by decide) (fun c21 => ?_) (fun c21 => ?_)
    · replace h1 := Ok.neg c21 h1
      exact tX6_readStatement_b43 K E hZ r1 u u2 H locs ls (lv_sub hl [1, 2, 0] rfl) hP hD hS h1
    · replace h1 := Ok.pos c21 h1
      refine lv_aload_n hx hb dX6_readStatement_24 rfl (lv_at hl 2 rfl) ?_
      refine k_get (v := .ref (a2 0)) (C := RX8) (T := TX8) (N := 13) hx hb hts inX6_readStatement_X8 hown hK hP 3 (fl_at (pre := [wP cy g u]) (post := []) (q := 0) rfl (wS_a0 _ _ _ _)) rfl 0 (by decide) lkX6_readStatement_75 (sFs_0 _ _) dX6_readStatement_25 ?_
      refine lv_iconst (v := 3) hx hb dX6_readStatement_28 rfl ?_
      refine k_iald (k := 3) hx hb hK hP 4 (fl_at (pre := [wP cy g u]) (post := []) (q := 1) rfl (wS_a1 _ _ _ _)) rfl rfl dX6_readStatement_29 ?_
      refine lv_bipush (v := 20) hx hb dX6_readStatement_30 rfl ?_
      refine lv_icmp_lt (tgt := 43) hx hb dX6_readStatement_32 (by decide) (fun c32 => ?_) (fun c32 => ?_)
      · replace h1 := Ok.pos c32 h1
        exact tX6_readStatement_b43 K E hZ r1 u u2 H locs ls (lv_sub hl [1, 2, 0] rfl) hP hD hS h1
      · replace h1 := Ok.neg c32 h1
        refine lv_aload_n hx hb dX6_readStatement_35 rfl (lv_at hl 1 rfl) ?_
        refine lv_iconst (v := 4) hx hb dX6_readStatement_36 rfl ?_
        refine kc_vV (b := (g 0)) (As := [.int 4]) (rest := []) h1 ⟨hx, hb, hml, hown, hts⟩ (cX6_failM l D cy g H.size u 4) (cwV 1 hts gX6_readStatement_X6_fail rfl rfl rfl hdX6_fail ⟨Nat.le_of_ble_eq_true rfl, Nat.le_of_ble_eq_true rfl⟩) hK (k_sel1 (l := [wP cy g u, wS cy h2 a2 u2]) (n := 2) 0 [1] rfl rfl (by decide)) hP hD hS hA (q0 := 0) rfl rfl rfl hl.1 rfl (Nat.le_of_ble_eq_true rfl) dX6_readStatement_37 ⟨Nat.zero_le _, Nat.zero_le _⟩ (fun u37 H locs h1 hP hD hS => ?_)
        replace hP := kP_perm (List.Perm.symm (k_sel1 (l := [wP cy g u37, wS cy h2 a2 u2]) (n := 2) 0 [1] rfl rfl (by decide))) hP
        replace hD := kD_perm (List.Perm.symm (k_sel1 (l := [wP cy g u37, wS cy h2 a2 u2]) (n := 2) 0 [1] rfl rfl (by decide))) hD
        refine lv_goto (tgt := 94) hx hb dX6_readStatement_40 (by decide) ?_
        exact kret_v hx hb hr hlocks hP hD hS h1 dX6_readStatement_94
  · replace h1 := Ok.pos c7 h1
    refine lv_aload_n hx hb dX6_readStatement_10 rfl (lv_at hl 1 rfl) ?_
    refine lv_iconst (v := 1) hx hb dX6_readStatement_11 rfl ?_
    refine kc_vV (b := (g 0)) (As := [.int 1]) (rest := []) h1 ⟨hx, hb, hml, hown, hts⟩ (cX6_failM l D cy g H.size u 1) (cwV 1 hts gX6_readStatement_X6_fail rfl rfl rfl hdX6_fail ⟨Nat.le_of_ble_eq_true rfl, Nat.le_of_ble_eq_true rfl⟩) hK (k_sel1 (l := [wP cy g u, wS cy h2 a2 u2]) (n := 2) 0 [1] rfl rfl (by decide)) hP hD hS hA (q0 := 0) rfl rfl rfl hl.1 rfl (Nat.le_of_ble_eq_true rfl) dX6_readStatement_12 ⟨Nat.zero_le _, Nat.zero_le _⟩ (fun u12 H locs h1 hP hD hS => ?_)
    replace hP := kP_perm (List.Perm.symm (k_sel1 (l := [wP cy g u12, wS cy h2 a2 u2]) (n := 2) 0 [1] rfl rfl (by decide))) hP
    replace hD := kD_perm (List.Perm.symm (k_sel1 (l := [wP cy g u12, wS cy h2 a2 u2]) (n := 2) 0 [1] rfl rfl (by decide))) hD
    refine lv_goto (tgt := 94) hx hb dX6_readStatement_15 (by decide) ?_
    exact kret_v hx hb hr hlocks hP hD hS h1 dX6_readStatement_94
def fX6_readStatement (u : PS) (u2 : KS) : Option (PS × KS) := fX6_readStatement_b0 u u2
set_option maxHeartbeats 4000000 in
set_option maxRecDepth 100000 in
theorem cX6_readStatementM (l : Launch) (D : va_G) (cy : Nat → ClassId) (za zv : Nat → Nat) (g : Nat → Nat) (h2 : Nat) (a2 : Nat → Nat) (sz : Nat) (u : PS) (u2 : KS) : ∀ (K : PS × KS → Prop), Ok (fX6_readStatement u u2) K → Met l yX6_readStatement wsX6_readStatement rmX6_readStatement (va_Pc [.ref (g 0), .ref h2] (kPreZ D cy za zv sz (([wP cy g u, wS cy h2 a2 u2] : List va_W).flatten))) (va_Qv K (fun q => kPost D (va_A (([wP cy g u, wS cy h2 a2 u2] : List va_W).flatten) sz) (([wP cy g q.1, wS cy h2 a2 q.2] : List va_W).flatten)) (va_A (([wP cy g u, wS cy h2 a2 u2] : List va_W).flatten) sz)) 0 0 (va_A (([wP cy g u, wS cy h2 a2 u2] : List va_W).flatten) sz) := by
  intro K h1
  refine Met.ofW (cc := cX6_readStatement) (maxL := 3) (ret := none) (by decide) rfl ?_
  intro p e s m args below meth c s₁ B hml hv
  obtain ⟨rfl, ⟨hsz, hP, hK, hD0⟩, hZ⟩ := hv
  subst hsz
  have E : mE D cy RX6 cX6_readStatement 3 none wsX6_readStatement (va_A (([wP cy g u, wS cy h2 a2 u2] : List va_W).flatten) s.heap.size) p s m _ meth c := ⟨B.exec, B.bytes, B.returns, hml, findClass_of_methodNamed B.named, atoms_spec (ws := wsX6_readStatement) B.pre, B.notSynchronized, hK, fun q h => Or.inr h⟩
  have hl := lv_entry ([.ref (g 0), .ref h2]) (n := 3) (Nat.le_of_ble_eq_true rfl)
  rw [lg_entry_eq]
  generalize (lg_sl ([.ref (g 0), .ref h2]) ++ List.replicate (3 - (lg_sl ([.ref (g 0), .ref h2])).length) Slot.unset).toArray = ls at hl ⊢
  exact tX6_readStatement_b0 K E hZ u u2 _ _ _ hl hP hD0.self va_S.rf h1
-- X6_readSetup
theorem hdX8_becomeNew : yX8_becomeNew.cls = RX8 ∧ yX8_becomeNew.cls ≠ "java/lang/invoke/MethodHandle" ∧ yX8_becomeNew.cls ≠ "java/lang/invoke/VarHandle" ∧ (parseMethodDescriptor yX8_becomeNew.desc).map (fun d => d.parameters.length) = some 0 := by decide +kernel
theorem inX6_readSetup_X6 : ∀ w ∈ u_ws RX6 TX6 11, w ∈ wsX6_readSetup := k_lays 185 rfl
theorem lkX6_readSetup_42 : Cond.fieldLink RX6 42 "FerryRamp$Parser" "statementsTold" "I" ∈ wsX6_readSetup := List.mem_of_getElem? (i := 1) rfl
theorem lkX6_readSetup_45 : Cond.fieldLink RX6 45 "FerryRamp$Parser" "kindsTold" "I" ∈ wsX6_readSetup := List.mem_of_getElem? (i := 2) rfl
theorem hdX6_readFirstToken : yX6_readFirstToken.cls = RX6 ∧ yX6_readFirstToken.cls ≠ "java/lang/invoke/MethodHandle" ∧ yX6_readFirstToken.cls ≠ "java/lang/invoke/VarHandle" ∧ (parseMethodDescriptor yX6_readFirstToken.desc).map (fun d => d.parameters.length) = some 0 := by decide +kernel
theorem hdX8_becomeLevel : yX8_becomeLevel.cls = RX8 ∧ yX8_becomeLevel.cls ≠ "java/lang/invoke/MethodHandle" ∧ yX8_becomeLevel.cls ≠ "java/lang/invoke/VarHandle" ∧ (parseMethodDescriptor yX8_becomeLevel.desc).map (fun d => d.parameters.length) = some 0 := by decide +kernel
theorem lkX6_readSetup_19 : Cond.fieldLink RX6 19 "FerryRamp$Parser" "errorCode" "I" ∈ wsX6_readSetup := List.mem_of_getElem? (i := 4) rfl
theorem lkX6_readSetup_33 : Cond.fieldLink RX6 33 "FerryRamp$Parser" "type" "I" ∈ wsX6_readSetup := List.mem_of_getElem? (i := 3) rfl
theorem hdX6_readStatement : yX6_readStatement.cls = RX6 ∧ yX6_readStatement.cls ≠ "java/lang/invoke/MethodHandle" ∧ yX6_readStatement.cls ≠ "java/lang/invoke/VarHandle" ∧ (parseMethodDescriptor yX6_readStatement.desc).map (fun d => d.parameters.length) = some 1 := by decide +kernel
abbrev rmX6_readSetup : Room := { frames := 8, cells := 0, slots := 0, locals := 173 }
def fX6_readSetup_b52 (u : PS) (u2 : KS) : Option (Int32 × PS × KS) :=
  bnd (fX8_becomeLevel u2) (fun u53 => (if (pEc u) = 0 then some (1, (u, u53)) else some (0, (u, u53))))
set_option maxHeartbeats 4000000 in
set_option maxRecDepth 100000 in
theorem tX6_readSetup_b52 {p : Program} {l : Launch} {e : Env} {s : State} {m : MethodId} {args : Array Value} {below : List Frame} {meth : Method} {c : Code} {D : va_G} {cy : Nat → ClassId} {A : Nat → Prop} {g : Nat → Nat} {h2 : Nat} {a2 : Nat → Nat} {za zv : Nat → Nat} (K : Int32 × PS × KS → Prop) (E : mE D cy RX6 cX6_readSetup 3 (some .boolean) wsX6_readSetup A p s m args meth c) (hZ : mZ za zv A s s.heap)
     (u : PS) (u2 : KS) (H : Heap) (locs : List Loc) (ls : Array Slot) (hl : lv_has ls 3 [(0, .ref (g 0)), (1, .ref h2)]) (hP : va_P D kCl (([wP cy g u, wS cy h2 a2 u2] : List va_W).flatten) H) (hD : va_D A (([wP cy g u, wS cy h2 a2 u2] : List va_W).flatten)) (hS : va_S A s.heap H locs) (h1 : Ok (fX6_readSetup_b52 u u2) K) :
    kW p l e rmX6_readSetup s m args below meth c H locs (va_Qi (fun r q => K (r, q)) (fun q => kPost D A (([wP cy g q.1, wS cy h2 a2 q.2] : List va_W).flatten)) A) A 52 ls [] := by
  obtain ⟨hx, hb, hr, hml, hown, hts, hlocks, hK, hA⟩ := id E
  unfold fX6_readSetup_b52 at h1
  refine lv_aload_n hx hb dX6_readSetup_52 rfl (lv_at hl 1 rfl) ?_
  refine kc_vV (b := h2) (As := []) (rest := []) h1 ⟨hx, hb, hml, hown, hts⟩ (cX8_becomeLevelM l D cy h2 a2 H.size u2) (cwV 0 hts gX6_readSetup_X8_becomeLevel rfl rfl rfl hdX8_becomeLevel ⟨Nat.le_of_ble_eq_true rfl, Nat.le_of_ble_eq_true rfl⟩) hK (k_sel1 (l := [wP cy g u, wS cy h2 a2 u2]) (n := 2) 1 [0] rfl rfl (by decide)) hP hD hS hA (q0 := 0) rfl rfl rfl hl.1 rfl (Nat.le_of_ble_eq_true rfl) dX6_readSetup_53 ⟨Nat.zero_le _, Nat.zero_le _⟩ (fun u53 H locs h1 hP hD hS => ?_)
  replace hP := kP_perm (List.Perm.symm (k_sel1 (l := [wP cy g u, wS cy h2 a2 u53]) (n := 2) 1 [0] rfl rfl (by decide))) hP
  replace hD := kD_perm (List.Perm.symm (k_sel1 (l := [wP cy g u, wS cy h2 a2 u53]) (n := 2) 1 [0] rfl rfl (by decide))) hD
  refine lv_aload_n hx hb dX6_readSetup_56 rfl (lv_at hl 0 rfl) ?_
  refine k_get (v := .int (pEc u)) (C := RX6) (T := TX6) (N := 11) hx hb hts inX6_readSetup_X6 hown hK hP 0 (fl_at (pre := []) (post := [wS cy h2 a2 u53]) (q := 0) rfl (wP_a0 _ _ _)) rfl 2 (by decide) lkX6_readSetup_19 (pFs_2 _ _) dX6_readSetup_57 ?_
  refine lv_if_ne (tgt := 67) hx hb dX6_readSetup_60 (by decide) (fun c60 => ?_) (fun c60 => ?_)
  · replace h1 := Ok.neg c60 h1
    refine lv_iconst (v := 0) hx hb dX6_readSetup_67 rfl ?_
    exact kret_iz hx hb hr rfl hlocks hP hD hS h1 dX6_readSetup_68
  · replace h1 := Ok.pos c60 h1
    refine lv_iconst (v := 1) hx hb dX6_readSetup_63 rfl ?_
    refine lv_goto (tgt := 68) hx hb dX6_readSetup_64 (by decide) ?_
    exact kret_iz hx hb hr rfl hlocks hP hD hS h1 dX6_readSetup_68
def fX6_readSetup_b20 (k20 : Int32 × PS × KS → Option (Int32 × PS × KS)) (x2 : Int32) (u : PS) (u2 : KS) : Option (Int32 × PS × KS) :=
  (if 500 < x2 then fX6_readSetup_b52 u u2 else (if (pTy u) = 0 then fX6_readSetup_b52 u u2 else (if (pEc u) = 0 then bnd (fX6_readStatement u u2) (fun u43 => k20 (x2 + 1, u43.1, u43.2)) else fX6_readSetup_b52 u u2)))
set_option maxHeartbeats 4000000 in
set_option maxRecDepth 100000 in
theorem tX6_readSetup_b20 {p : Program} {l : Launch} {e : Env} {s : State} {m : MethodId} {args : Array Value} {below : List Frame} {meth : Method} {c : Code} {D : va_G} {cy : Nat → ClassId} {A : Nat → Prop} {g : Nat → Nat} {h2 : Nat} {a2 : Nat → Nat} {za zv : Nat → Nat} (K : Int32 × PS × KS → Prop) (E : mE D cy RX6 cX6_readSetup 3 (some .boolean) wsX6_readSetup A p s m args meth c) (hZ : mZ za zv A s s.heap)
    (k20 : Int32 × PS × KS → Option (Int32 × PS × KS)) (hk20 : ∀ (x2 : Int32) (u : PS) (u2 : KS) (H : Heap) (locs : List Loc) (ls : Array Slot), lv_has ls 3 [(0, .ref (g 0)), (1, .ref h2), (2, .int x2)] → va_P D kCl (([wP cy g u, wS cy h2 a2 u2] : List va_W).flatten) H → va_D A (([wP cy g u, wS cy h2 a2 u2] : List va_W).flatten) → va_S A s.heap H locs → Ok (k20 (x2, u, u2)) K → kW p l e rmX6_readSetup s m args below meth c H locs (va_Qi (fun r q => K (r, q)) (fun q => kPost D A (([wP cy g q.1, wS cy h2 a2 q.2] : List va_W).flatten)) A) A 20 ls [])
     (x2 : Int32) (u : PS) (u2 : KS) (H : Heap) (locs : List Loc) (ls : Array Slot) (hl : lv_has ls 3 [(0, .ref (g 0)), (1, .ref h2), (2, .int x2)]) (hP : va_P D kCl (([wP cy g u, wS cy h2 a2 u2] : List va_W).flatten) H) (hD : va_D A (([wP cy g u, wS cy h2 a2 u2] : List va_W).flatten)) (hS : va_S A s.heap H locs) (h1 : Ok (fX6_readSetup_b20 k20 x2 u u2) K) :
    kW p l e rmX6_readSetup s m args below meth c H locs (va_Qi (fun r q => K (r, q)) (fun q => kPost D A (([wP cy g q.1, wS cy h2 a2 q.2] : List va_W).flatten)) A) A 20 ls [] := by
  obtain ⟨hx, hb, hr, hml, hown, hts, hlocks, hK, hA⟩ := id E
  unfold fX6_readSetup_b20 at h1
  refine lv_iload_n hx hb dX6_readSetup_20 rfl (lv_at hl 2 rfl) ?_
  refine lv_sipush (v := 500) hx hb dX6_readSetup_21 rfl ?_
  refine lv_icmp_gt (tgt := 52) hx hb dX6_readSetup_24 (by decide) (fun c24 => ?_) (fun c24 => ?_)
  · replace h1 := Ok.pos c24 h1
    exact tX6_readSetup_b52 K E hZ u u2 H locs ls (lv_sub hl [0, 1] rfl) hP hD hS h1
  · replace h1 := Ok.neg c24 h1
    refine lv_aload_n hx hb dX6_readSetup_27 rfl (lv_at hl 0 rfl) ?_
    refine k_get (v := .int (pTy u)) (C := RX6) (T := TX6) (N := 11) hx hb hts inX6_readSetup_X6 hown hK hP 0 (fl_at (pre := []) (post := [wS cy h2 a2 u2]) (q := 0) rfl (wP_a0 _ _ _)) rfl 6 (by decide) lkX6_readSetup_33 (pFs_6 _ _) dX6_readSetup_28 ?_
    refine lv_if_eq (tgt := 52) hx hb dX6_readSetup_31 (by decide) (fun c31 => ?_) (fun c31 => ?_)
    · replace h1 := Ok.pos c31 h1
      exact tX6_readSetup_b52 K E hZ u u2 H locs ls (lv_sub hl [0, 1] rfl) hP hD hS h1
    · replace h1 := Ok.neg c31 h1
      refine lv_aload_n hx hb dX6_readSetup_34 rfl (lv_at hl 0 rfl) ?_
      refine k_get (v := .int (pEc u)) (C := RX6) (T := TX6) (N := 11) hx hb hts inX6_readSetup_X6 hown hK hP 0 (fl_at (pre := []) (post := [wS cy h2 a2 u2]) (q := 0) rfl (wP_a0 _ _ _)) rfl 2 (by decide) lkX6_readSetup_19 (pFs_2 _ _) dX6_readSetup_35 ?_
      refine lv_if_ne (tgt := 52) hx hb dX6_readSetup_38 (by decide) (fun c38 => ?_) (fun c38 => ?_)
      · replace h1 := Ok.neg c38 h1
        exact tX6_readSetup_b52 K E hZ u u2 H locs ls (lv_sub hl [0, 1] rfl) hP hD hS h1
      · replace h1 := Ok.pos c38 h1
        refine lv_aload_n hx hb dX6_readSetup_41 rfl (lv_at hl 0 rfl) ?_
        refine lv_aload_n hx hb dX6_readSetup_42 rfl (lv_at hl 1 rfl) ?_
        refine kz_vV0 (b := (g 0)) (As := [.ref h2]) (rest := []) h1 ⟨hx, hb, hml, hown, hts⟩ (cX6_readStatementM l D cy za zv g h2 a2 H.size u u2) (cwV 1 hts gX6_readSetup_X6_readStatement rfl rfl rfl hdX6_readStatement ⟨Nat.le_of_ble_eq_true rfl, Nat.le_of_ble_eq_true rfl⟩) hZ hK hP hD hS hA (q0 := 0) rfl rfl rfl hl.1 rfl (Nat.le_of_ble_eq_true rfl) dX6_readSetup_43 ⟨Nat.zero_le _, Nat.zero_le _⟩ (fun u43 H locs h1 hP hD hS => ?_)
        refine lv_iinc (v := x2 + 1) (lv' := [(2, .int (x2 + 1)), (0, .ref (g 0)), (1, .ref h2)]) hx hb dX6_readSetup_46 hl (k := 2) rfl rfl (by decide) rfl (fun ls hl => ?_)
        refine lv_goto (tgt := 20) hx hb dX6_readSetup_49 (by decide) ?_
        exact hk20 (x2 + 1) u43.1 u43.2 H locs ls (lv_sub hl [1, 2, 0] rfl) hP hD hS h1
theorem tX6_readSetup_l20 {p : Program} {l : Launch} {e : Env} {s : State} {m : MethodId} {args : Array Value} {below : List Frame} {meth : Method} {c : Code} {D : va_G} {cy : Nat → ClassId} {A : Nat → Prop} {g : Nat → Nat} {h2 : Nat} {a2 : Nat → Nat} {za zv : Nat → Nat} (K : Int32 × PS × KS → Prop) (E : mE D cy RX6 cX6_readSetup 3 (some .boolean) wsX6_readSetup A p s m args meth c) (hZ : mZ za zv A s s.heap) : ∀ (n9 : Nat) (x2 : Int32) (u : PS) (u2 : KS) (H : Heap) (locs : List Loc) (ls : Array Slot), lv_has ls 3 [(0, .ref (g 0)), (1, .ref h2), (2, .int x2)] → va_P D kCl (([wP cy g u, wS cy h2 a2 u2] : List va_W).flatten) H → va_D A (([wP cy g u, wS cy h2 a2 u2] : List va_W).flatten) → va_S A s.heap H locs → Ok (lop (fun y z => fX6_readSetup_b20 y z.1 z.2.1 z.2.2) n9 (x2, u, u2)) K → kW p l e rmX6_readSetup s m args below meth c H locs (va_Qi (fun r q => K (r, q)) (fun q => kPost D A (([wP cy g q.1, wS cy h2 a2 q.2] : List va_W).flatten)) A) A 20 ls [] := by
  intro n9
  induction n9 with
  | zero =>
    intro x2 u u2 H locs ls hl hP hD hS h1
    exact h1.no
  | succ n9 ih =>
    intro x2 u u2 H locs ls hl hP hD hS h1
    exact tX6_readSetup_b20 K E hZ (lop (fun y z => fX6_readSetup_b20 y z.1 z.2.1 z.2.2) n9) (fun x2 u u2 H locs ls hl hP hD hS h1 => ih x2 u u2 H locs ls hl hP hD hS h1) x2 u u2 H locs ls hl hP hD hS h1
def fX6_readSetup_b0 (u : PS) (u2 : KS) : Option (Int32 × PS × KS) :=
  bnd (fX8_becomeNew u2) (fun u1 => bnd (fX6_readFirstToken (tKo (tSo u 0) 0)) (fun u15 => lop (fun y z => fX6_readSetup_b20 y z.1 z.2.1 z.2.2) LF (0, u15, u1)))
set_option maxHeartbeats 4000000 in
set_option maxRecDepth 100000 in
theorem tX6_readSetup_b0 {p : Program} {l : Launch} {e : Env} {s : State} {m : MethodId} {args : Array Value} {below : List Frame} {meth : Method} {c : Code} {D : va_G} {cy : Nat → ClassId} {A : Nat → Prop} {g : Nat → Nat} {h2 : Nat} {a2 : Nat → Nat} {za zv : Nat → Nat} (K : Int32 × PS × KS → Prop) (E : mE D cy RX6 cX6_readSetup 3 (some .boolean) wsX6_readSetup A p s m args meth c) (hZ : mZ za zv A s s.heap)
     (u : PS) (u2 : KS) (H : Heap) (locs : List Loc) (ls : Array Slot) (hl : lv_has ls 3 [(0, .ref (g 0)), (1, .ref h2)]) (hP : va_P D kCl (([wP cy g u, wS cy h2 a2 u2] : List va_W).flatten) H) (hD : va_D A (([wP cy g u, wS cy h2 a2 u2] : List va_W).flatten)) (hS : va_S A s.heap H locs) (h1 : Ok (fX6_readSetup_b0 u u2) K) :
    kW p l e rmX6_readSetup s m args below meth c H locs (va_Qi (fun r q => K (r, q)) (fun q => kPost D A (([wP cy g q.1, wS cy h2 a2 q.2] : List va_W).flatten)) A) A 0 ls [] := by
  obtain ⟨hx, hb, hr, hml, hown, hts, hlocks, hK, hA⟩ := id E
  unfold fX6_readSetup_b0 at h1
  refine lv_aload_n hx hb dX6_readSetup_0 rfl (lv_at hl 1 rfl) ?_
  refine kc_vV (b := h2) (As := []) (rest := []) h1 ⟨hx, hb, hml, hown, hts⟩ (cX8_becomeNewM l D cy h2 a2 H.size u2) (cwV 0 hts gX6_readSetup_X8_becomeNew rfl rfl rfl hdX8_becomeNew ⟨Nat.le_of_ble_eq_true rfl, Nat.le_of_ble_eq_true rfl⟩) hK (k_sel1 (l := [wP cy g u, wS cy h2 a2 u2]) (n := 2) 1 [0] rfl rfl (by decide)) hP hD hS hA (q0 := 0) rfl rfl rfl hl.1 rfl (Nat.le_of_ble_eq_true rfl) dX6_readSetup_1 ⟨Nat.zero_le _, Nat.zero_le _⟩ (fun u1 H locs h1 hP hD hS => ?_)
  replace hP := kP_perm (List.Perm.symm (k_sel1 (l := [wP cy g u, wS cy h2 a2 u1]) (n := 2) 1 [0] rfl rfl (by decide))) hP
  replace hD := kD_perm (List.Perm.symm (k_sel1 (l := [wP cy g u, wS cy h2 a2 u1]) (n := 2) 1 [0] rfl rfl (by decide))) hD
  refine lv_aload_n hx hb dX6_readSetup_4 rfl (lv_at hl 0 rfl) ?_
  refine lv_iconst (v := 0) hx hb dX6_readSetup_5 rfl ?_
  refine k_put (v := .int 0) (ty := .int) (C := RX6) (T := TX6) (N := 11) hx hb hts inX6_readSetup_X6 tyX6 tyX6_ok nmX6 hown hK hP hD hS 0 (fl_at (pre := []) (post := [wS cy h2 a2 u1]) (q := 0) rfl (wP_a0 _ _ _)) rfl 9 (by decide) lkX6_readSetup_42 rfl (by decide +kernel) rfl rfl (Nat.le_of_ble_eq_true rfl) (ws' := ([wP cy g (tSo u 0), wS cy h2 a2 u1] : List va_W).flatten) (fl_set (pre := []) (post := [wS cy h2 a2 u1]) (q := 0) rfl (Nat.le_of_ble_eq_true rfl) (wP_tSo _ _ _ _)) dX6_readSetup_6 (fun H locs hP hD hS => ?_)
  refine lv_aload_n hx hb dX6_readSetup_9 rfl (lv_at hl 0 rfl) ?_
  refine lv_iconst (v := 0) hx hb dX6_readSetup_10 rfl ?_
  refine k_put (v := .int 0) (ty := .int) (C := RX6) (T := TX6) (N := 11) hx hb hts inX6_readSetup_X6 tyX6 tyX6_ok nmX6 hown hK hP hD hS 0 (fl_at (pre := []) (post := [wS cy h2 a2 u1]) (q := 0) rfl (wP_a0 _ _ _)) rfl 10 (by decide) lkX6_readSetup_45 rfl (by decide +kernel) rfl rfl (Nat.le_of_ble_eq_true rfl) (ws' := ([wP cy g (tKo (tSo u 0) 0), wS cy h2 a2 u1] : List va_W).flatten) (fl_set (pre := []) (post := [wS cy h2 a2 u1]) (q := 0) rfl (Nat.le_of_ble_eq_true rfl) (wP_tKo _ _ _ _)) dX6_readSetup_11 (fun H locs hP hD hS => ?_)
  refine lv_aload_n hx hb dX6_readSetup_14 rfl (lv_at hl 0 rfl) ?_
  refine kc_vV (b := (g 0)) (As := []) (rest := []) h1 ⟨hx, hb, hml, hown, hts⟩ (cX6_readFirstTokenM l D cy g H.size (tKo (tSo u 0) 0)) (cwV 0 hts gX6_readSetup_X6_readFirstToken rfl rfl rfl hdX6_readFirstToken ⟨Nat.le_of_ble_eq_true rfl, Nat.le_of_ble_eq_true rfl⟩) hK (k_sel1 (l := [wP cy g (tKo (tSo u 0) 0), wS cy h2 a2 u1]) (n := 2) 0 [1] rfl rfl (by decide)) hP hD hS hA (q0 := 0) rfl rfl rfl hl.1 rfl (Nat.le_of_ble_eq_true rfl) dX6_readSetup_15 ⟨Nat.zero_le _, Nat.zero_le _⟩ (fun u15 H locs h1 hP hD hS => ?_)
  replace hP := kP_perm (List.Perm.symm (k_sel1 (l := [wP cy g u15, wS cy h2 a2 u1]) (n := 2) 0 [1] rfl rfl (by decide))) hP
  replace hD := kD_perm (List.Perm.symm (k_sel1 (l := [wP cy g u15, wS cy h2 a2 u1]) (n := 2) 0 [1] rfl rfl (by decide))) hD
  refine lv_iconst (v := 0) hx hb dX6_readSetup_18 rfl ?_
  refine lv_istore_n (lv' := [(2, .int 0), (0, .ref (g 0)), (1, .ref h2)]) hx hb dX6_readSetup_19 rfl hl (by decide) rfl (fun ls hl => ?_)
  exact tX6_readSetup_l20 K E hZ LF 0 u15 u1 H locs ls (lv_sub hl [1, 2, 0] rfl) hP hD hS h1
def fX6_readSetup (u : PS) (u2 : KS) : Option (Int32 × PS × KS) := fX6_readSetup_b0 u u2
set_option maxHeartbeats 4000000 in
set_option maxRecDepth 100000 in
theorem cX6_readSetupM (l : Launch) (D : va_G) (cy : Nat → ClassId) (za zv : Nat → Nat) (g : Nat → Nat) (h2 : Nat) (a2 : Nat → Nat) (sz : Nat) (u : PS) (u2 : KS) : ∀ (K : Int32 → PS × KS → Prop), Ok (fX6_readSetup u u2) (fun q => K q.1 q.2) → Met l yX6_readSetup wsX6_readSetup rmX6_readSetup (va_Pc [.ref (g 0), .ref h2] (kPreZ D cy za zv sz (([wP cy g u, wS cy h2 a2 u2] : List va_W).flatten))) (va_Qi K (fun q => kPost D (va_A (([wP cy g u, wS cy h2 a2 u2] : List va_W).flatten) sz) (([wP cy g q.1, wS cy h2 a2 q.2] : List va_W).flatten)) (va_A (([wP cy g u, wS cy h2 a2 u2] : List va_W).flatten) sz)) 0 0 (va_A (([wP cy g u, wS cy h2 a2 u2] : List va_W).flatten) sz) := by
  intro K h1
  refine Met.ofW (cc := cX6_readSetup) (maxL := 3) (ret := (some .boolean)) (by decide) rfl ?_
  intro p e s m args below meth c s₁ B hml hv
  obtain ⟨rfl, ⟨hsz, hP, hK, hD0⟩, hZ⟩ := hv
  subst hsz
  have E : mE D cy RX6 cX6_readSetup 3 (some .boolean) wsX6_readSetup (va_A (([wP cy g u, wS cy h2 a2 u2] : List va_W).flatten) s.heap.size) p s m _ meth c := ⟨B.exec, B.bytes, B.returns, hml, findClass_of_methodNamed B.named, atoms_spec (ws := wsX6_readSetup) B.pre, B.notSynchronized, hK, fun q h => Or.inr h⟩
  have hl := lv_entry ([.ref (g 0), .ref h2]) (n := 3) (Nat.le_of_ble_eq_true rfl)
  rw [lg_entry_eq]
  generalize (lg_sl ([.ref (g 0), .ref h2]) ++ List.replicate (3 - (lg_sl ([.ref (g 0), .ref h2])).length) Slot.unset).toArray = ls at hl ⊢
  exact tX6_readSetup_b0 (fun q => K q.1 q.2) E hZ u u2 _ _ _ hl hP hD0.self va_S.rf h1
