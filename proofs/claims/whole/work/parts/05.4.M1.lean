-- X10_thrown
theorem inX10_thrown_X10 : ∀ w ∈ u_ws RX10 TX10 23, w ∈ wsX10_thrown := k_lays 2 rfl
theorem lkX10_thrown_48 : Cond.fieldLink RX10 48 "FerryRampModel" "thrown" "I" ∈ wsX10_thrown := List.mem_of_getElem? (i := 1) rfl
abbrev rmX10_thrown : Room := { frames := 0, cells := 0, slots := 0, locals := 0 }
def fX10_thrown_b0 (u : RS) : Option (Int32) :=
  some (mTh u)
set_option maxHeartbeats 4000000 in
set_option maxRecDepth 100000 in
theorem tX10_thrown_b0 {p : Program} {l : Launch} {e : Env} {s : State} {m : MethodId} {args : Array Value} {below : List Frame} {meth : Method} {c : Code} {D : va_G} {cy : Nat → ClassId} {A : Nat → Prop} {h : Nat} {a : Nat → Nat} (K : Int32 → Prop) (E : mE D cy RX10 cX10_thrown 1 (some .int) wsX10_thrown A p s m args meth c) (u : RS)
     (H : Heap) (locs : List Loc) (ls : Array Slot) (hl : lv_has ls 1 [(0, .ref h)]) (hP : va_P D vwCl (wM cy h a u) H) (hD : va_D A (wM cy h a u)) (hS : va_S A s.heap H locs) (h1 : Ok (fX10_thrown_b0 u) K) :
    kW p l e rmX10_thrown s m args below meth c H locs (va_Qi (fun r (_ : Unit) => K r) (fun _ => kPost D A (wM cy h a u)) A) A 0 ls [] := by
  obtain ⟨hx, hb, hr, hml, hown, hts, hlocks, hK, hA⟩ := id E
  unfold fX10_thrown_b0 at h1
  refine lv_aload_n hx hb dX10_thrown_0 rfl (lv_at hl 0 rfl) ?_
  refine k_get (v := .int (mTh u)) (C := RX10) (T := TX10) (N := 23) hx hb hts inX10_thrown_X10 hown hK hP 0 (wM_a0 _ _ _ _) rfl 8 (by decide) lkX10_thrown_48 (mFs_8 _ _) dX10_thrown_1 ?_
  exact kret_r hx hb hr hlocks hP hD hS h1 dX10_thrown_4
def fX10_thrown (u : RS) : Option (Int32) := fX10_thrown_b0 u
set_option maxHeartbeats 4000000 in
set_option maxRecDepth 100000 in
theorem cX10_thrownM (l : Launch) (D : va_G) (cy : Nat → ClassId) (h : Nat) (a : Nat → Nat) (sz : Nat) (u : RS) : ∀ (K : Int32 → Prop), Ok (fX10_thrown u) K → Met l yX10_thrown wsX10_thrown rmX10_thrown (va_Pc [.ref h] (kPre D cy sz (wM cy h a u))) (va_Qi (fun r (_ : Unit) => K r) (fun _ => kPost D (va_A (wM cy h a u) sz) (wM cy h a u)) (va_A (wM cy h a u) sz)) 0 0 (va_A (wM cy h a u) sz) := by
  intro K h1
  refine Met.ofW (cc := cX10_thrown) (maxL := 1) (ret := (some .int)) (by decide) rfl ?_
  intro p e s m args below meth c s₁ B hml hv
  obtain ⟨rfl, hsz, hP, hK, hD0⟩ := hv
  subst hsz
  have E : mE D cy RX10 cX10_thrown 1 (some .int) wsX10_thrown (va_A (wM cy h a u) s.heap.size) p s m _ meth c := ⟨B.exec, B.bytes, B.returns, hml, findClass_of_methodNamed B.named, atoms_spec (ws := wsX10_thrown) B.pre, B.notSynchronized, hK, fun q h => Or.inr h⟩
  have hl := lv_entry ([.ref h]) (n := 1) (Nat.le_of_ble_eq_true rfl)
  rw [lg_entry_eq]
  generalize (lg_sl ([.ref h]) ++ List.replicate (1 - (lg_sl ([.ref h])).length) Slot.unset).toArray = ls at hl ⊢
  exact tX10_thrown_b0 K E u _ _ _ hl hP hD0.self va_S.rf h1
-- X10_fail
theorem inX10_fail_X10 : ∀ w ∈ u_ws RX10 TX10 23, w ∈ wsX10_fail := k_lays 2 rfl
theorem lkX10_fail_48 : Cond.fieldLink RX10 48 "FerryRampModel" "thrown" "I" ∈ wsX10_fail := List.mem_of_getElem? (i := 1) rfl
abbrev rmX10_fail : Room := { frames := 0, cells := 0, slots := 0, locals := 0 }
def fX10_fail_b0 (x1 : Int32) (u : RS) : Option (Int32 × RS) :=
  some (0, nTh u x1)
set_option maxHeartbeats 4000000 in
set_option maxRecDepth 100000 in
theorem tX10_fail_b0 {p : Program} {l : Launch} {e : Env} {s : State} {m : MethodId} {args : Array Value} {below : List Frame} {meth : Method} {c : Code} {D : va_G} {cy : Nat → ClassId} {A : Nat → Prop} {h : Nat} {a : Nat → Nat} (K : Int32 × RS → Prop) (E : mE D cy RX10 cX10_fail 2 (some .int) wsX10_fail A p s m args meth c)
     (x1 : Int32) (u : RS) (H : Heap) (locs : List Loc) (ls : Array Slot) (hl : lv_has ls 2 [(0, .ref h), (1, .int x1)]) (hP : va_P D vwCl (wM cy h a u) H) (hD : va_D A (wM cy h a u)) (hS : va_S A s.heap H locs) (h1 : Ok (fX10_fail_b0 x1 u) K) :
    kW p l e rmX10_fail s m args below meth c H locs (va_Qi (fun r q => K (r, q)) (fun q => kPost D A (wM cy h a q)) A) A 0 ls [] := by
  obtain ⟨hx, hb, hr, hml, hown, hts, hlocks, hK, hA⟩ := id E
  unfold fX10_fail_b0 at h1
  refine lv_aload_n hx hb dX10_fail_0 rfl (lv_at hl 0 rfl) ?_
  refine lv_iload_n hx hb dX10_fail_1 rfl (lv_at hl 1 rfl) ?_
  refine k_put (v := .int x1) (ty := .int) (C := RX10) (T := TX10) (N := 23) hx hb hts inX10_fail_X10 tyX10 tyX10_ok nmX10 hown hK hP hD hS 0 (wM_a0 _ _ _ _) rfl 8 (by decide) lkX10_fail_48 rfl (by decide +kernel) rfl rfl (Nat.le_of_ble_eq_true rfl) (ws' := wM cy h a (nTh u x1)) (wM_nTh _ _ _ _ _) dX10_fail_2 (fun H locs hP hD hS => ?_)
  refine lv_iconst (v := 0) hx hb dX10_fail_5 rfl ?_
  exact kret_i hx hb hr hlocks hP hD hS h1 dX10_fail_6
def fX10_fail (p1 : Int32) (u : RS) : Option (Int32 × RS) := fX10_fail_b0 p1 u
set_option maxHeartbeats 4000000 in
set_option maxRecDepth 100000 in
theorem cX10_failM (l : Launch) (D : va_G) (cy : Nat → ClassId) (h : Nat) (a : Nat → Nat) (sz : Nat) (u : RS) (p1 : Int32) : ∀ (K : Int32 → RS → Prop), Ok (fX10_fail p1 u) (fun q => K q.1 q.2) → Met l yX10_fail wsX10_fail rmX10_fail (va_Pc [.ref h, .int p1] (kPre D cy sz (wM cy h a u))) (va_Qi K (fun q => kPost D (va_A (wM cy h a u) sz) (wM cy h a q)) (va_A (wM cy h a u) sz)) 0 0 (va_A (wM cy h a u) sz) := by
  intro K h1
  refine Met.ofW (cc := cX10_fail) (maxL := 2) (ret := (some .int)) (by decide) rfl ?_
  intro p e s m args below meth c s₁ B hml hv
  obtain ⟨rfl, hsz, hP, hK, hD0⟩ := hv
  subst hsz
  have E : mE D cy RX10 cX10_fail 2 (some .int) wsX10_fail (va_A (wM cy h a u) s.heap.size) p s m _ meth c := ⟨B.exec, B.bytes, B.returns, hml, findClass_of_methodNamed B.named, atoms_spec (ws := wsX10_fail) B.pre, B.notSynchronized, hK, fun q h => Or.inr h⟩
  have hl := lv_entry ([.ref h, .int p1]) (n := 2) (Nat.le_of_ble_eq_true rfl)
  rw [lg_entry_eq]
  generalize (lg_sl ([.ref h, .int p1]) ++ List.replicate (2 - (lg_sl ([.ref h, .int p1])).length) Slot.unset).toArray = ls at hl ⊢
  exact tX10_fail_b0 (fun q => K q.1 q.2) E p1 u _ _ _ hl hP hD0.self va_S.rf h1
-- X10_refuse
theorem inX10_refuse_X10 : ∀ w ∈ u_ws RX10 TX10 23, w ∈ wsX10_refuse := k_lays 2 rfl
theorem lkX10_refuse_29 : Cond.fieldLink RX10 29 "FerryRampModel" "accounts" "[I" ∈ wsX10_refuse := List.mem_of_getElem? (i := 1) rfl
abbrev rmX10_refuse : Room := { frames := 0, cells := 0, slots := 0, locals := 0 }
def fX10_refuse_b0 (x1 : Int32) (u : RS) : Option (Int32 × RS) :=
  grd (inb x1 5) (grd (inb x1 5) (some (-x1, nAo u (ix x1) ((mAo u (ix x1)) + 1))))
set_option maxHeartbeats 4000000 in
set_option maxRecDepth 100000 in
theorem tX10_refuse_b0 {p : Program} {l : Launch} {e : Env} {s : State} {m : MethodId} {args : Array Value} {below : List Frame} {meth : Method} {c : Code} {D : va_G} {cy : Nat → ClassId} {A : Nat → Prop} {h : Nat} {a : Nat → Nat} (K : Int32 × RS → Prop) (E : mE D cy RX10 cX10_refuse 2 (some .int) wsX10_refuse A p s m args meth c)
     (x1 : Int32) (u : RS) (H : Heap) (locs : List Loc) (ls : Array Slot) (hl : lv_has ls 2 [(0, .ref h), (1, .int x1)]) (hP : va_P D vwCl (wM cy h a u) H) (hD : va_D A (wM cy h a u)) (hS : va_S A s.heap H locs) (h1 : Ok (fX10_refuse_b0 x1 u) K) :
    kW p l e rmX10_refuse s m args below meth c H locs (va_Qi (fun r q => K (r, q)) (fun q => kPost D A (wM cy h a q)) A) A 0 ls [] := by
  obtain ⟨hx, hb, hr, hml, hown, hts, hlocks, hK, hA⟩ := id E
  unfold fX10_refuse_b0 at h1
  refine lv_aload_n hx hb dX10_refuse_0 rfl (lv_at hl 0 rfl) ?_
  refine k_get (v := .ref (a 6)) (C := RX10) (T := TX10) (N := 23) hx hb hts inX10_refuse_X10 hown hK hP 0 (wM_a0 _ _ _ _) rfl 6 (by decide) lkX10_refuse_29 (mFs_6 _ _) dX10_refuse_1 ?_
  refine lv_iload_n hx hb dX10_refuse_4 rfl (lv_at hl 1 rfl) ?_
  refine lv_dup2_11 hx hb dX10_refuse_5 rfl rfl ?_
  have g6 := h1.grd1
  replace h1 := h1.grd2
  refine k_iald (k := (ix x1)) hx hb hK hP 7 (wM_a7 _ _ _ _) g6 rfl dX10_refuse_6 ?_
  refine lv_iconst (v := 1) hx hb dX10_refuse_7 rfl ?_
  refine lv_iadd hx hb dX10_refuse_8 ?_
  have g9 := h1.grd1
  replace h1 := h1.grd2
  refine k_iast (k := (ix x1)) (ws' := wM cy h a (nAo u (ix x1) ((mAo u (ix x1)) + 1))) hx hb hK hP hD hS 7 (wM_a7 _ _ _ _) g9 rfl (wM_nAo _ _ _ _ _ _) dX10_refuse_9 (fun H locs hP hD hS => ?_)
  refine lv_iload_n hx hb dX10_refuse_10 rfl (lv_at hl 1 rfl) ?_
  refine lv_ineg hx hb dX10_refuse_11 ?_
  exact kret_i hx hb hr hlocks hP hD hS h1 dX10_refuse_12
def fX10_refuse (p1 : Int32) (u : RS) : Option (Int32 × RS) := fX10_refuse_b0 p1 u
set_option maxHeartbeats 4000000 in
set_option maxRecDepth 100000 in
theorem cX10_refuseM (l : Launch) (D : va_G) (cy : Nat → ClassId) (h : Nat) (a : Nat → Nat) (sz : Nat) (u : RS) (p1 : Int32) : ∀ (K : Int32 → RS → Prop), Ok (fX10_refuse p1 u) (fun q => K q.1 q.2) → Met l yX10_refuse wsX10_refuse rmX10_refuse (va_Pc [.ref h, .int p1] (kPre D cy sz (wM cy h a u))) (va_Qi K (fun q => kPost D (va_A (wM cy h a u) sz) (wM cy h a q)) (va_A (wM cy h a u) sz)) 0 0 (va_A (wM cy h a u) sz) := by
  intro K h1
  refine Met.ofW (cc := cX10_refuse) (maxL := 2) (ret := (some .int)) (by decide) rfl ?_
  intro p e s m args below meth c s₁ B hml hv
  obtain ⟨rfl, hsz, hP, hK, hD0⟩ := hv
  subst hsz
  have E : mE D cy RX10 cX10_refuse 2 (some .int) wsX10_refuse (va_A (wM cy h a u) s.heap.size) p s m _ meth c := ⟨B.exec, B.bytes, B.returns, hml, findClass_of_methodNamed B.named, atoms_spec (ws := wsX10_refuse) B.pre, B.notSynchronized, hK, fun q h => Or.inr h⟩
  have hl := lv_entry ([.ref h, .int p1]) (n := 2) (Nat.le_of_ble_eq_true rfl)
  rw [lg_entry_eq]
  generalize (lg_sl ([.ref h, .int p1]) ++ List.replicate (2 - (lg_sl ([.ref h, .int p1])).length) Slot.unset).toArray = ls at hl ⊢
  exact tX10_refuse_b0 (fun q => K q.1 q.2) E p1 u _ _ _ hl hP hD0.self va_S.rf h1
-- X10_forgetEldest
theorem inX10_forgetEldest_X10 : ∀ w ∈ u_ws RX10 TX10 23, w ∈ wsX10_forgetEldest := k_lays 3 rfl
theorem lkX10_forgetEldest_313 : Cond.fieldLink RX10 313 "FerryRampModel" "acts" "I" ∈ wsX10_forgetEldest := List.mem_of_getElem? (i := 2) rfl
theorem lkX10_forgetEldest_19 : Cond.fieldLink RX10 19 "FerryRampModel" "past" "[I" ∈ wsX10_forgetEldest := List.mem_of_getElem? (i := 1) rfl
abbrev rmX10_forgetEldest : Room := { frames := 0, cells := 0, slots := 0, locals := 0 }
def fX10_forgetEldest_b2 (k2 : Int32 × RS → Option (RS)) (x1 : Int32) (u : RS) : Option (RS) :=
  (if 3927 ≤ x1 then some (nAc u ((mAc u) - 1)) else grd (inb (x1 + 561) 4488) (grd (inb x1 4488) (k2 (x1 + 1, nPa u (ix x1) (mPa u (ix (x1 + 561)))))))
set_option maxHeartbeats 4000000 in
set_option maxRecDepth 100000 in
theorem tX10_forgetEldest_b2 {p : Program} {l : Launch} {e : Env} {s : State} {m : MethodId} {args : Array Value} {below : List Frame} {meth : Method} {c : Code} {D : va_G} {cy : Nat → ClassId} {A : Nat → Prop} {h : Nat} {a : Nat → Nat} (K : RS → Prop) (E : mE D cy RX10 cX10_forgetEldest 2 none wsX10_forgetEldest A p s m args meth c)
    (k2 : Int32 × RS → Option (RS)) (hk2 : ∀ (x1 : Int32) (u : RS) (H : Heap) (locs : List Loc) (ls : Array Slot), lv_has ls 2 [(0, .ref h), (1, .int x1)] → va_P D vwCl (wM cy h a u) H → va_D A (wM cy h a u) → va_S A s.heap H locs → Ok (k2 (x1, u)) K → kW p l e rmX10_forgetEldest s m args below meth c H locs (va_Qv K (fun q => kPost D A (wM cy h a q)) A) A 2 ls [])
     (x1 : Int32) (u : RS) (H : Heap) (locs : List Loc) (ls : Array Slot) (hl : lv_has ls 2 [(0, .ref h), (1, .int x1)]) (hP : va_P D vwCl (wM cy h a u) H) (hD : va_D A (wM cy h a u)) (hS : va_S A s.heap H locs) (h1 : Ok (fX10_forgetEldest_b2 k2 x1 u) K) :
    kW p l e rmX10_forgetEldest s m args below meth c H locs (va_Qv K (fun q => kPost D A (wM cy h a q)) A) A 2 ls [] := by
  obtain ⟨hx, hb, hr, hml, hown, hts, hlocks, hK, hA⟩ := id E
  unfold fX10_forgetEldest_b2 at h1
  refine lv_iload_n hx hb dX10_forgetEldest_2 rfl (lv_at hl 1 rfl) ?_
  refine lv_sipush (v := 3927) hx hb dX10_forgetEldest_3 rfl ?_
  refine lv_icmp_ge (tgt := 31) hx hb dX10_forgetEldest_6 (by decide) (fun c6 => ?_) (fun c6 => ?_)
  · replace h1 := Ok.pos c6 h1
    refine lv_aload_n hx hb dX10_forgetEldest_31 rfl (lv_at hl 0 rfl) ?_
    refine lv_dup hx hb dX10_forgetEldest_32 rfl ?_
    refine k_get (v := .int (mAc u)) (C := RX10) (T := TX10) (N := 23) hx hb hts inX10_forgetEldest_X10 hown hK hP 0 (wM_a0 _ _ _ _) rfl 7 (by decide) lkX10_forgetEldest_313 (mFs_7 _ _) dX10_forgetEldest_33 ?_
    refine lv_iconst (v := 1) hx hb dX10_forgetEldest_36 rfl ?_
    refine lv_isub hx hb dX10_forgetEldest_37 ?_
    refine k_put (v := .int ((mAc u) - 1)) (ty := .int) (C := RX10) (T := TX10) (N := 23) hx hb hts inX10_forgetEldest_X10 tyX10 tyX10_ok nmX10 hown hK hP hD hS 0 (wM_a0 _ _ _ _) rfl 7 (by decide) lkX10_forgetEldest_313 rfl (by decide +kernel) rfl rfl (Nat.le_of_ble_eq_true rfl) (ws' := wM cy h a (nAc u ((mAc u) - 1))) (wM_nAc _ _ _ _ _) dX10_forgetEldest_38 (fun H locs hP hD hS => ?_)
    exact kret_v hx hb hr hlocks hP hD hS h1 dX10_forgetEldest_41
  · replace h1 := Ok.neg c6 h1
    refine lv_aload_n hx hb dX10_forgetEldest_9 rfl (lv_at hl 0 rfl) ?_
    refine k_get (v := .ref (a 3)) (C := RX10) (T := TX10) (N := 23) hx hb hts inX10_forgetEldest_X10 hown hK hP 0 (wM_a0 _ _ _ _) rfl 3 (by decide) lkX10_forgetEldest_19 (mFs_3 _ _) dX10_forgetEldest_10 ?_
    refine lv_iload_n hx hb dX10_forgetEldest_13 rfl (lv_at hl 1 rfl) ?_
    refine lv_aload_n hx hb dX10_forgetEldest_14 rfl (lv_at hl 0 rfl) ?_
    refine k_get (v := .ref (a 3)) (C := RX10) (T := TX10) (N := 23) hx hb hts inX10_forgetEldest_X10 hown hK hP 0 (wM_a0 _ _ _ _) rfl 3 (by decide) lkX10_forgetEldest_19 (mFs_3 _ _) dX10_forgetEldest_15 ?_
    refine lv_iload_n hx hb dX10_forgetEldest_18 rfl (lv_at hl 1 rfl) ?_
    refine lv_sipush (v := 561) hx hb dX10_forgetEldest_19 rfl ?_
    refine lv_iadd hx hb dX10_forgetEldest_22 ?_
    have g23 := h1.grd1
    replace h1 := h1.grd2
    refine k_iald (k := (ix (x1 + 561))) hx hb hK hP 4 (wM_a4 _ _ _ _) g23 rfl dX10_forgetEldest_23 ?_
    have g24 := h1.grd1
    replace h1 := h1.grd2
    refine k_iast (k := (ix x1)) (ws' := wM cy h a (nPa u (ix x1) (mPa u (ix (x1 + 561))))) hx hb hK hP hD hS 4 (wM_a4 _ _ _ _) g24 rfl (wM_nPa _ _ _ _ _ _) dX10_forgetEldest_24 (fun H locs hP hD hS => ?_)
    refine lv_iinc (v := x1 + 1) (lv' := [(1, .int (x1 + 1)), (0, .ref h)]) hx hb dX10_forgetEldest_25 hl (k := 1) rfl rfl (by decide) rfl (fun ls hl => ?_)
    refine lv_goto (tgt := 2) hx hb dX10_forgetEldest_28 (by decide) ?_
    exact hk2 (x1 + 1) (nPa u (ix x1) (mPa u (ix (x1 + 561)))) H locs ls (lv_sub hl [1, 0] rfl) hP hD hS h1
theorem tX10_forgetEldest_l2 {p : Program} {l : Launch} {e : Env} {s : State} {m : MethodId} {args : Array Value} {below : List Frame} {meth : Method} {c : Code} {D : va_G} {cy : Nat → ClassId} {A : Nat → Prop} {h : Nat} {a : Nat → Nat} (K : RS → Prop) (E : mE D cy RX10 cX10_forgetEldest 2 none wsX10_forgetEldest A p s m args meth c) : ∀ (n9 : Nat) (x1 : Int32) (u : RS) (H : Heap) (locs : List Loc) (ls : Array Slot), lv_has ls 2 [(0, .ref h), (1, .int x1)] → va_P D vwCl (wM cy h a u) H → va_D A (wM cy h a u) → va_S A s.heap H locs → Ok (lop (fun y z => fX10_forgetEldest_b2 y z.1 z.2) n9 (x1, u)) K → kW p l e rmX10_forgetEldest s m args below meth c H locs (va_Qv K (fun q => kPost D A (wM cy h a q)) A) A 2 ls [] := by
  intro n9
  induction n9 with
  | zero =>
    intro x1 u H locs ls hl hP hD hS h1
    exact h1.no
  | succ n9 ih =>
    intro x1 u H locs ls hl hP hD hS h1
    exact tX10_forgetEldest_b2 K E (lop (fun y z => fX10_forgetEldest_b2 y z.1 z.2) n9) (fun x1 u H locs ls hl hP hD hS h1 => ih x1 u H locs ls hl hP hD hS h1) x1 u H locs ls hl hP hD hS h1
def fX10_forgetEldest_b0 (u : RS) : Option (RS) :=
  lop (fun y z => fX10_forgetEldest_b2 y z.1 z.2) LF (0, u)
set_option maxHeartbeats 4000000 in
set_option maxRecDepth 100000 in
theorem tX10_forgetEldest_b0 {p : Program} {l : Launch} {e : Env} {s : State} {m : MethodId} {args : Array Value} {below : List Frame} {meth : Method} {c : Code} {D : va_G} {cy : Nat → ClassId} {A : Nat → Prop} {h : Nat} {a : Nat → Nat} (K : RS → Prop) (E : mE D cy RX10 cX10_forgetEldest 2 none wsX10_forgetEldest A p s m args meth c)
     (u : RS) (H : Heap) (locs : List Loc) (ls : Array Slot) (hl : lv_has ls 2 [(0, .ref h)]) (hP : va_P D vwCl (wM cy h a u) H) (hD : va_D A (wM cy h a u)) (hS : va_S A s.heap H locs) (h1 : Ok (fX10_forgetEldest_b0 u) K) :
    kW p l e rmX10_forgetEldest s m args below meth c H locs (va_Qv K (fun q => kPost D A (wM cy h a q)) A) A 0 ls [] := by
  obtain ⟨hx, hb, hr, hml, hown, hts, hlocks, hK, hA⟩ := id E
  unfold fX10_forgetEldest_b0 at h1
  refine lv_iconst (v := 0) hx hb dX10_forgetEldest_0 rfl ?_
  refine lv_istore_n (lv' := [(1, .int 0), (0, .ref h)]) hx hb dX10_forgetEldest_1 rfl hl (by decide) rfl (fun ls hl => ?_)
  exact tX10_forgetEldest_l2 K E LF 0 u H locs ls (lv_sub hl [1, 0] rfl) hP hD hS h1
def fX10_forgetEldest (u : RS) : Option (RS) := fX10_forgetEldest_b0 u
set_option maxHeartbeats 4000000 in
set_option maxRecDepth 100000 in
theorem cX10_forgetEldestM (l : Launch) (D : va_G) (cy : Nat → ClassId) (h : Nat) (a : Nat → Nat) (sz : Nat) (u : RS) : ∀ (K : RS → Prop), Ok (fX10_forgetEldest u) K → Met l yX10_forgetEldest wsX10_forgetEldest rmX10_forgetEldest (va_Pc [.ref h] (kPre D cy sz (wM cy h a u))) (va_Qv K (fun q => kPost D (va_A (wM cy h a u) sz) (wM cy h a q)) (va_A (wM cy h a u) sz)) 0 0 (va_A (wM cy h a u) sz) := by
  intro K h1
  refine Met.ofW (cc := cX10_forgetEldest) (maxL := 2) (ret := none) (by decide) rfl ?_
  intro p e s m args below meth c s₁ B hml hv
  obtain ⟨rfl, hsz, hP, hK, hD0⟩ := hv
  subst hsz
  have E : mE D cy RX10 cX10_forgetEldest 2 none wsX10_forgetEldest (va_A (wM cy h a u) s.heap.size) p s m _ meth c := ⟨B.exec, B.bytes, B.returns, hml, findClass_of_methodNamed B.named, atoms_spec (ws := wsX10_forgetEldest) B.pre, B.notSynchronized, hK, fun q h => Or.inr h⟩
  have hl := lv_entry ([.ref h]) (n := 2) (Nat.le_of_ble_eq_true rfl)
  rw [lg_entry_eq]
  generalize (lg_sl ([.ref h]) ++ List.replicate (2 - (lg_sl ([.ref h])).length) Slot.unset).toArray = ls at hl ⊢
  exact tX10_forgetEldest_b0 K E u _ _ _ hl hP hD0.self va_S.rf h1
-- X10_remember
theorem inX10_remember_X10 : ∀ w ∈ u_ws RX10 TX10 23, w ∈ wsX10_remember := k_lays 13 rfl
theorem lkX10_remember_313 : Cond.fieldLink RX10 313 "FerryRampModel" "acts" "I" ∈ wsX10_remember := List.mem_of_getElem? (i := 1) rfl
theorem lkX10_remember_7 : Cond.fieldLink RX10 7 "FerryRampModel" "state" "[I" ∈ wsX10_remember := List.mem_of_getElem? (i := 2) rfl
theorem lkX10_remember_19 : Cond.fieldLink RX10 19 "FerryRampModel" "past" "[I" ∈ wsX10_remember := List.mem_of_getElem? (i := 3) rfl
theorem heX10_copy : yX10_copy.cls ≠ "java/lang/invoke/MethodHandle" ∧ yX10_copy.cls ≠ "java/lang/invoke/VarHandle" ∧ (parseMethodDescriptor yX10_copy.desc).map (fun d => d.parameters.length) = some 4 := by decide +kernel
theorem lkX10_remember_29 : Cond.fieldLink RX10 29 "FerryRampModel" "accounts" "[I" ∈ wsX10_remember := List.mem_of_getElem? (i := 4) rfl
theorem hdX10_forgetEldest : yX10_forgetEldest.cls = RX10 ∧ yX10_forgetEldest.cls ≠ "java/lang/invoke/MethodHandle" ∧ yX10_forgetEldest.cls ≠ "java/lang/invoke/VarHandle" ∧ (parseMethodDescriptor yX10_forgetEldest.desc).map (fun d => d.parameters.length) = some 0 := by decide +kernel
abbrev rmX10_remember : Room := { frames := 1, cells := 0, slots := 0, locals := 24 }
def fX10_remember_b13 (u : RS) : Option (RS) :=
  bnd (fX10_copy 0 (561 * (mAc u)) 561 (mSt u) 4488 (mPa u)) (fun u30 => some (nAo (nAc (nPaA u u30) ((mAc (nPaA u u30)) + 1)) 0 ((mAo (nAc (nPaA u u30) ((mAc (nPaA u u30)) + 1)) 0) + 1)))
set_option maxHeartbeats 4000000 in
set_option maxRecDepth 100000 in
theorem tX10_remember_b13 {p : Program} {l : Launch} {e : Env} {s : State} {m : MethodId} {args : Array Value} {below : List Frame} {meth : Method} {c : Code} {D : va_G} {cy : Nat → ClassId} {A : Nat → Prop} {h : Nat} {a : Nat → Nat} (K : RS → Prop) (E : mE D cy RX10 cX10_remember 1 none wsX10_remember A p s m args meth c)
     (u : RS) (H : Heap) (locs : List Loc) (ls : Array Slot) (hl : lv_has ls 1 [(0, .ref h)]) (hP : va_P D vwCl (wM cy h a u) H) (hD : va_D A (wM cy h a u)) (hS : va_S A s.heap H locs) (h1 : Ok (fX10_remember_b13 u) K) :
    kW p l e rmX10_remember s m args below meth c H locs (va_Qv K (fun q => kPost D A (wM cy h a q)) A) A 13 ls [] := by
  obtain ⟨hx, hb, hr, hml, hown, hts, hlocks, hK, hA⟩ := id E
  unfold fX10_remember_b13 at h1
  refine lv_aload_n hx hb dX10_remember_13 rfl (lv_at hl 0 rfl) ?_
  refine k_get (v := .ref (a 0)) (C := RX10) (T := TX10) (N := 23) hx hb hts inX10_remember_X10 hown hK hP 0 (wM_a0 _ _ _ _) rfl 0 (by decide) lkX10_remember_7 (mFs_0 _ _) dX10_remember_14 ?_
  refine lv_iconst (v := 0) hx hb dX10_remember_17 rfl ?_
  refine lv_aload_n hx hb dX10_remember_18 rfl (lv_at hl 0 rfl) ?_
  refine k_get (v := .ref (a 3)) (C := RX10) (T := TX10) (N := 23) hx hb hts inX10_remember_X10 hown hK hP 0 (wM_a0 _ _ _ _) rfl 3 (by decide) lkX10_remember_19 (mFs_3 _ _) dX10_remember_19 ?_
  refine lv_sipush (v := 561) hx hb dX10_remember_22 rfl ?_
  refine lv_aload_n hx hb dX10_remember_25 rfl (lv_at hl 0 rfl) ?_
  refine k_get (v := .int (mAc u)) (C := RX10) (T := TX10) (N := 23) hx hb hts inX10_remember_X10 hown hK hP 0 (wM_a0 _ _ _ _) rfl 7 (by decide) lkX10_remember_313 (mFs_7 _ _) dX10_remember_26 ?_
  refine lv_imul hx hb dX10_remember_29 ?_
  refine kc_vS (As := [.ref (a 0), .int 0, .ref (a 3), .int (561 * (mAc u))]) (rest := []) h1 ⟨hx, hb, hml, hown, hts⟩ (cX10_copyM l D cy (a 0) (a 3) H.size 561 (mSt u) 4488 (mPa u) 0 (561 * (mAc u))) (va_cwS 4 hts gX10_remember_X10_copy rfl rfl rfl heX10_copy ⟨Nat.le_of_ble_eq_true rfl, Nat.le_of_ble_eq_true rfl⟩) hK (k_pick2 (i := 1) (j := 3) rfl rfl) hP hD hS hA rfl hl.1 rfl (Nat.le_of_ble_eq_true rfl) dX10_remember_30 ⟨Nat.zero_le _, Nat.zero_le _⟩ (fun u30 H locs h1 hP hD hS => ?_)
  replace hP := kP_perm (k_pick2 (l := wM cy h a (nPaA u u30)) (i := 1) (j := 3) rfl rfl).symm hP
  replace hD := kD_perm (k_pick2 (l := wM cy h a (nPaA u u30)) (i := 1) (j := 3) rfl rfl).symm hD
  refine lv_aload_n hx hb dX10_remember_33 rfl (lv_at hl 0 rfl) ?_
  refine lv_dup hx hb dX10_remember_34 rfl ?_
  refine k_get (v := .int (mAc (nPaA u u30))) (C := RX10) (T := TX10) (N := 23) hx hb hts inX10_remember_X10 hown hK hP 0 (wM_a0 _ _ _ _) rfl 7 (by decide) lkX10_remember_313 (mFs_7 _ _) dX10_remember_35 ?_
  refine lv_iconst (v := 1) hx hb dX10_remember_38 rfl ?_
  refine lv_iadd hx hb dX10_remember_39 ?_
  refine k_put (v := .int ((mAc (nPaA u u30)) + 1)) (ty := .int) (C := RX10) (T := TX10) (N := 23) hx hb hts inX10_remember_X10 tyX10 tyX10_ok nmX10 hown hK hP hD hS 0 (wM_a0 _ _ _ _) rfl 7 (by decide) lkX10_remember_313 rfl (by decide +kernel) rfl rfl (Nat.le_of_ble_eq_true rfl) (ws' := wM cy h a (nAc (nPaA u u30) ((mAc (nPaA u u30)) + 1))) (wM_nAc _ _ _ _ _) dX10_remember_40 (fun H locs hP hD hS => ?_)
  refine lv_aload_n hx hb dX10_remember_43 rfl (lv_at hl 0 rfl) ?_
  refine k_get (v := .ref (a 6)) (C := RX10) (T := TX10) (N := 23) hx hb hts inX10_remember_X10 hown hK hP 0 (wM_a0 _ _ _ _) rfl 6 (by decide) lkX10_remember_29 (mFs_6 _ _) dX10_remember_44 ?_
  refine lv_iconst (v := 0) hx hb dX10_remember_47 rfl ?_
  refine lv_dup2_11 hx hb dX10_remember_48 rfl rfl ?_
  refine k_iald (k := 0) hx hb hK hP 7 (wM_a7 _ _ _ _) rfl rfl dX10_remember_49 ?_
  refine lv_iconst (v := 1) hx hb dX10_remember_50 rfl ?_
  refine lv_iadd hx hb dX10_remember_51 ?_
  refine k_iast (k := 0) (ws' := wM cy h a (nAo (nAc (nPaA u u30) ((mAc (nPaA u u30)) + 1)) 0 ((mAo (nAc (nPaA u u30) ((mAc (nPaA u u30)) + 1)) 0) + 1))) hx hb hK hP hD hS 7 (wM_a7 _ _ _ _) rfl rfl (wM_nAo _ _ _ _ _ _) dX10_remember_52 (fun H locs hP hD hS => ?_)
  exact kret_v hx hb hr hlocks hP hD hS h1 dX10_remember_53
def fX10_remember_b0 (u : RS) : Option (RS) :=
  (if (mAc u) = 8 then bnd (fX10_forgetEldest u) (fun u10 => fX10_remember_b13 u10) else fX10_remember_b13 u)
set_option maxHeartbeats 4000000 in
set_option maxRecDepth 100000 in
theorem tX10_remember_b0 {p : Program} {l : Launch} {e : Env} {s : State} {m : MethodId} {args : Array Value} {below : List Frame} {meth : Method} {c : Code} {D : va_G} {cy : Nat → ClassId} {A : Nat → Prop} {h : Nat} {a : Nat → Nat} (K : RS → Prop) (E : mE D cy RX10 cX10_remember 1 none wsX10_remember A p s m args meth c)
     (u : RS) (H : Heap) (locs : List Loc) (ls : Array Slot) (hl : lv_has ls 1 [(0, .ref h)]) (hP : va_P D vwCl (wM cy h a u) H) (hD : va_D A (wM cy h a u)) (hS : va_S A s.heap H locs) (h1 : Ok (fX10_remember_b0 u) K) :
    kW p l e rmX10_remember s m args below meth c H locs (va_Qv K (fun q => kPost D A (wM cy h a q)) A) A 0 ls [] := by
  obtain ⟨hx, hb, hr, hml, hown, hts, hlocks, hK, hA⟩ := id E
  unfold fX10_remember_b0 at h1
  refine lv_aload_n hx hb dX10_remember_0 rfl (lv_at hl 0 rfl) ?_
  refine k_get (v := .int (mAc u)) (C := RX10) (T := TX10) (N := 23) hx hb hts inX10_remember_X10 hown hK hP 0 (wM_a0 _ _ _ _) rfl 7 (by decide) lkX10_remember_313 (mFs_7 _ _) dX10_remember_1 ?_
  refine lv_bipush (v := 8) hx hb dX10_remember_4 rfl ?_
  refine lv_icmp_ne (tgt := 13) hx hb dX10_remember_6 (by decide) (fun c6 => ?_) (fun c6 => ?_)
  · replace h1 := Ok.neg c6 h1
    exact tX10_remember_b13 K E u H locs ls (lv_sub hl [0] rfl) hP hD hS h1
  · replace h1 := Ok.pos c6 h1
    refine lv_aload_n hx hb dX10_remember_9 rfl (lv_at hl 0 rfl) ?_
    refine kc_vV0 (b := h) (As := []) (rest := []) h1 ⟨hx, hb, hml, hown, hts⟩ (cX10_forgetEldestM l D cy h a H.size u) (cwV 0 hts gX10_remember_X10_forgetEldest rfl rfl rfl hdX10_forgetEldest ⟨Nat.le_of_ble_eq_true rfl, Nat.le_of_ble_eq_true rfl⟩) hK hP hD hS hA (q0 := 0) rfl rfl rfl hl.1 rfl (Nat.le_of_ble_eq_true rfl) dX10_remember_10 ⟨Nat.zero_le _, Nat.zero_le _⟩ (fun u10 H locs h1 hP hD hS => ?_)
    exact tX10_remember_b13 K E u10 H locs ls (lv_sub hl [0] rfl) hP hD hS h1
def fX10_remember (u : RS) : Option (RS) := fX10_remember_b0 u
set_option maxHeartbeats 4000000 in
set_option maxRecDepth 100000 in
theorem cX10_rememberM (l : Launch) (D : va_G) (cy : Nat → ClassId) (h : Nat) (a : Nat → Nat) (sz : Nat) (u : RS) : ∀ (K : RS → Prop), Ok (fX10_remember u) K → Met l yX10_remember wsX10_remember rmX10_remember (va_Pc [.ref h] (kPre D cy sz (wM cy h a u))) (va_Qv K (fun q => kPost D (va_A (wM cy h a u) sz) (wM cy h a q)) (va_A (wM cy h a u) sz)) 0 0 (va_A (wM cy h a u) sz) := by
  intro K h1
  refine Met.ofW (cc := cX10_remember) (maxL := 1) (ret := none) (by decide) rfl ?_
  intro p e s m args below meth c s₁ B hml hv
  obtain ⟨rfl, hsz, hP, hK, hD0⟩ := hv
  subst hsz
  have E : mE D cy RX10 cX10_remember 1 none wsX10_remember (va_A (wM cy h a u) s.heap.size) p s m _ meth c := ⟨B.exec, B.bytes, B.returns, hml, findClass_of_methodNamed B.named, atoms_spec (ws := wsX10_remember) B.pre, B.notSynchronized, hK, fun q h => Or.inr h⟩
  have hl := lv_entry ([.ref h]) (n := 1) (Nat.le_of_ble_eq_true rfl)
  rw [lg_entry_eq]
  generalize (lg_sl ([.ref h]) ++ List.replicate (1 - (lg_sl ([.ref h])).length) Slot.unset).toArray = ls at hl ⊢
  exact tX10_remember_b0 K E u _ _ _ hl hP hD0.self va_S.rf h1
-- X10_tickIt
theorem hdX10_remember : yX10_remember.cls = RX10 ∧ yX10_remember.cls ≠ "java/lang/invoke/MethodHandle" ∧ yX10_remember.cls ≠ "java/lang/invoke/VarHandle" ∧ (parseMethodDescriptor yX10_remember.desc).map (fun d => d.parameters.length) = some 0 := by decide +kernel
theorem hdX10_tickMany : yX10_tickMany.cls = RX10 ∧ yX10_tickMany.cls ≠ "java/lang/invoke/MethodHandle" ∧ yX10_tickMany.cls ≠ "java/lang/invoke/VarHandle" ∧ (parseMethodDescriptor yX10_tickMany.desc).map (fun d => d.parameters.length) = some 1 := by decide +kernel
abbrev rmX10_tickIt : Room := { frames := 11, cells := 0, slots := 0, locals := 247 }
def fX10_tickIt_b0 (x1 : Int32) (u : RS) : Option (Int32 × RS) :=
  bnd (fX10_remember u) (fun u1 => bnd2 (fX10_tickMany x1 (mSt u1)) (fun r6 u6 => some (r6, nStA u1 u6)))
set_option maxHeartbeats 4000000 in
set_option maxRecDepth 100000 in
theorem tX10_tickIt_b0 {p : Program} {l : Launch} {e : Env} {s : State} {m : MethodId} {args : Array Value} {below : List Frame} {meth : Method} {c : Code} {D : va_G} {cy : Nat → ClassId} {A : Nat → Prop} {h : Nat} {a : Nat → Nat} (K : Int32 × RS → Prop) (E : mE D cy RX10 cX10_tickIt 2 (some .int) wsX10_tickIt A p s m args meth c)
     (x1 : Int32) (u : RS) (H : Heap) (locs : List Loc) (ls : Array Slot) (hl : lv_has ls 2 [(0, .ref h), (1, .int x1)]) (hP : va_P D vwCl (wM cy h a u) H) (hD : va_D A (wM cy h a u)) (hS : va_S A s.heap H locs) (h1 : Ok (fX10_tickIt_b0 x1 u) K) :
    kW p l e rmX10_tickIt s m args below meth c H locs (va_Qi (fun r q => K (r, q)) (fun q => kPost D A (wM cy h a q)) A) A 0 ls [] := by
  obtain ⟨hx, hb, hr, hml, hown, hts, hlocks, hK, hA⟩ := id E
  unfold fX10_tickIt_b0 at h1
  refine lv_aload_n hx hb dX10_tickIt_0 rfl (lv_at hl 0 rfl) ?_
  refine kc_vV0 (b := h) (As := []) (rest := []) h1 ⟨hx, hb, hml, hown, hts⟩ (cX10_rememberM l D cy h a H.size u) (cwV 0 hts gX10_tickIt_X10_remember rfl rfl rfl hdX10_remember ⟨Nat.le_of_ble_eq_true rfl, Nat.le_of_ble_eq_true rfl⟩) hK hP hD hS hA (q0 := 0) rfl rfl rfl hl.1 rfl (Nat.le_of_ble_eq_true rfl) dX10_tickIt_1 ⟨Nat.zero_le _, Nat.zero_le _⟩ (fun u1 H locs h1 hP hD hS => ?_)
  refine lv_aload_n hx hb dX10_tickIt_4 rfl (lv_at hl 0 rfl) ?_
  refine lv_iload_n hx hb dX10_tickIt_5 rfl (lv_at hl 1 rfl) ?_
  refine kc_iV (b := h) (As := [.int x1]) (rest := []) h1 ⟨hx, hb, hml, hown, hts⟩ (cX10_tickManyM l D cy h (a 0) (mRest a u1) H.size (mSt u1) x1) (cwV 1 hts gX10_tickIt_X10_tickMany rfl rfl rfl hdX10_tickMany ⟨Nat.le_of_ble_eq_true rfl, Nat.le_of_ble_eq_true rfl⟩) hK (wM_split _ _ _ _) hP hD hS hA (q0 := 0) rfl rfl rfl hl.1 rfl (Nat.le_of_ble_eq_true rfl) dX10_tickIt_6 ⟨Nat.zero_le _, Nat.zero_le _⟩ (fun r6 u6 H locs h1 hP hD hS => ?_)
  rw [wM_back] at hP hD
  exact kret_i hx hb hr hlocks hP hD hS h1 dX10_tickIt_9
def fX10_tickIt (p1 : Int32) (u : RS) : Option (Int32 × RS) := fX10_tickIt_b0 p1 u
set_option maxHeartbeats 4000000 in
set_option maxRecDepth 100000 in
theorem cX10_tickItM (l : Launch) (D : va_G) (cy : Nat → ClassId) (h : Nat) (a : Nat → Nat) (sz : Nat) (u : RS) (p1 : Int32) : ∀ (K : Int32 → RS → Prop), Ok (fX10_tickIt p1 u) (fun q => K q.1 q.2) → Met l yX10_tickIt wsX10_tickIt rmX10_tickIt (va_Pc [.ref h, .int p1] (kPre D cy sz (wM cy h a u))) (va_Qi K (fun q => kPost D (va_A (wM cy h a u) sz) (wM cy h a q)) (va_A (wM cy h a u) sz)) 0 0 (va_A (wM cy h a u) sz) := by
  intro K h1
  refine Met.ofW (cc := cX10_tickIt) (maxL := 2) (ret := (some .int)) (by decide) rfl ?_
  intro p e s m args below meth c s₁ B hml hv
  obtain ⟨rfl, hsz, hP, hK, hD0⟩ := hv
  subst hsz
  have E : mE D cy RX10 cX10_tickIt 2 (some .int) wsX10_tickIt (va_A (wM cy h a u) s.heap.size) p s m _ meth c := ⟨B.exec, B.bytes, B.returns, hml, findClass_of_methodNamed B.named, atoms_spec (ws := wsX10_tickIt) B.pre, B.notSynchronized, hK, fun q h => Or.inr h⟩
  have hl := lv_entry ([.ref h, .int p1]) (n := 2) (Nat.le_of_ble_eq_true rfl)
  rw [lg_entry_eq]
  generalize (lg_sl ([.ref h, .int p1]) ++ List.replicate (2 - (lg_sl ([.ref h, .int p1])).length) Slot.unset).toArray = ls at hl ⊢
  exact tX10_tickIt_b0 (fun q => K q.1 q.2) E p1 u _ _ _ hl hP hD0.self va_S.rf h1
-- X10_tick
theorem inX10_tick_X10 : ∀ w ∈ u_ws RX10 TX10 23, w ∈ wsX10_tick := k_lays 147 rfl
theorem lkX10_tick_48 : Cond.fieldLink RX10 48 "FerryRampModel" "thrown" "I" ∈ wsX10_tick := List.mem_of_getElem? (i := 1) rfl
theorem hdX10_fail : yX10_fail.cls = RX10 ∧ yX10_fail.cls ≠ "java/lang/invoke/MethodHandle" ∧ yX10_fail.cls ≠ "java/lang/invoke/VarHandle" ∧ (parseMethodDescriptor yX10_fail.desc).map (fun d => d.parameters.length) = some 1 := by decide +kernel
theorem hdX10_tickIt : yX10_tickIt.cls = RX10 ∧ yX10_tickIt.cls ≠ "java/lang/invoke/MethodHandle" ∧ yX10_tickIt.cls ≠ "java/lang/invoke/VarHandle" ∧ (parseMethodDescriptor yX10_tickIt.desc).map (fun d => d.parameters.length) = some 1 := by decide +kernel
abbrev rmX10_tick : Room := { frames := 12, cells := 0, slots := 0, locals := 268 }
def fX10_tick_b0 (x1 : Int32) (u : RS) : Option (Int32 × RS) :=
  bnd (fX10_isBetween x1 1 50) (fun r9 => (if r9 = 0 then bnd2 (fX10_fail 1 (nTh u 0)) (fun r25 u25 => some (r25, u25)) else bnd2 (fX10_tickIt x1 (nTh u 0)) (fun r17 u17 => some (r17, u17))))
set_option maxHeartbeats 4000000 in
set_option maxRecDepth 100000 in
theorem tX10_tick_b0 {p : Program} {l : Launch} {e : Env} {s : State} {m : MethodId} {args : Array Value} {below : List Frame} {meth : Method} {c : Code} {D : va_G} {cy : Nat → ClassId} {A : Nat → Prop} {h : Nat} {a : Nat → Nat} (K : Int32 × RS → Prop) (E : mE D cy RX10 cX10_tick 2 (some .int) wsX10_tick A p s m args meth c)
     (x1 : Int32) (u : RS) (H : Heap) (locs : List Loc) (ls : Array Slot) (hl : lv_has ls 2 [(0, .ref h), (1, .int x1)]) (hP : va_P D vwCl (wM cy h a u) H) (hD : va_D A (wM cy h a u)) (hS : va_S A s.heap H locs) (h1 : Ok (fX10_tick_b0 x1 u) K) :
    kW p l e rmX10_tick s m args below meth c H locs (va_Qi (fun r q => K (r, q)) (fun q => kPost D A (wM cy h a q)) A) A 0 ls [] := by
  obtain ⟨hx, hb, hr, hml, hown, hts, hlocks, hK, hA⟩ := id E
  unfold fX10_tick_b0 at h1
  refine lv_aload_n hx hb dX10_tick_0 rfl (lv_at hl 0 rfl) ?_
  refine lv_iconst (v := 0) hx hb dX10_tick_1 rfl ?_
  refine k_put (v := .int 0) (ty := .int) (C := RX10) (T := TX10) (N := 23) hx hb hts inX10_tick_X10 tyX10 tyX10_ok nmX10 hown hK hP hD hS 0 (wM_a0 _ _ _ _) rfl 8 (by decide) lkX10_tick_48 rfl (by decide +kernel) rfl rfl (Nat.le_of_ble_eq_true rfl) (ws' := wM cy h a (nTh u 0)) (wM_nTh _ _ _ _ _) dX10_tick_2 (fun H locs hP hD hS => ?_)
  refine lv_iload_n hx hb dX10_tick_5 rfl (lv_at hl 1 rfl) ?_
  refine lv_iconst (v := 1) hx hb dX10_tick_6 rfl ?_
  refine lv_bipush (v := 50) hx hb dX10_tick_7 rfl ?_
  refine kc_rS (As := [.int x1, .int 1, .int 50]) (rest := []) (wc := []) (wr := _) h1 ⟨hx, hb, hml, hown, hts⟩ (cX10_isBetweenM l D cy H.size x1 1 50) (va_cwS 3 hts gX10_tick_X10_isBetween rfl rfl rfl heX10_isBetween ⟨Nat.le_of_ble_eq_true rfl, Nat.le_of_ble_eq_true rfl⟩) hK (List.Perm.refl _) hP hD hS hA rfl hl.1 rfl (Nat.le_of_ble_eq_true rfl) dX10_tick_9 ⟨Nat.zero_le _, Nat.zero_le _⟩ (fun r9 H locs h1 hP hS => ?_)
  refine lv_if_eq (tgt := 23) hx hb dX10_tick_12 (by decide) (fun c12 => ?_) (fun c12 => ?_)
  · replace h1 := Ok.pos c12 h1
    refine lv_aload_n hx hb dX10_tick_23 rfl (lv_at hl 0 rfl) ?_
    refine lv_iconst (v := 1) hx hb dX10_tick_24 rfl ?_
    refine kc_iV0 (b := h) (As := [.int 1]) (rest := []) h1 ⟨hx, hb, hml, hown, hts⟩ (cX10_failM l D cy h a H.size (nTh u 0) 1) (cwV 1 hts gX10_tick_X10_fail rfl rfl rfl hdX10_fail ⟨Nat.le_of_ble_eq_true rfl, Nat.le_of_ble_eq_true rfl⟩) hK hP hD hS hA (q0 := 0) rfl rfl rfl hl.1 rfl (Nat.le_of_ble_eq_true rfl) dX10_tick_25 ⟨Nat.zero_le _, Nat.zero_le _⟩ (fun r25 u25 H locs h1 hP hD hS => ?_)
    exact kret_i hx hb hr hlocks hP hD hS h1 dX10_tick_28
  · replace h1 := Ok.neg c12 h1
    refine lv_aload_n hx hb dX10_tick_15 rfl (lv_at hl 0 rfl) ?_
    refine lv_iload_n hx hb dX10_tick_16 rfl (lv_at hl 1 rfl) ?_
    refine kc_iV0 (b := h) (As := [.int x1]) (rest := []) h1 ⟨hx, hb, hml, hown, hts⟩ (cX10_tickItM l D cy h a H.size (nTh u 0) x1) (cwV 1 hts gX10_tick_X10_tickIt rfl rfl rfl hdX10_tickIt ⟨Nat.le_of_ble_eq_true rfl, Nat.le_of_ble_eq_true rfl⟩) hK hP hD hS hA (q0 := 0) rfl rfl rfl hl.1 rfl (Nat.le_of_ble_eq_true rfl) dX10_tick_17 ⟨Nat.zero_le _, Nat.zero_le _⟩ (fun r17 u17 H locs h1 hP hD hS => ?_)
    refine lv_goto (tgt := 28) hx hb dX10_tick_20 (by decide) ?_
    exact kret_i hx hb hr hlocks hP hD hS h1 dX10_tick_28
def fX10_tick (p1 : Int32) (u : RS) : Option (Int32 × RS) := fX10_tick_b0 p1 u
set_option maxHeartbeats 4000000 in
set_option maxRecDepth 100000 in
theorem cX10_tickM (l : Launch) (D : va_G) (cy : Nat → ClassId) (h : Nat) (a : Nat → Nat) (sz : Nat) (u : RS) (p1 : Int32) : ∀ (K : Int32 → RS → Prop), Ok (fX10_tick p1 u) (fun q => K q.1 q.2) → Met l yX10_tick wsX10_tick rmX10_tick (va_Pc [.ref h, .int p1] (kPre D cy sz (wM cy h a u))) (va_Qi K (fun q => kPost D (va_A (wM cy h a u) sz) (wM cy h a q)) (va_A (wM cy h a u) sz)) 0 0 (va_A (wM cy h a u) sz) := by
  intro K h1
  refine Met.ofW (cc := cX10_tick) (maxL := 2) (ret := (some .int)) (by decide) rfl ?_
  intro p e s m args below meth c s₁ B hml hv
  obtain ⟨rfl, hsz, hP, hK, hD0⟩ := hv
  subst hsz
  have E : mE D cy RX10 cX10_tick 2 (some .int) wsX10_tick (va_A (wM cy h a u) s.heap.size) p s m _ meth c := ⟨B.exec, B.bytes, B.returns, hml, findClass_of_methodNamed B.named, atoms_spec (ws := wsX10_tick) B.pre, B.notSynchronized, hK, fun q h => Or.inr h⟩
  have hl := lv_entry ([.ref h, .int p1]) (n := 2) (Nat.le_of_ble_eq_true rfl)
  rw [lg_entry_eq]
  generalize (lg_sl ([.ref h, .int p1]) ++ List.replicate (2 - (lg_sl ([.ref h, .int p1])).length) Slot.unset).toArray = ls at hl ⊢
  exact tX10_tick_b0 (fun q => K q.1 q.2) E p1 u _ _ _ hl hP hD0.self va_S.rf h1
-- X10_arriveIt
theorem inX10_arriveIt_X10 : ∀ w ∈ u_ws RX10 TX10 23, w ∈ wsX10_arriveIt := k_lays 29 rfl
theorem lkX10_arriveIt_7 : Cond.fieldLink RX10 7 "FerryRampModel" "state" "[I" ∈ wsX10_arriveIt := List.mem_of_getElem? (i := 1) rfl
theorem hdX10_addCar : yX10_addCar.cls = RX10 ∧ yX10_addCar.cls ≠ "java/lang/invoke/MethodHandle" ∧ yX10_addCar.cls ≠ "java/lang/invoke/VarHandle" ∧ (parseMethodDescriptor yX10_addCar.desc).map (fun d => d.parameters.length) = some 2 := by decide +kernel
theorem hdX10_refuse : yX10_refuse.cls = RX10 ∧ yX10_refuse.cls ≠ "java/lang/invoke/MethodHandle" ∧ yX10_refuse.cls ≠ "java/lang/invoke/VarHandle" ∧ (parseMethodDescriptor yX10_refuse.desc).map (fun d => d.parameters.length) = some 1 := by decide +kernel
abbrev rmX10_arriveIt : Room := { frames := 2, cells := 0, slots := 0, locals := 46 }
def fX10_arriveIt_b0 (x1 : Int32) (x2 : Int32) (u : RS) : Option (Int32 × RS) :=
  (if (mSt u 13) = 60 then bnd2 (fX10_refuse 1 u) (fun r14 u14 => some (r14, u14)) else (if (mSt u 14) = 20 then bnd2 (fX10_refuse 2 u) (fun r32 u32 => some (r32, u32)) else bnd (fX10_remember u) (fun u37 => bnd2 (fX10_addCar x1 x2 (mSt u37)) (fun r43 u43 => some (r43, nStA u37 u43)))))
set_option maxHeartbeats 4000000 in
set_option maxRecDepth 100000 in
theorem tX10_arriveIt_b0 {p : Program} {l : Launch} {e : Env} {s : State} {m : MethodId} {args : Array Value} {below : List Frame} {meth : Method} {c : Code} {D : va_G} {cy : Nat → ClassId} {A : Nat → Prop} {h : Nat} {a : Nat → Nat} (K : Int32 × RS → Prop) (E : mE D cy RX10 cX10_arriveIt 3 (some .int) wsX10_arriveIt A p s m args meth c)
     (x1 : Int32) (x2 : Int32) (u : RS) (H : Heap) (locs : List Loc) (ls : Array Slot) (hl : lv_has ls 3 [(0, .ref h), (1, .int x1), (2, .int x2)]) (hP : va_P D vwCl (wM cy h a u) H) (hD : va_D A (wM cy h a u)) (hS : va_S A s.heap H locs) (h1 : Ok (fX10_arriveIt_b0 x1 x2 u) K) :
    kW p l e rmX10_arriveIt s m args below meth c H locs (va_Qi (fun r q => K (r, q)) (fun q => kPost D A (wM cy h a q)) A) A 0 ls [] := by
  obtain ⟨hx, hb, hr, hml, hown, hts, hlocks, hK, hA⟩ := id E
  unfold fX10_arriveIt_b0 at h1
  refine lv_aload_n hx hb dX10_arriveIt_0 rfl (lv_at hl 0 rfl) ?_
  refine k_get (v := .ref (a 0)) (C := RX10) (T := TX10) (N := 23) hx hb hts inX10_arriveIt_X10 hown hK hP 0 (wM_a0 _ _ _ _) rfl 0 (by decide) lkX10_arriveIt_7 (mFs_0 _ _) dX10_arriveIt_1 ?_
  refine lv_bipush (v := 13) hx hb dX10_arriveIt_4 rfl ?_
  refine k_iald (k := 13) hx hb hK hP 1 (wM_a1 _ _ _ _) rfl rfl dX10_arriveIt_6 ?_
  refine lv_bipush (v := 60) hx hb dX10_arriveIt_7 rfl ?_
  refine lv_icmp_ne (tgt := 18) hx hb dX10_arriveIt_9 (by decide) (fun c9 => ?_) (fun c9 => ?_)
  · replace h1 := Ok.neg c9 h1
    refine lv_aload_n hx hb dX10_arriveIt_18 rfl (lv_at hl 0 rfl) ?_
    refine k_get (v := .ref (a 0)) (C := RX10) (T := TX10) (N := 23) hx hb hts inX10_arriveIt_X10 hown hK hP 0 (wM_a0 _ _ _ _) rfl 0 (by decide) lkX10_arriveIt_7 (mFs_0 _ _) dX10_arriveIt_19 ?_
    refine lv_bipush (v := 14) hx hb dX10_arriveIt_22 rfl ?_
    refine k_iald (k := 14) hx hb hK hP 1 (wM_a1 _ _ _ _) rfl rfl dX10_arriveIt_24 ?_
    refine lv_bipush (v := 20) hx hb dX10_arriveIt_25 rfl ?_
    refine lv_icmp_ne (tgt := 36) hx hb dX10_arriveIt_27 (by decide) (fun c27 => ?_) (fun c27 => ?_)
    · replace h1 := Ok.neg c27 h1
      refine lv_aload_n hx hb dX10_arriveIt_36 rfl (lv_at hl 0 rfl) ?_
      refine kc_vV0 (b := h) (As := []) (rest := []) h1 ⟨hx, hb, hml, hown, hts⟩ (cX10_rememberM l D cy h a H.size u) (cwV 0 hts gX10_arriveIt_X10_remember rfl rfl rfl hdX10_remember ⟨Nat.le_of_ble_eq_true rfl, Nat.le_of_ble_eq_true rfl⟩) hK hP hD hS hA (q0 := 0) rfl rfl rfl hl.1 rfl (Nat.le_of_ble_eq_true rfl) dX10_arriveIt_37 ⟨Nat.zero_le _, Nat.zero_le _⟩ (fun u37 H locs h1 hP hD hS => ?_)
      refine lv_aload_n hx hb dX10_arriveIt_40 rfl (lv_at hl 0 rfl) ?_
      refine lv_iload_n hx hb dX10_arriveIt_41 rfl (lv_at hl 1 rfl) ?_
      refine lv_iload_n hx hb dX10_arriveIt_42 rfl (lv_at hl 2 rfl) ?_
      refine kc_iV (b := h) (As := [.int x1, .int x2]) (rest := []) h1 ⟨hx, hb, hml, hown, hts⟩ (cX10_addCarM l D cy h (a 0) (mRest a u37) H.size (mSt u37) x1 x2) (cwV 2 hts gX10_arriveIt_X10_addCar rfl rfl rfl hdX10_addCar ⟨Nat.le_of_ble_eq_true rfl, Nat.le_of_ble_eq_true rfl⟩) hK (wM_split _ _ _ _) hP hD hS hA (q0 := 0) rfl rfl rfl hl.1 rfl (Nat.le_of_ble_eq_true rfl) dX10_arriveIt_43 ⟨Nat.zero_le _, Nat.zero_le _⟩ (fun r43 u43 H locs h1 hP hD hS => ?_)
      rw [wM_back] at hP hD
      exact kret_i hx hb hr hlocks hP hD hS h1 dX10_arriveIt_46
    · replace h1 := Ok.pos c27 h1
      refine lv_aload_n hx hb dX10_arriveIt_30 rfl (lv_at hl 0 rfl) ?_
      refine lv_iconst (v := 2) hx hb dX10_arriveIt_31 rfl ?_
      refine kc_iV0 (b := h) (As := [.int 2]) (rest := []) h1 ⟨hx, hb, hml, hown, hts⟩ (cX10_refuseM l D cy h a H.size u 2) (cwV 1 hts gX10_arriveIt_X10_refuse rfl rfl rfl hdX10_refuse ⟨Nat.le_of_ble_eq_true rfl, Nat.le_of_ble_eq_true rfl⟩) hK hP hD hS hA (q0 := 0) rfl rfl rfl hl.1 rfl (Nat.le_of_ble_eq_true rfl) dX10_arriveIt_32 ⟨Nat.zero_le _, Nat.zero_le _⟩ (fun r32 u32 H locs h1 hP hD hS => ?_)
      exact kret_i hx hb hr hlocks hP hD hS h1 dX10_arriveIt_35
  · replace h1 := Ok.pos c9 h1
    refine lv_aload_n hx hb dX10_arriveIt_12 rfl (lv_at hl 0 rfl) ?_
    refine lv_iconst (v := 1) hx hb dX10_arriveIt_13 rfl ?_
    refine kc_iV0 (b := h) (As := [.int 1]) (rest := []) h1 ⟨hx, hb, hml, hown, hts⟩ (cX10_refuseM l D cy h a H.size u 1) (cwV 1 hts gX10_arriveIt_X10_refuse rfl rfl rfl hdX10_refuse ⟨Nat.le_of_ble_eq_true rfl, Nat.le_of_ble_eq_true rfl⟩) hK hP hD hS hA (q0 := 0) rfl rfl rfl hl.1 rfl (Nat.le_of_ble_eq_true rfl) dX10_arriveIt_14 ⟨Nat.zero_le _, Nat.zero_le _⟩ (fun r14 u14 H locs h1 hP hD hS => ?_)
    exact kret_i hx hb hr hlocks hP hD hS h1 dX10_arriveIt_17
def fX10_arriveIt (p1 : Int32) (p2 : Int32) (u : RS) : Option (Int32 × RS) := fX10_arriveIt_b0 p1 p2 u
set_option maxHeartbeats 4000000 in
set_option maxRecDepth 100000 in
theorem cX10_arriveItM (l : Launch) (D : va_G) (cy : Nat → ClassId) (h : Nat) (a : Nat → Nat) (sz : Nat) (u : RS) (p1 : Int32) (p2 : Int32) : ∀ (K : Int32 → RS → Prop), Ok (fX10_arriveIt p1 p2 u) (fun q => K q.1 q.2) → Met l yX10_arriveIt wsX10_arriveIt rmX10_arriveIt (va_Pc [.ref h, .int p1, .int p2] (kPre D cy sz (wM cy h a u))) (va_Qi K (fun q => kPost D (va_A (wM cy h a u) sz) (wM cy h a q)) (va_A (wM cy h a u) sz)) 0 0 (va_A (wM cy h a u) sz) := by
  intro K h1
  refine Met.ofW (cc := cX10_arriveIt) (maxL := 3) (ret := (some .int)) (by decide) rfl ?_
  intro p e s m args below meth c s₁ B hml hv
  obtain ⟨rfl, hsz, hP, hK, hD0⟩ := hv
  subst hsz
  have E : mE D cy RX10 cX10_arriveIt 3 (some .int) wsX10_arriveIt (va_A (wM cy h a u) s.heap.size) p s m _ meth c := ⟨B.exec, B.bytes, B.returns, hml, findClass_of_methodNamed B.named, atoms_spec (ws := wsX10_arriveIt) B.pre, B.notSynchronized, hK, fun q h => Or.inr h⟩
  have hl := lv_entry ([.ref h, .int p1, .int p2]) (n := 3) (Nat.le_of_ble_eq_true rfl)
  rw [lg_entry_eq]
  generalize (lg_sl ([.ref h, .int p1, .int p2]) ++ List.replicate (3 - (lg_sl ([.ref h, .int p1, .int p2])).length) Slot.unset).toArray = ls at hl ⊢
  exact tX10_arriveIt_b0 (fun q => K q.1 q.2) E p1 p2 u _ _ _ hl hP hD0.self va_S.rf h1
-- X10_arrive
theorem inX10_arrive_X10 : ∀ w ∈ u_ws RX10 TX10 23, w ∈ wsX10_arrive := k_lays 44 rfl
theorem lkX10_arrive_48 : Cond.fieldLink RX10 48 "FerryRampModel" "thrown" "I" ∈ wsX10_arrive := List.mem_of_getElem? (i := 1) rfl
theorem heX10_isKind : yX10_isKind.cls ≠ "java/lang/invoke/MethodHandle" ∧ yX10_isKind.cls ≠ "java/lang/invoke/VarHandle" ∧ (parseMethodDescriptor yX10_isKind.desc).map (fun d => d.parameters.length) = some 1 := by decide +kernel
theorem hdX10_arriveIt : yX10_arriveIt.cls = RX10 ∧ yX10_arriveIt.cls ≠ "java/lang/invoke/MethodHandle" ∧ yX10_arriveIt.cls ≠ "java/lang/invoke/VarHandle" ∧ (parseMethodDescriptor yX10_arriveIt.desc).map (fun d => d.parameters.length) = some 2 := by decide +kernel
abbrev rmX10_arrive : Room := { frames := 3, cells := 0, slots := 0, locals := 68 }
def fX10_arrive_b0 (x1 : Int32) (x2 : Int32) (u : RS) : Option (Int32 × RS) :=
  bnd (fX10_isKind x1) (fun r6 => (if r6 = 0 then bnd2 (fX10_fail 1 (nTh u 0)) (fun r14 u14 => some (r14, u14)) else bnd (fX10_isBetween x2 1 999) (fun r23 => (if r23 = 0 then bnd2 (fX10_fail 2 (nTh u 0)) (fun r40 u40 => some (r40, u40)) else bnd2 (fX10_arriveIt x1 x2 (nTh u 0)) (fun r32 u32 => some (r32, u32))))))
set_option maxHeartbeats 4000000 in
set_option maxRecDepth 100000 in
theorem tX10_arrive_b0 {p : Program} {l : Launch} {e : Env} {s : State} {m : MethodId} {args : Array Value} {below : List Frame} {meth : Method} {c : Code} {D : va_G} {cy : Nat → ClassId} {A : Nat → Prop} {h : Nat} {a : Nat → Nat} (K : Int32 × RS → Prop) (E : mE D cy RX10 cX10_arrive 3 (some .int) wsX10_arrive A p s m args meth c)
     (x1 : Int32) (x2 : Int32) (u : RS) (H : Heap) (locs : List Loc) (ls : Array Slot) (hl : lv_has ls 3 [(0, .ref h), (1, .int x1), (2, .int x2)]) (hP : va_P D vwCl (wM cy h a u) H) (hD : va_D A (wM cy h a u)) (hS : va_S A s.heap H locs) (h1 : Ok (fX10_arrive_b0 x1 x2 u) K) :
    kW p l e rmX10_arrive s m args below meth c H locs (va_Qi (fun r q => K (r, q)) (fun q => kPost D A (wM cy h a q)) A) A 0 ls [] := by
  obtain ⟨hx, hb, hr, hml, hown, hts, hlocks, hK, hA⟩ := id E
  unfold fX10_arrive_b0 at h1
  refine lv_aload_n hx hb dX10_arrive_0 rfl (lv_at hl 0 rfl) ?_
  refine lv_iconst (v := 0) hx hb dX10_arrive_1 rfl ?_
  refine k_put (v := .int 0) (ty := .int) (C := RX10) (T := TX10) (N := 23) hx hb hts inX10_arrive_X10 tyX10 tyX10_ok nmX10 hown hK hP hD hS 0 (wM_a0 _ _ _ _) rfl 8 (by decide) lkX10_arrive_48 rfl (by decide +kernel) rfl rfl (Nat.le_of_ble_eq_true rfl) (ws' := wM cy h a (nTh u 0)) (wM_nTh _ _ _ _ _) dX10_arrive_2 (fun H locs hP hD hS => ?_)
  refine lv_iload_n hx hb dX10_arrive_5 rfl (lv_at hl 1 rfl) ?_
  refine kc_rS (As := [.int x1]) (rest := []) (wc := []) (wr := _) h1 ⟨hx, hb, hml, hown, hts⟩ (cX10_isKindM l D cy H.size x1) (va_cwS 1 hts gX10_arrive_X10_isKind rfl rfl rfl heX10_isKind ⟨Nat.le_of_ble_eq_true rfl, Nat.le_of_ble_eq_true rfl⟩) hK (List.Perm.refl _) hP hD hS hA rfl hl.1 rfl (Nat.le_of_ble_eq_true rfl) dX10_arrive_6 ⟨Nat.zero_le _, Nat.zero_le _⟩ (fun r6 H locs h1 hP hS => ?_)
  refine lv_if_ne (tgt := 18) hx hb dX10_arrive_9 (by decide) (fun c9 => ?_) (fun c9 => ?_)
  · replace h1 := Ok.neg c9 h1
    refine lv_iload_n hx hb dX10_arrive_18 rfl (lv_at hl 2 rfl) ?_
    refine lv_iconst (v := 1) hx hb dX10_arrive_19 rfl ?_
    refine lv_sipush (v := 999) hx hb dX10_arrive_20 rfl ?_
    refine kc_rS (As := [.int x2, .int 1, .int 999]) (rest := []) (wc := []) (wr := _) h1 ⟨hx, hb, hml, hown, hts⟩ (cX10_isBetweenM l D cy H.size x2 1 999) (va_cwS 3 hts gX10_arrive_X10_isBetween rfl rfl rfl heX10_isBetween ⟨Nat.le_of_ble_eq_true rfl, Nat.le_of_ble_eq_true rfl⟩) hK (List.Perm.refl _) hP hD hS hA rfl hl.1 rfl (Nat.le_of_ble_eq_true rfl) dX10_arrive_23 ⟨Nat.zero_le _, Nat.zero_le _⟩ (fun r23 H locs h1 hP hS => ?_)
    refine lv_if_eq (tgt := 38) hx hb dX10_arrive_26 (by decide) (fun c26 => ?_) (fun c26 => ?_)
    · replace h1 := Ok.pos c26 h1
      refine lv_aload_n hx hb dX10_arrive_38 rfl (lv_at hl 0 rfl) ?_
      refine lv_iconst (v := 2) hx hb dX10_arrive_39 rfl ?_
      refine kc_iV0 (b := h) (As := [.int 2]) (rest := []) h1 ⟨hx, hb, hml, hown, hts⟩ (cX10_failM l D cy h a H.size (nTh u 0) 2) (cwV 1 hts gX10_arrive_X10_fail rfl rfl rfl hdX10_fail ⟨Nat.le_of_ble_eq_true rfl, Nat.le_of_ble_eq_true rfl⟩) hK hP hD hS hA (q0 := 0) rfl rfl rfl hl.1 rfl (Nat.le_of_ble_eq_true rfl) dX10_arrive_40 ⟨Nat.zero_le _, Nat.zero_le _⟩ (fun r40 u40 H locs h1 hP hD hS => ?_)
      exact kret_i hx hb hr hlocks hP hD hS h1 dX10_arrive_43
    · replace h1 := Ok.neg c26 h1
      refine lv_aload_n hx hb dX10_arrive_29 rfl (lv_at hl 0 rfl) ?_
      refine lv_iload_n hx hb dX10_arrive_30 rfl (lv_at hl 1 rfl) ?_
      refine lv_iload_n hx hb dX10_arrive_31 rfl (lv_at hl 2 rfl) ?_
      refine kc_iV0 (b := h) (As := [.int x1, .int x2]) (rest := []) h1 ⟨hx, hb, hml, hown, hts⟩ (cX10_arriveItM l D cy h a H.size (nTh u 0) x1 x2) (cwV 2 hts gX10_arrive_X10_arriveIt rfl rfl rfl hdX10_arriveIt ⟨Nat.le_of_ble_eq_true rfl, Nat.le_of_ble_eq_true rfl⟩) hK hP hD hS hA (q0 := 0) rfl rfl rfl hl.1 rfl (Nat.le_of_ble_eq_true rfl) dX10_arrive_32 ⟨Nat.zero_le _, Nat.zero_le _⟩ (fun r32 u32 H locs h1 hP hD hS => ?_)
      refine lv_goto (tgt := 43) hx hb dX10_arrive_35 (by decide) ?_
      exact kret_i hx hb hr hlocks hP hD hS h1 dX10_arrive_43
  · replace h1 := Ok.pos c9 h1
    refine lv_aload_n hx hb dX10_arrive_12 rfl (lv_at hl 0 rfl) ?_
    refine lv_iconst (v := 1) hx hb dX10_arrive_13 rfl ?_
    refine kc_iV0 (b := h) (As := [.int 1]) (rest := []) h1 ⟨hx, hb, hml, hown, hts⟩ (cX10_failM l D cy h a H.size (nTh u 0) 1) (cwV 1 hts gX10_arrive_X10_fail rfl rfl rfl hdX10_fail ⟨Nat.le_of_ble_eq_true rfl, Nat.le_of_ble_eq_true rfl⟩) hK hP hD hS hA (q0 := 0) rfl rfl rfl hl.1 rfl (Nat.le_of_ble_eq_true rfl) dX10_arrive_14 ⟨Nat.zero_le _, Nat.zero_le _⟩ (fun r14 u14 H locs h1 hP hD hS => ?_)
    exact kret_i hx hb hr hlocks hP hD hS h1 dX10_arrive_17
def fX10_arrive (p1 : Int32) (p2 : Int32) (u : RS) : Option (Int32 × RS) := fX10_arrive_b0 p1 p2 u
set_option maxHeartbeats 4000000 in
set_option maxRecDepth 100000 in
theorem cX10_arriveM (l : Launch) (D : va_G) (cy : Nat → ClassId) (h : Nat) (a : Nat → Nat) (sz : Nat) (u : RS) (p1 : Int32) (p2 : Int32) : ∀ (K : Int32 → RS → Prop), Ok (fX10_arrive p1 p2 u) (fun q => K q.1 q.2) → Met l yX10_arrive wsX10_arrive rmX10_arrive (va_Pc [.ref h, .int p1, .int p2] (kPre D cy sz (wM cy h a u))) (va_Qi K (fun q => kPost D (va_A (wM cy h a u) sz) (wM cy h a q)) (va_A (wM cy h a u) sz)) 0 0 (va_A (wM cy h a u) sz) := by
  intro K h1
  refine Met.ofW (cc := cX10_arrive) (maxL := 3) (ret := (some .int)) (by decide) rfl ?_
  intro p e s m args below meth c s₁ B hml hv
  obtain ⟨rfl, hsz, hP, hK, hD0⟩ := hv
  subst hsz
  have E : mE D cy RX10 cX10_arrive 3 (some .int) wsX10_arrive (va_A (wM cy h a u) s.heap.size) p s m _ meth c := ⟨B.exec, B.bytes, B.returns, hml, findClass_of_methodNamed B.named, atoms_spec (ws := wsX10_arrive) B.pre, B.notSynchronized, hK, fun q h => Or.inr h⟩
  have hl := lv_entry ([.ref h, .int p1, .int p2]) (n := 3) (Nat.le_of_ble_eq_true rfl)
  rw [lg_entry_eq]
  generalize (lg_sl ([.ref h, .int p1, .int p2]) ++ List.replicate (3 - (lg_sl ([.ref h, .int p1, .int p2])).length) Slot.unset).toArray = ls at hl ⊢
  exact tX10_arrive_b0 (fun q => K q.1 q.2) E p1 p2 u _ _ _ hl hP hD0.self va_S.rf h1
-- X10_waveIt
theorem hdX10_isQueued : yX10_isQueued.cls = RX10 ∧ yX10_isQueued.cls ≠ "java/lang/invoke/MethodHandle" ∧ yX10_isQueued.cls ≠ "java/lang/invoke/VarHandle" ∧ (parseMethodDescriptor yX10_isQueued.desc).map (fun d => d.parameters.length) = some 1 := by decide +kernel
theorem inX10_waveIt_X10 : ∀ w ∈ u_ws RX10 TX10 23, w ∈ wsX10_waveIt := k_lays 44 rfl
theorem lkX10_waveIt_7 : Cond.fieldLink RX10 7 "FerryRampModel" "state" "[I" ∈ wsX10_waveIt := List.mem_of_getElem? (i := 1) rfl
theorem hdX10_moveToFront : yX10_moveToFront.cls = RX10 ∧ yX10_moveToFront.cls ≠ "java/lang/invoke/MethodHandle" ∧ yX10_moveToFront.cls ≠ "java/lang/invoke/VarHandle" ∧ (parseMethodDescriptor yX10_moveToFront.desc).map (fun d => d.parameters.length) = some 1 := by decide +kernel
abbrev rmX10_waveIt : Room := { frames := 3, cells := 0, slots := 0, locals := 64 }
def fX10_waveIt_b0 (x1 : Int32) (u : RS) : Option (Int32 × RS) :=
  bnd (fX10_isQueued x1 (mSt u)) (fun r2 => (if r2 = 0 then bnd2 (fX10_refuse 1 u) (fun r10 u10 => some (r10, u10)) else (if (mSt u 41) = x1 then bnd2 (fX10_refuse 2 u) (fun r27 u27 => some (r27, u27)) else bnd (fX10_remember u) (fun u32 => bnd2 (fX10_moveToFront x1 (mSt u32)) (fun r37 u37 => some (r37, nStA u32 u37))))))
set_option maxHeartbeats 4000000 in
set_option maxRecDepth 100000 in
theorem tX10_waveIt_b0 {p : Program} {l : Launch} {e : Env} {s : State} {m : MethodId} {args : Array Value} {below : List Frame} {meth : Method} {c : Code} {D : va_G} {cy : Nat → ClassId} {A : Nat → Prop} {h : Nat} {a : Nat → Nat} (K : Int32 × RS → Prop) (E : mE D cy RX10 cX10_waveIt 2 (some .int) wsX10_waveIt A p s m args meth c)
     (x1 : Int32) (u : RS) (H : Heap) (locs : List Loc) (ls : Array Slot) (hl : lv_has ls 2 [(0, .ref h), (1, .int x1)]) (hP : va_P D vwCl (wM cy h a u) H) (hD : va_D A (wM cy h a u)) (hS : va_S A s.heap H locs) (h1 : Ok (fX10_waveIt_b0 x1 u) K) :
    kW p l e rmX10_waveIt s m args below meth c H locs (va_Qi (fun r q => K (r, q)) (fun q => kPost D A (wM cy h a q)) A) A 0 ls [] := by
  obtain ⟨hx, hb, hr, hml, hown, hts, hlocks, hK, hA⟩ := id E
  unfold fX10_waveIt_b0 at h1
  refine lv_aload_n hx hb dX10_waveIt_0 rfl (lv_at hl 0 rfl) ?_
  refine lv_iload_n hx hb dX10_waveIt_1 rfl (lv_at hl 1 rfl) ?_
  refine kc_rV (b := h) (As := [.int x1]) (rest := []) h1 ⟨hx, hb, hml, hown, hts⟩ (cX10_isQueuedM l D cy h (a 0) (mRest a u) H.size (mSt u) x1) (cwV 1 hts gX10_waveIt_X10_isQueued rfl rfl rfl hdX10_isQueued ⟨Nat.le_of_ble_eq_true rfl, Nat.le_of_ble_eq_true rfl⟩) hK (wM_split _ _ _ _) hP hD hS hA (q0 := 0) rfl rfl rfl hl.1 rfl (Nat.le_of_ble_eq_true rfl) dX10_waveIt_2 ⟨Nat.zero_le _, Nat.zero_le _⟩ (fun r2 H locs h1 hP hS => ?_)
  refine lv_if_ne (tgt := 14) hx hb dX10_waveIt_5 (by decide) (fun c5 => ?_) (fun c5 => ?_)
  · replace h1 := Ok.neg c5 h1
    refine lv_aload_n hx hb dX10_waveIt_14 rfl (lv_at hl 0 rfl) ?_
    refine k_get (v := .ref (a 0)) (C := RX10) (T := TX10) (N := 23) hx hb hts inX10_waveIt_X10 hown hK hP 0 (wM_a0 _ _ _ _) rfl 0 (by decide) lkX10_waveIt_7 (mFs_0 _ _) dX10_waveIt_15 ?_
    refine lv_bipush (v := 41) hx hb dX10_waveIt_18 rfl ?_
    refine k_iald (k := 41) hx hb hK hP 1 (wM_a1 _ _ _ _) rfl rfl dX10_waveIt_20 ?_
    refine lv_iload_n hx hb dX10_waveIt_21 rfl (lv_at hl 1 rfl) ?_
    refine lv_icmp_ne (tgt := 31) hx hb dX10_waveIt_22 (by decide) (fun c22 => ?_) (fun c22 => ?_)
    · replace h1 := Ok.neg c22 h1
      refine lv_aload_n hx hb dX10_waveIt_31 rfl (lv_at hl 0 rfl) ?_
      refine kc_vV0 (b := h) (As := []) (rest := []) h1 ⟨hx, hb, hml, hown, hts⟩ (cX10_rememberM l D cy h a H.size u) (cwV 0 hts gX10_waveIt_X10_remember rfl rfl rfl hdX10_remember ⟨Nat.le_of_ble_eq_true rfl, Nat.le_of_ble_eq_true rfl⟩) hK hP hD hS hA (q0 := 0) rfl rfl rfl hl.1 rfl (Nat.le_of_ble_eq_true rfl) dX10_waveIt_32 ⟨Nat.zero_le _, Nat.zero_le _⟩ (fun u32 H locs h1 hP hD hS => ?_)
      refine lv_aload_n hx hb dX10_waveIt_35 rfl (lv_at hl 0 rfl) ?_
      refine lv_iload_n hx hb dX10_waveIt_36 rfl (lv_at hl 1 rfl) ?_
      refine kc_iV (b := h) (As := [.int x1]) (rest := []) h1 ⟨hx, hb, hml, hown, hts⟩ (cX10_moveToFrontM l D cy h (a 0) (mRest a u32) H.size (mSt u32) x1) (cwV 1 hts gX10_waveIt_X10_moveToFront rfl rfl rfl hdX10_moveToFront ⟨Nat.le_of_ble_eq_true rfl, Nat.le_of_ble_eq_true rfl⟩) hK (wM_split _ _ _ _) hP hD hS hA (q0 := 0) rfl rfl rfl hl.1 rfl (Nat.le_of_ble_eq_true rfl) dX10_waveIt_37 ⟨Nat.zero_le _, Nat.zero_le _⟩ (fun r37 u37 H locs h1 hP hD hS => ?_)
      rw [wM_back] at hP hD
      exact kret_i hx hb hr hlocks hP hD hS h1 dX10_waveIt_40
    · replace h1 := Ok.pos c22 h1
      refine lv_aload_n hx hb dX10_waveIt_25 rfl (lv_at hl 0 rfl) ?_
      refine lv_iconst (v := 2) hx hb dX10_waveIt_26 rfl ?_
      refine kc_iV0 (b := h) (As := [.int 2]) (rest := []) h1 ⟨hx, hb, hml, hown, hts⟩ (cX10_refuseM l D cy h a H.size u 2) (cwV 1 hts gX10_waveIt_X10_refuse rfl rfl rfl hdX10_refuse ⟨Nat.le_of_ble_eq_true rfl, Nat.le_of_ble_eq_true rfl⟩) hK hP hD hS hA (q0 := 0) rfl rfl rfl hl.1 rfl (Nat.le_of_ble_eq_true rfl) dX10_waveIt_27 ⟨Nat.zero_le _, Nat.zero_le _⟩ (fun r27 u27 H locs h1 hP hD hS => ?_)
      exact kret_i hx hb hr hlocks hP hD hS h1 dX10_waveIt_30
  · replace h1 := Ok.pos c5 h1
    refine lv_aload_n hx hb dX10_waveIt_8 rfl (lv_at hl 0 rfl) ?_
    refine lv_iconst (v := 1) hx hb dX10_waveIt_9 rfl ?_
    refine kc_iV0 (b := h) (As := [.int 1]) (rest := []) h1 ⟨hx, hb, hml, hown, hts⟩ (cX10_refuseM l D cy h a H.size u 1) (cwV 1 hts gX10_waveIt_X10_refuse rfl rfl rfl hdX10_refuse ⟨Nat.le_of_ble_eq_true rfl, Nat.le_of_ble_eq_true rfl⟩) hK hP hD hS hA (q0 := 0) rfl rfl rfl hl.1 rfl (Nat.le_of_ble_eq_true rfl) dX10_waveIt_10 ⟨Nat.zero_le _, Nat.zero_le _⟩ (fun r10 u10 H locs h1 hP hD hS => ?_)
    exact kret_i hx hb hr hlocks hP hD hS h1 dX10_waveIt_13
def fX10_waveIt (p1 : Int32) (u : RS) : Option (Int32 × RS) := fX10_waveIt_b0 p1 u
set_option maxHeartbeats 4000000 in
set_option maxRecDepth 100000 in
theorem cX10_waveItM (l : Launch) (D : va_G) (cy : Nat → ClassId) (h : Nat) (a : Nat → Nat) (sz : Nat) (u : RS) (p1 : Int32) : ∀ (K : Int32 → RS → Prop), Ok (fX10_waveIt p1 u) (fun q => K q.1 q.2) → Met l yX10_waveIt wsX10_waveIt rmX10_waveIt (va_Pc [.ref h, .int p1] (kPre D cy sz (wM cy h a u))) (va_Qi K (fun q => kPost D (va_A (wM cy h a u) sz) (wM cy h a q)) (va_A (wM cy h a u) sz)) 0 0 (va_A (wM cy h a u) sz) := by
  intro K h1
  refine Met.ofW (cc := cX10_waveIt) (maxL := 2) (ret := (some .int)) (by decide) rfl ?_
  intro p e s m args below meth c s₁ B hml hv
  obtain ⟨rfl, hsz, hP, hK, hD0⟩ := hv
  subst hsz
  have E : mE D cy RX10 cX10_waveIt 2 (some .int) wsX10_waveIt (va_A (wM cy h a u) s.heap.size) p s m _ meth c := ⟨B.exec, B.bytes, B.returns, hml, findClass_of_methodNamed B.named, atoms_spec (ws := wsX10_waveIt) B.pre, B.notSynchronized, hK, fun q h => Or.inr h⟩
  have hl := lv_entry ([.ref h, .int p1]) (n := 2) (Nat.le_of_ble_eq_true rfl)
  rw [lg_entry_eq]
  generalize (lg_sl ([.ref h, .int p1]) ++ List.replicate (2 - (lg_sl ([.ref h, .int p1])).length) Slot.unset).toArray = ls at hl ⊢
  exact tX10_waveIt_b0 (fun q => K q.1 q.2) E p1 u _ _ _ hl hP hD0.self va_S.rf h1
-- X10_wave
theorem inX10_wave_X10 : ∀ w ∈ u_ws RX10 TX10 23, w ∈ wsX10_wave := k_lays 53 rfl
theorem lkX10_wave_48 : Cond.fieldLink RX10 48 "FerryRampModel" "thrown" "I" ∈ wsX10_wave := List.mem_of_getElem? (i := 1) rfl
theorem hdX10_waveIt : yX10_waveIt.cls = RX10 ∧ yX10_waveIt.cls ≠ "java/lang/invoke/MethodHandle" ∧ yX10_waveIt.cls ≠ "java/lang/invoke/VarHandle" ∧ (parseMethodDescriptor yX10_waveIt.desc).map (fun d => d.parameters.length) = some 1 := by decide +kernel
abbrev rmX10_wave : Room := { frames := 4, cells := 0, slots := 0, locals := 85 }
def fX10_wave_b0 (x1 : Int32) (u : RS) : Option (Int32 × RS) :=
  bnd (fX10_isBetween x1 0 59) (fun r9 => (if r9 = 0 then bnd2 (fX10_fail 1 (nTh u 0)) (fun r25 u25 => some (r25, u25)) else bnd2 (fX10_waveIt x1 (nTh u 0)) (fun r17 u17 => some (r17, u17))))
set_option maxHeartbeats 4000000 in
set_option maxRecDepth 100000 in
theorem tX10_wave_b0 {p : Program} {l : Launch} {e : Env} {s : State} {m : MethodId} {args : Array Value} {below : List Frame} {meth : Method} {c : Code} {D : va_G} {cy : Nat → ClassId} {A : Nat → Prop} {h : Nat} {a : Nat → Nat} (K : Int32 × RS → Prop) (E : mE D cy RX10 cX10_wave 2 (some .int) wsX10_wave A p s m args meth c)
     (x1 : Int32) (u : RS) (H : Heap) (locs : List Loc) (ls : Array Slot) (hl : lv_has ls 2 [(0, .ref h), (1, .int x1)]) (hP : va_P D vwCl (wM cy h a u) H) (hD : va_D A (wM cy h a u)) (hS : va_S A s.heap H locs) (h1 : Ok (fX10_wave_b0 x1 u) K) :
    kW p l e rmX10_wave s m args below meth c H locs (va_Qi (fun r q => K (r, q)) (fun q => kPost D A (wM cy h a q)) A) A 0 ls [] := by
  obtain ⟨hx, hb, hr, hml, hown, hts, hlocks, hK, hA⟩ := id E
  unfold fX10_wave_b0 at h1
  refine lv_aload_n hx hb dX10_wave_0 rfl (lv_at hl 0 rfl) ?_
  refine lv_iconst (v := 0) hx hb dX10_wave_1 rfl ?_
  refine k_put (v := .int 0) (ty := .int) (C := RX10) (T := TX10) (N := 23) hx hb hts inX10_wave_X10 tyX10 tyX10_ok nmX10 hown hK hP hD hS 0 (wM_a0 _ _ _ _) rfl 8 (by decide) lkX10_wave_48 rfl (by decide +kernel) rfl rfl (Nat.le_of_ble_eq_true rfl) (ws' := wM cy h a (nTh u 0)) (wM_nTh _ _ _ _ _) dX10_wave_2 (fun H locs hP hD hS => ?_)
  refine lv_iload_n hx hb dX10_wave_5 rfl (lv_at hl 1 rfl) ?_
  refine lv_iconst (v := 0) hx hb dX10_wave_6 rfl ?_
  refine lv_bipush (v := 59) hx hb dX10_wave_7 rfl ?_
  refine kc_rS (As := [.int x1, .int 0, .int 59]) (rest := []) (wc := []) (wr := _) h1 ⟨hx, hb, hml, hown, hts⟩ (cX10_isBetweenM l D cy H.size x1 0 59) (va_cwS 3 hts gX10_wave_X10_isBetween rfl rfl rfl heX10_isBetween ⟨Nat.le_of_ble_eq_true rfl, Nat.le_of_ble_eq_true rfl⟩) hK (List.Perm.refl _) hP hD hS hA rfl hl.1 rfl (Nat.le_of_ble_eq_true rfl) dX10_wave_9 ⟨Nat.zero_le _, Nat.zero_le _⟩ (fun r9 H locs h1 hP hS => ?_)
  refine lv_if_eq (tgt := 23) hx hb dX10_wave_12 (by decide) (fun c12 => ?_) (fun c12 => ?_)
  · replace h1 := Ok.pos c12 h1
    refine lv_aload_n hx hb dX10_wave_23 rfl (lv_at hl 0 rfl) ?_
    refine lv_iconst (v := 1) hx hb dX10_wave_24 rfl ?_
    refine kc_iV0 (b := h) (As := [.int 1]) (rest := []) h1 ⟨hx, hb, hml, hown, hts⟩ (cX10_failM l D cy h a H.size (nTh u 0) 1) (cwV 1 hts gX10_wave_X10_fail rfl rfl rfl hdX10_fail ⟨Nat.le_of_ble_eq_true rfl, Nat.le_of_ble_eq_true rfl⟩) hK hP hD hS hA (q0 := 0) rfl rfl rfl hl.1 rfl (Nat.le_of_ble_eq_true rfl) dX10_wave_25 ⟨Nat.zero_le _, Nat.zero_le _⟩ (fun r25 u25 H locs h1 hP hD hS => ?_)
    exact kret_i hx hb hr hlocks hP hD hS h1 dX10_wave_28
  · replace h1 := Ok.neg c12 h1
    refine lv_aload_n hx hb dX10_wave_15 rfl (lv_at hl 0 rfl) ?_
    refine lv_iload_n hx hb dX10_wave_16 rfl (lv_at hl 1 rfl) ?_
    refine kc_iV0 (b := h) (As := [.int x1]) (rest := []) h1 ⟨hx, hb, hml, hown, hts⟩ (cX10_waveItM l D cy h a H.size (nTh u 0) x1) (cwV 1 hts gX10_wave_X10_waveIt rfl rfl rfl hdX10_waveIt ⟨Nat.le_of_ble_eq_true rfl, Nat.le_of_ble_eq_true rfl⟩) hK hP hD hS hA (q0 := 0) rfl rfl rfl hl.1 rfl (Nat.le_of_ble_eq_true rfl) dX10_wave_17 ⟨Nat.zero_le _, Nat.zero_le _⟩ (fun r17 u17 H locs h1 hP hD hS => ?_)
    refine lv_goto (tgt := 28) hx hb dX10_wave_20 (by decide) ?_
    exact kret_i hx hb hr hlocks hP hD hS h1 dX10_wave_28
def fX10_wave (p1 : Int32) (u : RS) : Option (Int32 × RS) := fX10_wave_b0 p1 u
set_option maxHeartbeats 4000000 in
set_option maxRecDepth 100000 in
theorem cX10_waveM (l : Launch) (D : va_G) (cy : Nat → ClassId) (h : Nat) (a : Nat → Nat) (sz : Nat) (u : RS) (p1 : Int32) : ∀ (K : Int32 → RS → Prop), Ok (fX10_wave p1 u) (fun q => K q.1 q.2) → Met l yX10_wave wsX10_wave rmX10_wave (va_Pc [.ref h, .int p1] (kPre D cy sz (wM cy h a u))) (va_Qi K (fun q => kPost D (va_A (wM cy h a u) sz) (wM cy h a q)) (va_A (wM cy h a u) sz)) 0 0 (va_A (wM cy h a u) sz) := by
  intro K h1
  refine Met.ofW (cc := cX10_wave) (maxL := 2) (ret := (some .int)) (by decide) rfl ?_
  intro p e s m args below meth c s₁ B hml hv
  obtain ⟨rfl, hsz, hP, hK, hD0⟩ := hv
  subst hsz
  have E : mE D cy RX10 cX10_wave 2 (some .int) wsX10_wave (va_A (wM cy h a u) s.heap.size) p s m _ meth c := ⟨B.exec, B.bytes, B.returns, hml, findClass_of_methodNamed B.named, atoms_spec (ws := wsX10_wave) B.pre, B.notSynchronized, hK, fun q h => Or.inr h⟩
  have hl := lv_entry ([.ref h, .int p1]) (n := 2) (Nat.le_of_ble_eq_true rfl)
  rw [lg_entry_eq]
  generalize (lg_sl ([.ref h, .int p1]) ++ List.replicate (2 - (lg_sl ([.ref h, .int p1])).length) Slot.unset).toArray = ls at hl ⊢
  exact tX10_wave_b0 (fun q => K q.1 q.2) E p1 u _ _ _ hl hP hD0.self va_S.rf h1
-- X10_dismissIt
theorem inX10_dismissIt_X10 : ∀ w ∈ u_ws RX10 TX10 23, w ∈ wsX10_dismissIt := k_lays 48 rfl
theorem lkX10_dismissIt_7 : Cond.fieldLink RX10 7 "FerryRampModel" "state" "[I" ∈ wsX10_dismissIt := List.mem_of_getElem? (i := 1) rfl
abbrev rmX10_dismissIt : Room := { frames := 3, cells := 0, slots := 0, locals := 64 }
def fX10_dismissIt_b0 (x1 : Int32) (u : RS) : Option (Int32 × RS) :=
  bnd (fX10_isQueued x1 (mSt u)) (fun r2 => (if r2 = 0 then bnd2 (fX10_refuse 1 u) (fun r10 u10 => some (r10, u10)) else bnd (fX10_remember u) (fun u15 => bnd (fX10_leaveQueue x1 (mSt u15)) (fun u20 => bnd (fX10_layCar x1 2 4 (mSt (nStA u15 u20))) (fun u27 => some (mSt (nStA (nStA u15 u20) u27) 14, nStA (nStA u15 u20) u27))))))
set_option maxHeartbeats 4000000 in
set_option maxRecDepth 100000 in
theorem tX10_dismissIt_b0 {p : Program} {l : Launch} {e : Env} {s : State} {m : MethodId} {args : Array Value} {below : List Frame} {meth : Method} {c : Code} {D : va_G} {cy : Nat → ClassId} {A : Nat → Prop} {h : Nat} {a : Nat → Nat} (K : Int32 × RS → Prop) (E : mE D cy RX10 cX10_dismissIt 2 (some .int) wsX10_dismissIt A p s m args meth c)
     (x1 : Int32) (u : RS) (H : Heap) (locs : List Loc) (ls : Array Slot) (hl : lv_has ls 2 [(0, .ref h), (1, .int x1)]) (hP : va_P D vwCl (wM cy h a u) H) (hD : va_D A (wM cy h a u)) (hS : va_S A s.heap H locs) (h1 : Ok (fX10_dismissIt_b0 x1 u) K) :
    kW p l e rmX10_dismissIt s m args below meth c H locs (va_Qi (fun r q => K (r, q)) (fun q => kPost D A (wM cy h a q)) A) A 0 ls [] := by
  obtain ⟨hx, hb, hr, hml, hown, hts, hlocks, hK, hA⟩ := id E
  unfold fX10_dismissIt_b0 at h1
  refine lv_aload_n hx hb dX10_dismissIt_0 rfl (lv_at hl 0 rfl) ?_
  refine lv_iload_n hx hb dX10_dismissIt_1 rfl (lv_at hl 1 rfl) ?_
  refine kc_rV (b := h) (As := [.int x1]) (rest := []) h1 ⟨hx, hb, hml, hown, hts⟩ (cX10_isQueuedM l D cy h (a 0) (mRest a u) H.size (mSt u) x1) (cwV 1 hts gX10_dismissIt_X10_isQueued rfl rfl rfl hdX10_isQueued ⟨Nat.le_of_ble_eq_true rfl, Nat.le_of_ble_eq_true rfl⟩) hK (wM_split _ _ _ _) hP hD hS hA (q0 := 0) rfl rfl rfl hl.1 rfl (Nat.le_of_ble_eq_true rfl) dX10_dismissIt_2 ⟨Nat.zero_le _, Nat.zero_le _⟩ (fun r2 H locs h1 hP hS => ?_)
  refine lv_if_ne (tgt := 14) hx hb dX10_dismissIt_5 (by decide) (fun c5 => ?_) (fun c5 => ?_)
  · replace h1 := Ok.neg c5 h1
    refine lv_aload_n hx hb dX10_dismissIt_14 rfl (lv_at hl 0 rfl) ?_
    refine kc_vV0 (b := h) (As := []) (rest := []) h1 ⟨hx, hb, hml, hown, hts⟩ (cX10_rememberM l D cy h a H.size u) (cwV 0 hts gX10_dismissIt_X10_remember rfl rfl rfl hdX10_remember ⟨Nat.le_of_ble_eq_true rfl, Nat.le_of_ble_eq_true rfl⟩) hK hP hD hS hA (q0 := 0) rfl rfl rfl hl.1 rfl (Nat.le_of_ble_eq_true rfl) dX10_dismissIt_15 ⟨Nat.zero_le _, Nat.zero_le _⟩ (fun u15 H locs h1 hP hD hS => ?_)
    refine lv_aload_n hx hb dX10_dismissIt_18 rfl (lv_at hl 0 rfl) ?_
    refine lv_iload_n hx hb dX10_dismissIt_19 rfl (lv_at hl 1 rfl) ?_
    refine kc_vV (b := h) (As := [.int x1]) (rest := []) h1 ⟨hx, hb, hml, hown, hts⟩ (cX10_leaveQueueM l D cy h (a 0) (mRest a u15) H.size (mSt u15) x1) (cwV 1 hts gX10_dismissIt_X10_leaveQueue rfl rfl rfl hdX10_leaveQueue ⟨Nat.le_of_ble_eq_true rfl, Nat.le_of_ble_eq_true rfl⟩) hK (wM_split _ _ _ _) hP hD hS hA (q0 := 0) rfl rfl rfl hl.1 rfl (Nat.le_of_ble_eq_true rfl) dX10_dismissIt_20 ⟨Nat.zero_le _, Nat.zero_le _⟩ (fun u20 H locs h1 hP hD hS => ?_)
    rw [wM_back] at hP hD
    refine lv_aload_n hx hb dX10_dismissIt_23 rfl (lv_at hl 0 rfl) ?_
    refine lv_iload_n hx hb dX10_dismissIt_24 rfl (lv_at hl 1 rfl) ?_
    refine lv_iconst (v := 2) hx hb dX10_dismissIt_25 rfl ?_
    refine lv_iconst (v := 4) hx hb dX10_dismissIt_26 rfl ?_
    refine kc_vV (b := h) (As := [.int x1, .int 2, .int 4]) (rest := []) h1 ⟨hx, hb, hml, hown, hts⟩ (cX10_layCarM l D cy h (a 0) (mRest a (nStA u15 u20)) H.size (mSt (nStA u15 u20)) x1 2 4) (cwV 3 hts gX10_dismissIt_X10_layCar rfl rfl rfl hdX10_layCar ⟨Nat.le_of_ble_eq_true rfl, Nat.le_of_ble_eq_true rfl⟩) hK (wM_split _ _ _ _) hP hD hS hA (q0 := 0) rfl rfl rfl hl.1 rfl (Nat.le_of_ble_eq_true rfl) dX10_dismissIt_27 ⟨Nat.zero_le _, Nat.zero_le _⟩ (fun u27 H locs h1 hP hD hS => ?_)
    rw [wM_back] at hP hD
    refine lv_aload_n hx hb dX10_dismissIt_30 rfl (lv_at hl 0 rfl) ?_
    refine k_get (v := .ref (a 0)) (C := RX10) (T := TX10) (N := 23) hx hb hts inX10_dismissIt_X10 hown hK hP 0 (wM_a0 _ _ _ _) rfl 0 (by decide) lkX10_dismissIt_7 (mFs_0 _ _) dX10_dismissIt_31 ?_
    refine lv_bipush (v := 14) hx hb dX10_dismissIt_34 rfl ?_
    refine k_iald (k := 14) hx hb hK hP 1 (wM_a1 _ _ _ _) rfl rfl dX10_dismissIt_36 ?_
    exact kret_i hx hb hr hlocks hP hD hS h1 dX10_dismissIt_37
  · replace h1 := Ok.pos c5 h1
    refine lv_aload_n hx hb dX10_dismissIt_8 rfl (lv_at hl 0 rfl) ?_
    refine lv_iconst (v := 1) hx hb dX10_dismissIt_9 rfl ?_
    refine kc_iV0 (b := h) (As := [.int 1]) (rest := []) h1 ⟨hx, hb, hml, hown, hts⟩ (cX10_refuseM l D cy h a H.size u 1) (cwV 1 hts gX10_dismissIt_X10_refuse rfl rfl rfl hdX10_refuse ⟨Nat.le_of_ble_eq_true rfl, Nat.le_of_ble_eq_true rfl⟩) hK hP hD hS hA (q0 := 0) rfl rfl rfl hl.1 rfl (Nat.le_of_ble_eq_true rfl) dX10_dismissIt_10 ⟨Nat.zero_le _, Nat.zero_le _⟩ (fun r10 u10 H locs h1 hP hD hS => ?_)
    exact kret_i hx hb hr hlocks hP hD hS h1 dX10_dismissIt_13
def fX10_dismissIt (p1 : Int32) (u : RS) : Option (Int32 × RS) := fX10_dismissIt_b0 p1 u
set_option maxHeartbeats 4000000 in
set_option maxRecDepth 100000 in
theorem cX10_dismissItM (l : Launch) (D : va_G) (cy : Nat → ClassId) (h : Nat) (a : Nat → Nat) (sz : Nat) (u : RS) (p1 : Int32) : ∀ (K : Int32 → RS → Prop), Ok (fX10_dismissIt p1 u) (fun q => K q.1 q.2) → Met l yX10_dismissIt wsX10_dismissIt rmX10_dismissIt (va_Pc [.ref h, .int p1] (kPre D cy sz (wM cy h a u))) (va_Qi K (fun q => kPost D (va_A (wM cy h a u) sz) (wM cy h a q)) (va_A (wM cy h a u) sz)) 0 0 (va_A (wM cy h a u) sz) := by
  intro K h1
  refine Met.ofW (cc := cX10_dismissIt) (maxL := 2) (ret := (some .int)) (by decide) rfl ?_
  intro p e s m args below meth c s₁ B hml hv
  obtain ⟨rfl, hsz, hP, hK, hD0⟩ := hv
  subst hsz
  have E : mE D cy RX10 cX10_dismissIt 2 (some .int) wsX10_dismissIt (va_A (wM cy h a u) s.heap.size) p s m _ meth c := ⟨B.exec, B.bytes, B.returns, hml, findClass_of_methodNamed B.named, atoms_spec (ws := wsX10_dismissIt) B.pre, B.notSynchronized, hK, fun q h => Or.inr h⟩
  have hl := lv_entry ([.ref h, .int p1]) (n := 2) (Nat.le_of_ble_eq_true rfl)
  rw [lg_entry_eq]
  generalize (lg_sl ([.ref h, .int p1]) ++ List.replicate (2 - (lg_sl ([.ref h, .int p1])).length) Slot.unset).toArray = ls at hl ⊢
  exact tX10_dismissIt_b0 (fun q => K q.1 q.2) E p1 u _ _ _ hl hP hD0.self va_S.rf h1
-- X10_dismiss
theorem inX10_dismiss_X10 : ∀ w ∈ u_ws RX10 TX10 23, w ∈ wsX10_dismiss := k_lays 57 rfl
theorem lkX10_dismiss_48 : Cond.fieldLink RX10 48 "FerryRampModel" "thrown" "I" ∈ wsX10_dismiss := List.mem_of_getElem? (i := 1) rfl
theorem hdX10_dismissIt : yX10_dismissIt.cls = RX10 ∧ yX10_dismissIt.cls ≠ "java/lang/invoke/MethodHandle" ∧ yX10_dismissIt.cls ≠ "java/lang/invoke/VarHandle" ∧ (parseMethodDescriptor yX10_dismissIt.desc).map (fun d => d.parameters.length) = some 1 := by decide +kernel
abbrev rmX10_dismiss : Room := { frames := 4, cells := 0, slots := 0, locals := 85 }
def fX10_dismiss_b0 (x1 : Int32) (u : RS) : Option (Int32 × RS) :=
  bnd (fX10_isBetween x1 0 59) (fun r9 => (if r9 = 0 then bnd2 (fX10_fail 1 (nTh u 0)) (fun r25 u25 => some (r25, u25)) else bnd2 (fX10_dismissIt x1 (nTh u 0)) (fun r17 u17 => some (r17, u17))))
set_option maxHeartbeats 4000000 in
set_option maxRecDepth 100000 in
theorem tX10_dismiss_b0 {p : Program} {l : Launch} {e : Env} {s : State} {m : MethodId} {args : Array Value} {below : List Frame} {meth : Method} {c : Code} {D : va_G} {cy : Nat → ClassId} {A : Nat → Prop} {h : Nat} {a : Nat → Nat} (K : Int32 × RS → Prop) (E : mE D cy RX10 cX10_dismiss 2 (some .int) wsX10_dismiss A p s m args meth c)
     (x1 : Int32) (u : RS) (H : Heap) (locs : List Loc) (ls : Array Slot) (hl : lv_has ls 2 [(0, .ref h), (1, .int x1)]) (hP : va_P D vwCl (wM cy h a u) H) (hD : va_D A (wM cy h a u)) (hS : va_S A s.heap H locs) (h1 : Ok (fX10_dismiss_b0 x1 u) K) :
    kW p l e rmX10_dismiss s m args below meth c H locs (va_Qi (fun r q => K (r, q)) (fun q => kPost D A (wM cy h a q)) A) A 0 ls [] := by
  obtain ⟨hx, hb, hr, hml, hown, hts, hlocks, hK, hA⟩ := id E
  unfold fX10_dismiss_b0 at h1
  refine lv_aload_n hx hb dX10_dismiss_0 rfl (lv_at hl 0 rfl) ?_
  refine lv_iconst (v := 0) hx hb dX10_dismiss_1 rfl ?_
  refine k_put (v := .int 0) (ty := .int) (C := RX10) (T := TX10) (N := 23) hx hb hts inX10_dismiss_X10 tyX10 tyX10_ok nmX10 hown hK hP hD hS 0 (wM_a0 _ _ _ _) rfl 8 (by decide) lkX10_dismiss_48 rfl (by decide +kernel) rfl rfl (Nat.le_of_ble_eq_true rfl) (ws' := wM cy h a (nTh u 0)) (wM_nTh _ _ _ _ _) dX10_dismiss_2 (fun H locs hP hD hS => ?_)
  refine lv_iload_n hx hb dX10_dismiss_5 rfl (lv_at hl 1 rfl) ?_
  refine lv_iconst (v := 0) hx hb dX10_dismiss_6 rfl ?_
  refine lv_bipush (v := 59) hx hb dX10_dismiss_7 rfl ?_
  refine kc_rS (As := [.int x1, .int 0, .int 59]) (rest := []) (wc := []) (wr := _) h1 ⟨hx, hb, hml, hown, hts⟩ (cX10_isBetweenM l D cy H.size x1 0 59) (va_cwS 3 hts gX10_dismiss_X10_isBetween rfl rfl rfl heX10_isBetween ⟨Nat.le_of_ble_eq_true rfl, Nat.le_of_ble_eq_true rfl⟩) hK (List.Perm.refl _) hP hD hS hA rfl hl.1 rfl (Nat.le_of_ble_eq_true rfl) dX10_dismiss_9 ⟨Nat.zero_le _, Nat.zero_le _⟩ (fun r9 H locs h1 hP hS => ?_)
  refine lv_if_eq (tgt := 23) hx hb dX10_dismiss_12 (by decide) (fun c12 => ?_) (fun c12 => ?_)
  · replace h1 := Ok.pos c12 h1
    refine lv_aload_n hx hb dX10_dismiss_23 rfl (lv_at hl 0 rfl) ?_
    refine lv_iconst (v := 1) hx hb dX10_dismiss_24 rfl ?_
    refine kc_iV0 (b := h) (As := [.int 1]) (rest := []) h1 ⟨hx, hb, hml, hown, hts⟩ (cX10_failM l D cy h a H.size (nTh u 0) 1) (cwV 1 hts gX10_dismiss_X10_fail rfl rfl rfl hdX10_fail ⟨Nat.le_of_ble_eq_true rfl, Nat.le_of_ble_eq_true rfl⟩) hK hP hD hS hA (q0 := 0) rfl rfl rfl hl.1 rfl (Nat.le_of_ble_eq_true rfl) dX10_dismiss_25 ⟨Nat.zero_le _, Nat.zero_le _⟩ (fun r25 u25 H locs h1 hP hD hS => ?_)
    exact kret_i hx hb hr hlocks hP hD hS h1 dX10_dismiss_28
  · replace h1 := Ok.neg c12 h1
    refine lv_aload_n hx hb dX10_dismiss_15 rfl (lv_at hl 0 rfl) ?_
    refine lv_iload_n hx hb dX10_dismiss_16 rfl (lv_at hl 1 rfl) ?_
    refine kc_iV0 (b := h) (As := [.int x1]) (rest := []) h1 ⟨hx, hb, hml, hown, hts⟩ (cX10_dismissItM l D cy h a H.size (nTh u 0) x1) (cwV 1 hts gX10_dismiss_X10_dismissIt rfl rfl rfl hdX10_dismissIt ⟨Nat.le_of_ble_eq_true rfl, Nat.le_of_ble_eq_true rfl⟩) hK hP hD hS hA (q0 := 0) rfl rfl rfl hl.1 rfl (Nat.le_of_ble_eq_true rfl) dX10_dismiss_17 ⟨Nat.zero_le _, Nat.zero_le _⟩ (fun r17 u17 H locs h1 hP hD hS => ?_)
    refine lv_goto (tgt := 28) hx hb dX10_dismiss_20 (by decide) ?_
    exact kret_i hx hb hr hlocks hP hD hS h1 dX10_dismiss_28
def fX10_dismiss (p1 : Int32) (u : RS) : Option (Int32 × RS) := fX10_dismiss_b0 p1 u
set_option maxHeartbeats 4000000 in
set_option maxRecDepth 100000 in
theorem cX10_dismissM (l : Launch) (D : va_G) (cy : Nat → ClassId) (h : Nat) (a : Nat → Nat) (sz : Nat) (u : RS) (p1 : Int32) : ∀ (K : Int32 → RS → Prop), Ok (fX10_dismiss p1 u) (fun q => K q.1 q.2) → Met l yX10_dismiss wsX10_dismiss rmX10_dismiss (va_Pc [.ref h, .int p1] (kPre D cy sz (wM cy h a u))) (va_Qi K (fun q => kPost D (va_A (wM cy h a u) sz) (wM cy h a q)) (va_A (wM cy h a u) sz)) 0 0 (va_A (wM cy h a u) sz) := by
  intro K h1
  refine Met.ofW (cc := cX10_dismiss) (maxL := 2) (ret := (some .int)) (by decide) rfl ?_
  intro p e s m args below meth c s₁ B hml hv
  obtain ⟨rfl, hsz, hP, hK, hD0⟩ := hv
  subst hsz
  have E : mE D cy RX10 cX10_dismiss 2 (some .int) wsX10_dismiss (va_A (wM cy h a u) s.heap.size) p s m _ meth c := ⟨B.exec, B.bytes, B.returns, hml, findClass_of_methodNamed B.named, atoms_spec (ws := wsX10_dismiss) B.pre, B.notSynchronized, hK, fun q h => Or.inr h⟩
  have hl := lv_entry ([.ref h, .int p1]) (n := 2) (Nat.le_of_ble_eq_true rfl)
  rw [lg_entry_eq]
  generalize (lg_sl ([.ref h, .int p1]) ++ List.replicate (2 - (lg_sl ([.ref h, .int p1])).length) Slot.unset).toArray = ls at hl ⊢
  exact tX10_dismiss_b0 (fun q => K q.1 q.2) E p1 u _ _ _ hl hP hD0.self va_S.rf h1
-- X10_unloadIt
theorem hdX10_standingMany : yX10_standingMany.cls = RX10 ∧ yX10_standingMany.cls ≠ "java/lang/invoke/MethodHandle" ∧ yX10_standingMany.cls ≠ "java/lang/invoke/VarHandle" ∧ (parseMethodDescriptor yX10_standingMany.desc).map (fun d => d.parameters.length) = some 1 := by decide +kernel
theorem hdX10_standingAt : yX10_standingAt.cls = RX10 ∧ yX10_standingAt.cls ≠ "java/lang/invoke/MethodHandle" ∧ yX10_standingAt.cls ≠ "java/lang/invoke/VarHandle" ∧ (parseMethodDescriptor yX10_standingAt.desc).map (fun d => d.parameters.length) = some 2 := by decide +kernel
theorem inX10_unloadIt_X10 : ∀ w ∈ u_ws RX10 TX10 23, w ∈ wsX10_unloadIt := k_lays 73 rfl
theorem lkX10_unloadIt_7 : Cond.fieldLink RX10 7 "FerryRampModel" "state" "[I" ∈ wsX10_unloadIt := List.mem_of_getElem? (i := 1) rfl
abbrev rmX10_unloadIt : Room := { frames := 4, cells := 0, slots := 0, locals := 85 }
def fX10_unloadIt_b0 (x1 : Int32) (u : RS) : Option (Int32 × RS) :=
  bnd (fX10_standingMany x1 (mSt u)) (fun r4 => bnd (fX10_standingAt x1 (r4 - 1) (mSt u)) (fun r9 => (if r9 = (-1) then bnd2 (fX10_refuse 1 u) (fun r20 u20 => some (r20, u20)) else (if (mSt u 4) = (-1) then bnd (fX10_slopeNow (mSt u)) (fun r41 => bnd (fX10_kindOf r9 0 (mSt u)) (fun r47 => (if r41 ≤ r47 then bnd (fX10_lipNow (mSt u)) (fun r60 => bnd (fX10_kindOf r9 1 (mSt u)) (fun r66 => (if r60 ≤ r66 then bnd (fX10_remember u) (fun u79 => bnd (fX10_layCar r9 2 3 (mSt u79)) (fun u86 => some (r9, nSt (nStA u79 u86) 10 ((mSt (nStA u79 u86) 10) + 1)))) else bnd2 (fX10_refuse 4 u) (fun r74 u74 => some (r74, u74))))) else bnd2 (fX10_refuse 3 u) (fun r55 u55 => some (r55, u55))))) else bnd2 (fX10_refuse 2 u) (fun r36 u36 => some (r36, u36))))))
set_option maxHeartbeats 4000000 in
set_option maxRecDepth 100000 in
theorem tX10_unloadIt_b0 {p : Program} {l : Launch} {e : Env} {s : State} {m : MethodId} {args : Array Value} {below : List Frame} {meth : Method} {c : Code} {D : va_G} {cy : Nat → ClassId} {A : Nat → Prop} {h : Nat} {a : Nat → Nat} (K : Int32 × RS → Prop) (E : mE D cy RX10 cX10_unloadIt 3 (some .int) wsX10_unloadIt A p s m args meth c)
     (x1 : Int32) (u : RS) (H : Heap) (locs : List Loc) (ls : Array Slot) (hl : lv_has ls 3 [(0, .ref h), (1, .int x1)]) (hP : va_P D vwCl (wM cy h a u) H) (hD : va_D A (wM cy h a u)) (hS : va_S A s.heap H locs) (h1 : Ok (fX10_unloadIt_b0 x1 u) K) :
    kW p l e rmX10_unloadIt s m args below meth c H locs (va_Qi (fun r q => K (r, q)) (fun q => kPost D A (wM cy h a q)) A) A 0 ls [] := by
  obtain ⟨hx, hb, hr, hml, hown, hts, hlocks, hK, hA⟩ := id E
  unfold fX10_unloadIt_b0 at h1
  refine lv_aload_n hx hb dX10_unloadIt_0 rfl (lv_at hl 0 rfl) ?_
  refine lv_iload_n hx hb dX10_unloadIt_1 rfl (lv_at hl 1 rfl) ?_
  refine lv_aload_n hx hb dX10_unloadIt_2 rfl (lv_at hl 0 rfl) ?_
  refine lv_iload_n hx hb dX10_unloadIt_3 rfl (lv_at hl 1 rfl) ?_
  refine kc_rV (b := h) (As := [.int x1]) (rest := [.int x1, .ref h]) h1 ⟨hx, hb, hml, hown, hts⟩ (cX10_standingManyM l D cy h (a 0) (mRest a u) H.size (mSt u) x1) (cwV 1 hts gX10_unloadIt_X10_standingMany rfl rfl rfl hdX10_standingMany ⟨Nat.le_of_ble_eq_true rfl, Nat.le_of_ble_eq_true rfl⟩) hK (wM_split _ _ _ _) hP hD hS hA (q0 := 0) rfl rfl rfl hl.1 rfl (Nat.le_of_ble_eq_true rfl) dX10_unloadIt_4 ⟨Nat.zero_le _, Nat.zero_le _⟩ (fun r4 H locs h1 hP hS => ?_)
  refine lv_iconst (v := 1) hx hb dX10_unloadIt_7 rfl ?_
  refine lv_isub hx hb dX10_unloadIt_8 ?_
  refine kc_rV (b := h) (As := [.int x1, .int (r4 - 1)]) (rest := []) h1 ⟨hx, hb, hml, hown, hts⟩ (cX10_standingAtM l D cy h (a 0) (mRest a u) H.size (mSt u) x1 (r4 - 1)) (cwV 2 hts gX10_unloadIt_X10_standingAt rfl rfl rfl hdX10_standingAt ⟨Nat.le_of_ble_eq_true rfl, Nat.le_of_ble_eq_true rfl⟩) hK (wM_split _ _ _ _) hP hD hS hA (q0 := 0) rfl rfl rfl hl.1 rfl (Nat.le_of_ble_eq_true rfl) dX10_unloadIt_9 ⟨Nat.zero_le _, Nat.zero_le _⟩ (fun r9 H locs h1 hP hS => ?_)
  refine lv_istore_n (lv' := [(2, .int r9), (0, .ref h), (1, .int x1)]) hx hb dX10_unloadIt_12 rfl hl (by decide) rfl (fun ls hl => ?_)
  refine lv_iload_n hx hb dX10_unloadIt_13 rfl (lv_at hl 0 rfl) ?_
  refine lv_iconst (v := (-1)) hx hb dX10_unloadIt_14 rfl ?_
  refine lv_icmp_ne (tgt := 24) hx hb dX10_unloadIt_15 (by decide) (fun c15 => ?_) (fun c15 => ?_)
  · replace h1 := Ok.neg c15 h1
    refine lv_aload_n hx hb dX10_unloadIt_24 rfl (lv_at hl 1 rfl) ?_
    refine k_get (v := .ref (a 0)) (C := RX10) (T := TX10) (N := 23) hx hb hts inX10_unloadIt_X10 hown hK hP 0 (wM_a0 _ _ _ _) rfl 0 (by decide) lkX10_unloadIt_7 (mFs_0 _ _) dX10_unloadIt_25 ?_
    refine lv_iconst (v := 4) hx hb dX10_unloadIt_28 rfl ?_
    refine k_iald (k := 4) hx hb hK hP 1 (wM_a1 _ _ _ _) rfl rfl dX10_unloadIt_29 ?_
    refine lv_iconst (v := (-1)) hx hb dX10_unloadIt_30 rfl ?_
    refine lv_icmp_eq (tgt := 40) hx hb dX10_unloadIt_31 (by decide) (fun c31 => ?_) (fun c31 => ?_)
    · replace h1 := Ok.pos c31 h1
      refine lv_aload_n hx hb dX10_unloadIt_40 rfl (lv_at hl 1 rfl) ?_
      refine kc_rV (b := h) (As := []) (rest := []) h1 ⟨hx, hb, hml, hown, hts⟩ (cX10_slopeNowM l D cy h (a 0) (mRest a u) H.size (mSt u)) (cwV 0 hts gX10_unloadIt_X10_slopeNow rfl rfl rfl hdX10_slopeNow ⟨Nat.le_of_ble_eq_true rfl, Nat.le_of_ble_eq_true rfl⟩) hK (wM_split _ _ _ _) hP hD hS hA (q0 := 0) rfl rfl rfl hl.1 rfl (Nat.le_of_ble_eq_true rfl) dX10_unloadIt_41 ⟨Nat.zero_le _, Nat.zero_le _⟩ (fun r41 H locs h1 hP hS => ?_)
      refine lv_aload_n hx hb dX10_unloadIt_44 rfl (lv_at hl 1 rfl) ?_
      refine lv_iload_n hx hb dX10_unloadIt_45 rfl (lv_at hl 0 rfl) ?_
      refine lv_iconst (v := 0) hx hb dX10_unloadIt_46 rfl ?_
      refine kc_rV (b := h) (As := [.int r9, .int 0]) (rest := [.int r41]) h1 ⟨hx, hb, hml, hown, hts⟩ (cX10_kindOfM l D cy h (a 0) (mRest a u) H.size (mSt u) r9 0) (cwV 2 hts gX10_unloadIt_X10_kindOf rfl rfl rfl hdX10_kindOf ⟨Nat.le_of_ble_eq_true rfl, Nat.le_of_ble_eq_true rfl⟩) hK (wM_split _ _ _ _) hP hD hS hA (q0 := 0) rfl rfl rfl hl.1 rfl (Nat.le_of_ble_eq_true rfl) dX10_unloadIt_47 ⟨Nat.zero_le _, Nat.zero_le _⟩ (fun r47 H locs h1 hP hS => ?_)
      refine lv_icmp_le (tgt := 59) hx hb dX10_unloadIt_50 (by decide) (fun c50 => ?_) (fun c50 => ?_)
      · replace h1 := Ok.pos c50 h1
        refine lv_aload_n hx hb dX10_unloadIt_59 rfl (lv_at hl 1 rfl) ?_
        refine kc_rV (b := h) (As := []) (rest := []) h1 ⟨hx, hb, hml, hown, hts⟩ (cX10_lipNowM l D cy h (a 0) (mRest a u) H.size (mSt u)) (cwV 0 hts gX10_unloadIt_X10_lipNow rfl rfl rfl hdX10_lipNow ⟨Nat.le_of_ble_eq_true rfl, Nat.le_of_ble_eq_true rfl⟩) hK (wM_split _ _ _ _) hP hD hS hA (q0 := 0) rfl rfl rfl hl.1 rfl (Nat.le_of_ble_eq_true rfl) dX10_unloadIt_60 ⟨Nat.zero_le _, Nat.zero_le _⟩ (fun r60 H locs h1 hP hS => ?_)
        refine lv_aload_n hx hb dX10_unloadIt_63 rfl (lv_at hl 1 rfl) ?_
        refine lv_iload_n hx hb dX10_unloadIt_64 rfl (lv_at hl 0 rfl) ?_
        refine lv_iconst (v := 1) hx hb dX10_unloadIt_65 rfl ?_
        refine kc_rV (b := h) (As := [.int r9, .int 1]) (rest := [.int r60]) h1 ⟨hx, hb, hml, hown, hts⟩ (cX10_kindOfM l D cy h (a 0) (mRest a u) H.size (mSt u) r9 1) (cwV 2 hts gX10_unloadIt_X10_kindOf rfl rfl rfl hdX10_kindOf ⟨Nat.le_of_ble_eq_true rfl, Nat.le_of_ble_eq_true rfl⟩) hK (wM_split _ _ _ _) hP hD hS hA (q0 := 0) rfl rfl rfl hl.1 rfl (Nat.le_of_ble_eq_true rfl) dX10_unloadIt_66 ⟨Nat.zero_le _, Nat.zero_le _⟩ (fun r66 H locs h1 hP hS => ?_)
        refine lv_icmp_le (tgt := 78) hx hb dX10_unloadIt_69 (by decide) (fun c69 => ?_) (fun c69 => ?_)
        · replace h1 := Ok.pos c69 h1
          refine lv_aload_n hx hb dX10_unloadIt_78 rfl (lv_at hl 1 rfl) ?_
          refine kc_vV0 (b := h) (As := []) (rest := []) h1 ⟨hx, hb, hml, hown, hts⟩ (cX10_rememberM l D cy h a H.size u) (cwV 0 hts gX10_unloadIt_X10_remember rfl rfl rfl hdX10_remember ⟨Nat.le_of_ble_eq_true rfl, Nat.le_of_ble_eq_true rfl⟩) hK hP hD hS hA (q0 := 0) rfl rfl rfl hl.1 rfl (Nat.le_of_ble_eq_true rfl) dX10_unloadIt_79 ⟨Nat.zero_le _, Nat.zero_le _⟩ (fun u79 H locs h1 hP hD hS => ?_)
          refine lv_aload_n hx hb dX10_unloadIt_82 rfl (lv_at hl 1 rfl) ?_
          refine lv_iload_n hx hb dX10_unloadIt_83 rfl (lv_at hl 0 rfl) ?_
          refine lv_iconst (v := 2) hx hb dX10_unloadIt_84 rfl ?_
          refine lv_iconst (v := 3) hx hb dX10_unloadIt_85 rfl ?_
          refine kc_vV (b := h) (As := [.int r9, .int 2, .int 3]) (rest := []) h1 ⟨hx, hb, hml, hown, hts⟩ (cX10_layCarM l D cy h (a 0) (mRest a u79) H.size (mSt u79) r9 2 3) (cwV 3 hts gX10_unloadIt_X10_layCar rfl rfl rfl hdX10_layCar ⟨Nat.le_of_ble_eq_true rfl, Nat.le_of_ble_eq_true rfl⟩) hK (wM_split _ _ _ _) hP hD hS hA (q0 := 0) rfl rfl rfl hl.1 rfl (Nat.le_of_ble_eq_true rfl) dX10_unloadIt_86 ⟨Nat.zero_le _, Nat.zero_le _⟩ (fun u86 H locs h1 hP hD hS => ?_)
          rw [wM_back] at hP hD
          refine lv_aload_n hx hb dX10_unloadIt_89 rfl (lv_at hl 1 rfl) ?_
          refine k_get (v := .ref (a 0)) (C := RX10) (T := TX10) (N := 23) hx hb hts inX10_unloadIt_X10 hown hK hP 0 (wM_a0 _ _ _ _) rfl 0 (by decide) lkX10_unloadIt_7 (mFs_0 _ _) dX10_unloadIt_90 ?_
          refine lv_bipush (v := 10) hx hb dX10_unloadIt_93 rfl ?_
          refine lv_dup2_11 hx hb dX10_unloadIt_95 rfl rfl ?_
          refine k_iald (k := 10) hx hb hK hP 1 (wM_a1 _ _ _ _) rfl rfl dX10_unloadIt_96 ?_
          refine lv_iconst (v := 1) hx hb dX10_unloadIt_97 rfl ?_
          refine lv_iadd hx hb dX10_unloadIt_98 ?_
          refine k_iast (k := 10) (ws' := wM cy h a (nSt (nStA u79 u86) 10 ((mSt (nStA u79 u86) 10) + 1))) hx hb hK hP hD hS 1 (wM_a1 _ _ _ _) rfl rfl (wM_nSt _ _ _ _ _ _) dX10_unloadIt_99 (fun H locs hP hD hS => ?_)
          refine lv_iload_n hx hb dX10_unloadIt_100 rfl (lv_at hl 0 rfl) ?_
          exact kret_i hx hb hr hlocks hP hD hS h1 dX10_unloadIt_101
        · replace h1 := Ok.neg c69 h1
          refine lv_aload_n hx hb dX10_unloadIt_72 rfl (lv_at hl 1 rfl) ?_
          refine lv_iconst (v := 4) hx hb dX10_unloadIt_73 rfl ?_
          refine kc_iV0 (b := h) (As := [.int 4]) (rest := []) h1 ⟨hx, hb, hml, hown, hts⟩ (cX10_refuseM l D cy h a H.size u 4) (cwV 1 hts gX10_unloadIt_X10_refuse rfl rfl rfl hdX10_refuse ⟨Nat.le_of_ble_eq_true rfl, Nat.le_of_ble_eq_true rfl⟩) hK hP hD hS hA (q0 := 0) rfl rfl rfl hl.1 rfl (Nat.le_of_ble_eq_true rfl) dX10_unloadIt_74 ⟨Nat.zero_le _, Nat.zero_le _⟩ (fun r74 u74 H locs h1 hP hD hS => ?_)
          exact kret_i hx hb hr hlocks hP hD hS h1 dX10_unloadIt_77
      · replace h1 := Ok.neg c50 h1
        refine lv_aload_n hx hb dX10_unloadIt_53 rfl (lv_at hl 1 rfl) ?_
        refine lv_iconst (v := 3) hx hb dX10_unloadIt_54 rfl ?_
        refine kc_iV0 (b := h) (As := [.int 3]) (rest := []) h1 ⟨hx, hb, hml, hown, hts⟩ (cX10_refuseM l D cy h a H.size u 3) (cwV 1 hts gX10_unloadIt_X10_refuse rfl rfl rfl hdX10_refuse ⟨Nat.le_of_ble_eq_true rfl, Nat.le_of_ble_eq_true rfl⟩) hK hP hD hS hA (q0 := 0) rfl rfl rfl hl.1 rfl (Nat.le_of_ble_eq_true rfl) dX10_unloadIt_55 ⟨Nat.zero_le _, Nat.zero_le _⟩ (fun r55 u55 H locs h1 hP hD hS => ?_)
        exact kret_i hx hb hr hlocks hP hD hS h1 dX10_unloadIt_58
    · replace h1 := Ok.neg c31 h1
      refine lv_aload_n hx hb dX10_unloadIt_34 rfl (lv_at hl 1 rfl) ?_
      refine lv_iconst (v := 2) hx hb dX10_unloadIt_35 rfl ?_
      refine kc_iV0 (b := h) (As := [.int 2]) (rest := []) h1 ⟨hx, hb, hml, hown, hts⟩ (cX10_refuseM l D cy h a H.size u 2) (cwV 1 hts gX10_unloadIt_X10_refuse rfl rfl rfl hdX10_refuse ⟨Nat.le_of_ble_eq_true rfl, Nat.le_of_ble_eq_true rfl⟩) hK hP hD hS hA (q0 := 0) rfl rfl rfl hl.1 rfl (Nat.le_of_ble_eq_true rfl) dX10_unloadIt_36 ⟨Nat.zero_le _, Nat.zero_le _⟩ (fun r36 u36 H locs h1 hP hD hS => ?_)
      exact kret_i hx hb hr hlocks hP hD hS h1 dX10_unloadIt_39
  · replace h1 := Ok.pos c15 h1
    refine lv_aload_n hx hb dX10_unloadIt_18 rfl (lv_at hl 1 rfl) ?_
    refine lv_iconst (v := 1) hx hb dX10_unloadIt_19 rfl ?_
    refine kc_iV0 (b := h) (As := [.int 1]) (rest := []) h1 ⟨hx, hb, hml, hown, hts⟩ (cX10_refuseM l D cy h a H.size u 1) (cwV 1 hts gX10_unloadIt_X10_refuse rfl rfl rfl hdX10_refuse ⟨Nat.le_of_ble_eq_true rfl, Nat.le_of_ble_eq_true rfl⟩) hK hP hD hS hA (q0 := 0) rfl rfl rfl hl.1 rfl (Nat.le_of_ble_eq_true rfl) dX10_unloadIt_20 ⟨Nat.zero_le _, Nat.zero_le _⟩ (fun r20 u20 H locs h1 hP hD hS => ?_)
    exact kret_i hx hb hr hlocks hP hD hS h1 dX10_unloadIt_23
def fX10_unloadIt (p1 : Int32) (u : RS) : Option (Int32 × RS) := fX10_unloadIt_b0 p1 u
set_option maxHeartbeats 4000000 in
set_option maxRecDepth 100000 in
theorem cX10_unloadItM (l : Launch) (D : va_G) (cy : Nat → ClassId) (h : Nat) (a : Nat → Nat) (sz : Nat) (u : RS) (p1 : Int32) : ∀ (K : Int32 → RS → Prop), Ok (fX10_unloadIt p1 u) (fun q => K q.1 q.2) → Met l yX10_unloadIt wsX10_unloadIt rmX10_unloadIt (va_Pc [.ref h, .int p1] (kPre D cy sz (wM cy h a u))) (va_Qi K (fun q => kPost D (va_A (wM cy h a u) sz) (wM cy h a q)) (va_A (wM cy h a u) sz)) 0 0 (va_A (wM cy h a u) sz) := by
  intro K h1
  refine Met.ofW (cc := cX10_unloadIt) (maxL := 3) (ret := (some .int)) (by decide) rfl ?_
  intro p e s m args below meth c s₁ B hml hv
  obtain ⟨rfl, hsz, hP, hK, hD0⟩ := hv
  subst hsz
  have E : mE D cy RX10 cX10_unloadIt 3 (some .int) wsX10_unloadIt (va_A (wM cy h a u) s.heap.size) p s m _ meth c := ⟨B.exec, B.bytes, B.returns, hml, findClass_of_methodNamed B.named, atoms_spec (ws := wsX10_unloadIt) B.pre, B.notSynchronized, hK, fun q h => Or.inr h⟩
  have hl := lv_entry ([.ref h, .int p1]) (n := 3) (Nat.le_of_ble_eq_true rfl)
  rw [lg_entry_eq]
  generalize (lg_sl ([.ref h, .int p1]) ++ List.replicate (3 - (lg_sl ([.ref h, .int p1])).length) Slot.unset).toArray = ls at hl ⊢
  exact tX10_unloadIt_b0 (fun q => K q.1 q.2) E p1 u _ _ _ hl hP hD0.self va_S.rf h1
-- X10_unload
theorem inX10_unload_X10 : ∀ w ∈ u_ws RX10 TX10 23, w ∈ wsX10_unload := k_lays 88 rfl
theorem lkX10_unload_48 : Cond.fieldLink RX10 48 "FerryRampModel" "thrown" "I" ∈ wsX10_unload := List.mem_of_getElem? (i := 1) rfl
theorem heX10_isLane : yX10_isLane.cls ≠ "java/lang/invoke/MethodHandle" ∧ yX10_isLane.cls ≠ "java/lang/invoke/VarHandle" ∧ (parseMethodDescriptor yX10_isLane.desc).map (fun d => d.parameters.length) = some 1 := by decide +kernel
theorem hdX10_unloadIt : yX10_unloadIt.cls = RX10 ∧ yX10_unloadIt.cls ≠ "java/lang/invoke/MethodHandle" ∧ yX10_unloadIt.cls ≠ "java/lang/invoke/VarHandle" ∧ (parseMethodDescriptor yX10_unloadIt.desc).map (fun d => d.parameters.length) = some 1 := by decide +kernel
abbrev rmX10_unload : Room := { frames := 5, cells := 0, slots := 0, locals := 107 }
def fX10_unload_b0 (x1 : Int32) (u : RS) : Option (Int32 × RS) :=
  bnd (fX10_isLane x1) (fun r6 => (if r6 = 0 then bnd2 (fX10_fail 1 (nTh u 0)) (fun r22 u22 => some (r22, u22)) else bnd2 (fX10_unloadIt x1 (nTh u 0)) (fun r14 u14 => some (r14, u14))))
set_option maxHeartbeats 4000000 in
set_option maxRecDepth 100000 in
theorem tX10_unload_b0 {p : Program} {l : Launch} {e : Env} {s : State} {m : MethodId} {args : Array Value} {below : List Frame} {meth : Method} {c : Code} {D : va_G} {cy : Nat → ClassId} {A : Nat → Prop} {h : Nat} {a : Nat → Nat} (K : Int32 × RS → Prop) (E : mE D cy RX10 cX10_unload 2 (some .int) wsX10_unload A p s m args meth c)
     (x1 : Int32) (u : RS) (H : Heap) (locs : List Loc) (ls : Array Slot) (hl : lv_has ls 2 [(0, .ref h), (1, .int x1)]) (hP : va_P D vwCl (wM cy h a u) H) (hD : va_D A (wM cy h a u)) (hS : va_S A s.heap H locs) (h1 : Ok (fX10_unload_b0 x1 u) K) :
    kW p l e rmX10_unload s m args below meth c H locs (va_Qi (fun r q => K (r, q)) (fun q => kPost D A (wM cy h a q)) A) A 0 ls [] := by
  obtain ⟨hx, hb, hr, hml, hown, hts, hlocks, hK, hA⟩ := id E
  unfold fX10_unload_b0 at h1
  refine lv_aload_n hx hb dX10_unload_0 rfl (lv_at hl 0 rfl) ?_
  refine lv_iconst (v := 0) hx hb dX10_unload_1 rfl ?_
  refine k_put (v := .int 0) (ty := .int) (C := RX10) (T := TX10) (N := 23) hx hb hts inX10_unload_X10 tyX10 tyX10_ok nmX10 hown hK hP hD hS 0 (wM_a0 _ _ _ _) rfl 8 (by decide) lkX10_unload_48 rfl (by decide +kernel) rfl rfl (Nat.le_of_ble_eq_true rfl) (ws' := wM cy h a (nTh u 0)) (wM_nTh _ _ _ _ _) dX10_unload_2 (fun H locs hP hD hS => ?_)
  refine lv_iload_n hx hb dX10_unload_5 rfl (lv_at hl 1 rfl) ?_
  refine kc_rS (As := [.int x1]) (rest := []) (wc := []) (wr := _) h1 ⟨hx, hb, hml, hown, hts⟩ (cX10_isLaneM l D cy H.size x1) (va_cwS 1 hts gX10_unload_X10_isLane rfl rfl rfl heX10_isLane ⟨Nat.le_of_ble_eq_true rfl, Nat.le_of_ble_eq_true rfl⟩) hK (List.Perm.refl _) hP hD hS hA rfl hl.1 rfl (Nat.le_of_ble_eq_true rfl) dX10_unload_6 ⟨Nat.zero_le _, Nat.zero_le _⟩ (fun r6 H locs h1 hP hS => ?_)
  refine lv_if_eq (tgt := 20) hx hb dX10_unload_9 (by decide) (fun c9 => ?_) (fun c9 => ?_)
  · replace h1 := Ok.pos c9 h1
    refine lv_aload_n hx hb dX10_unload_20 rfl (lv_at hl 0 rfl) ?_
    refine lv_iconst (v := 1) hx hb dX10_unload_21 rfl ?_
    refine kc_iV0 (b := h) (As := [.int 1]) (rest := []) h1 ⟨hx, hb, hml, hown, hts⟩ (cX10_failM l D cy h a H.size (nTh u 0) 1) (cwV 1 hts gX10_unload_X10_fail rfl rfl rfl hdX10_fail ⟨Nat.le_of_ble_eq_true rfl, Nat.le_of_ble_eq_true rfl⟩) hK hP hD hS hA (q0 := 0) rfl rfl rfl hl.1 rfl (Nat.le_of_ble_eq_true rfl) dX10_unload_22 ⟨Nat.zero_le _, Nat.zero_le _⟩ (fun r22 u22 H locs h1 hP hD hS => ?_)
    exact kret_i hx hb hr hlocks hP hD hS h1 dX10_unload_25
  · replace h1 := Ok.neg c9 h1
    refine lv_aload_n hx hb dX10_unload_12 rfl (lv_at hl 0 rfl) ?_
    refine lv_iload_n hx hb dX10_unload_13 rfl (lv_at hl 1 rfl) ?_
    refine kc_iV0 (b := h) (As := [.int x1]) (rest := []) h1 ⟨hx, hb, hml, hown, hts⟩ (cX10_unloadItM l D cy h a H.size (nTh u 0) x1) (cwV 1 hts gX10_unload_X10_unloadIt rfl rfl rfl hdX10_unloadIt ⟨Nat.le_of_ble_eq_true rfl, Nat.le_of_ble_eq_true rfl⟩) hK hP hD hS hA (q0 := 0) rfl rfl rfl hl.1 rfl (Nat.le_of_ble_eq_true rfl) dX10_unload_14 ⟨Nat.zero_le _, Nat.zero_le _⟩ (fun r14 u14 H locs h1 hP hD hS => ?_)
    refine lv_goto (tgt := 25) hx hb dX10_unload_17 (by decide) ?_
    exact kret_i hx hb hr hlocks hP hD hS h1 dX10_unload_25
def fX10_unload (p1 : Int32) (u : RS) : Option (Int32 × RS) := fX10_unload_b0 p1 u
set_option maxHeartbeats 4000000 in
set_option maxRecDepth 100000 in
theorem cX10_unloadM (l : Launch) (D : va_G) (cy : Nat → ClassId) (h : Nat) (a : Nat → Nat) (sz : Nat) (u : RS) (p1 : Int32) : ∀ (K : Int32 → RS → Prop), Ok (fX10_unload p1 u) (fun q => K q.1 q.2) → Met l yX10_unload wsX10_unload rmX10_unload (va_Pc [.ref h, .int p1] (kPre D cy sz (wM cy h a u))) (va_Qi K (fun q => kPost D (va_A (wM cy h a u) sz) (wM cy h a q)) (va_A (wM cy h a u) sz)) 0 0 (va_A (wM cy h a u) sz) := by
  intro K h1
  refine Met.ofW (cc := cX10_unload) (maxL := 2) (ret := (some .int)) (by decide) rfl ?_
  intro p e s m args below meth c s₁ B hml hv
  obtain ⟨rfl, hsz, hP, hK, hD0⟩ := hv
  subst hsz
  have E : mE D cy RX10 cX10_unload 2 (some .int) wsX10_unload (va_A (wM cy h a u) s.heap.size) p s m _ meth c := ⟨B.exec, B.bytes, B.returns, hml, findClass_of_methodNamed B.named, atoms_spec (ws := wsX10_unload) B.pre, B.notSynchronized, hK, fun q h => Or.inr h⟩
  have hl := lv_entry ([.ref h, .int p1]) (n := 2) (Nat.le_of_ble_eq_true rfl)
  rw [lg_entry_eq]
  generalize (lg_sl ([.ref h, .int p1]) ++ List.replicate (2 - (lg_sl ([.ref h, .int p1])).length) Slot.unset).toArray = ls at hl ⊢
  exact tX10_unload_b0 (fun q => K q.1 q.2) E p1 u _ _ _ hl hP hD0.self va_S.rf h1
-- X10_gateIt
theorem inX10_gateIt_X10 : ∀ w ∈ u_ws RX10 TX10 23, w ∈ wsX10_gateIt := k_lays 21 rfl
theorem lkX10_gateIt_7 : Cond.fieldLink RX10 7 "FerryRampModel" "state" "[I" ∈ wsX10_gateIt := List.mem_of_getElem? (i := 1) rfl
abbrev rmX10_gateIt : Room := { frames := 2, cells := 0, slots := 0, locals := 44 }
def fX10_gateIt_b16 (x1 : Int32) (s0 : Int32) (u : RS) : Option (Int32 × RS) :=
  (if s0 = x1 then bnd2 (fX10_refuse 1 u) (fun r22 u22 => some (r22, u22)) else bnd (fX10_remember u) (fun u27 => (if x1 = 0 then some (0, nSt u27 12 0) else some (0, nSt u27 12 1))))
set_option maxHeartbeats 4000000 in
set_option maxRecDepth 100000 in
theorem tX10_gateIt_b16 {p : Program} {l : Launch} {e : Env} {s : State} {m : MethodId} {args : Array Value} {below : List Frame} {meth : Method} {c : Code} {D : va_G} {cy : Nat → ClassId} {A : Nat → Prop} {h : Nat} {a : Nat → Nat} (K : Int32 × RS → Prop) (E : mE D cy RX10 cX10_gateIt 2 (some .int) wsX10_gateIt A p s m args meth c)
     (x1 : Int32) (s0 : Int32) (u : RS) (H : Heap) (locs : List Loc) (ls : Array Slot) (hl : lv_has ls 2 [(0, .ref h), (1, .int x1)]) (hP : va_P D vwCl (wM cy h a u) H) (hD : va_D A (wM cy h a u)) (hS : va_S A s.heap H locs) (h1 : Ok (fX10_gateIt_b16 x1 s0 u) K) :
    kW p l e rmX10_gateIt s m args below meth c H locs (va_Qi (fun r q => K (r, q)) (fun q => kPost D A (wM cy h a q)) A) A 16 ls [.int s0] := by
  obtain ⟨hx, hb, hr, hml, hown, hts, hlocks, hK, hA⟩ := id E
  unfold fX10_gateIt_b16 at h1
  refine lv_iload_n hx hb dX10_gateIt_16 rfl (lv_at hl 1 rfl) ?_
  refine lv_icmp_ne (tgt := 26) hx hb dX10_gateIt_17 (by decide) (fun c17 => ?_) (fun c17 => ?_)
  · replace h1 := Ok.neg c17 h1
    refine lv_aload_n hx hb dX10_gateIt_26 rfl (lv_at hl 0 rfl) ?_
    refine kc_vV0 (b := h) (As := []) (rest := []) h1 ⟨hx, hb, hml, hown, hts⟩ (cX10_rememberM l D cy h a H.size u) (cwV 0 hts gX10_gateIt_X10_remember rfl rfl rfl hdX10_remember ⟨Nat.le_of_ble_eq_true rfl, Nat.le_of_ble_eq_true rfl⟩) hK hP hD hS hA (q0 := 0) rfl rfl rfl hl.1 rfl (Nat.le_of_ble_eq_true rfl) dX10_gateIt_27 ⟨Nat.zero_le _, Nat.zero_le _⟩ (fun u27 H locs h1 hP hD hS => ?_)
    refine lv_aload_n hx hb dX10_gateIt_30 rfl (lv_at hl 0 rfl) ?_
    refine k_get (v := .ref (a 0)) (C := RX10) (T := TX10) (N := 23) hx hb hts inX10_gateIt_X10 hown hK hP 0 (wM_a0 _ _ _ _) rfl 0 (by decide) lkX10_gateIt_7 (mFs_0 _ _) dX10_gateIt_31 ?_
    refine lv_bipush (v := 12) hx hb dX10_gateIt_34 rfl ?_
    refine lv_iload_n hx hb dX10_gateIt_36 rfl (lv_at hl 1 rfl) ?_
    refine lv_if_eq (tgt := 44) hx hb dX10_gateIt_37 (by decide) (fun c37 => ?_) (fun c37 => ?_)
    · replace h1 := Ok.pos c37 h1
      refine lv_iconst (v := 0) hx hb dX10_gateIt_44 rfl ?_
      refine k_iast (k := 12) (ws' := wM cy h a (nSt u27 12 0)) hx hb hK hP hD hS 1 (wM_a1 _ _ _ _) rfl rfl (wM_nSt _ _ _ _ _ _) dX10_gateIt_45 (fun H locs hP hD hS => ?_)
      refine lv_iconst (v := 0) hx hb dX10_gateIt_46 rfl ?_
      exact kret_i hx hb hr hlocks hP hD hS h1 dX10_gateIt_47
    · replace h1 := Ok.neg c37 h1
      refine lv_iconst (v := 1) hx hb dX10_gateIt_40 rfl ?_
      refine lv_goto (tgt := 45) hx hb dX10_gateIt_41 (by decide) ?_
      refine k_iast (k := 12) (ws' := wM cy h a (nSt u27 12 1)) hx hb hK hP hD hS 1 (wM_a1 _ _ _ _) rfl rfl (wM_nSt _ _ _ _ _ _) dX10_gateIt_45 (fun H locs hP hD hS => ?_)
      refine lv_iconst (v := 0) hx hb dX10_gateIt_46 rfl ?_
      exact kret_i hx hb hr hlocks hP hD hS h1 dX10_gateIt_47
  · replace h1 := Ok.pos c17 h1
    refine lv_aload_n hx hb dX10_gateIt_20 rfl (lv_at hl 0 rfl) ?_
    refine lv_iconst (v := 1) hx hb dX10_gateIt_21 rfl ?_
    refine kc_iV0 (b := h) (As := [.int 1]) (rest := []) h1 ⟨hx, hb, hml, hown, hts⟩ (cX10_refuseM l D cy h a H.size u 1) (cwV 1 hts gX10_gateIt_X10_refuse rfl rfl rfl hdX10_refuse ⟨Nat.le_of_ble_eq_true rfl, Nat.le_of_ble_eq_true rfl⟩) hK hP hD hS hA (q0 := 0) rfl rfl rfl hl.1 rfl (Nat.le_of_ble_eq_true rfl) dX10_gateIt_22 ⟨Nat.zero_le _, Nat.zero_le _⟩ (fun r22 u22 H locs h1 hP hD hS => ?_)
    exact kret_i hx hb hr hlocks hP hD hS h1 dX10_gateIt_25
def fX10_gateIt_b0 (x1 : Int32) (u : RS) : Option (Int32 × RS) :=
  (if (mSt u 12) = 1 then fX10_gateIt_b16 x1 1 u else fX10_gateIt_b16 x1 0 u)
set_option maxHeartbeats 4000000 in
set_option maxRecDepth 100000 in
theorem tX10_gateIt_b0 {p : Program} {l : Launch} {e : Env} {s : State} {m : MethodId} {args : Array Value} {below : List Frame} {meth : Method} {c : Code} {D : va_G} {cy : Nat → ClassId} {A : Nat → Prop} {h : Nat} {a : Nat → Nat} (K : Int32 × RS → Prop) (E : mE D cy RX10 cX10_gateIt 2 (some .int) wsX10_gateIt A p s m args meth c)
     (x1 : Int32) (u : RS) (H : Heap) (locs : List Loc) (ls : Array Slot) (hl : lv_has ls 2 [(0, .ref h), (1, .int x1)]) (hP : va_P D vwCl (wM cy h a u) H) (hD : va_D A (wM cy h a u)) (hS : va_S A s.heap H locs) (h1 : Ok (fX10_gateIt_b0 x1 u) K) :
    kW p l e rmX10_gateIt s m args below meth c H locs (va_Qi (fun r q => K (r, q)) (fun q => kPost D A (wM cy h a q)) A) A 0 ls [] := by
  obtain ⟨hx, hb, hr, hml, hown, hts, hlocks, hK, hA⟩ := id E
  unfold fX10_gateIt_b0 at h1
  refine lv_aload_n hx hb dX10_gateIt_0 rfl (lv_at hl 0 rfl) ?_
  refine k_get (v := .ref (a 0)) (C := RX10) (T := TX10) (N := 23) hx hb hts inX10_gateIt_X10 hown hK hP 0 (wM_a0 _ _ _ _) rfl 0 (by decide) lkX10_gateIt_7 (mFs_0 _ _) dX10_gateIt_1 ?_
  refine lv_bipush (v := 12) hx hb dX10_gateIt_4 rfl ?_
  refine k_iald (k := 12) hx hb hK hP 1 (wM_a1 _ _ _ _) rfl rfl dX10_gateIt_6 ?_
  refine lv_iconst (v := 1) hx hb dX10_gateIt_7 rfl ?_
  refine lv_icmp_ne (tgt := 15) hx hb dX10_gateIt_8 (by decide) (fun c8 => ?_) (fun c8 => ?_)
  · replace h1 := Ok.neg c8 h1
    refine lv_iconst (v := 0) hx hb dX10_gateIt_15 rfl ?_
    exact tX10_gateIt_b16 K E x1 0 u H locs ls (lv_sub hl [0, 1] rfl) hP hD hS h1
  · replace h1 := Ok.pos c8 h1
    refine lv_iconst (v := 1) hx hb dX10_gateIt_11 rfl ?_
    refine lv_goto (tgt := 16) hx hb dX10_gateIt_12 (by decide) ?_
    exact tX10_gateIt_b16 K E x1 1 u H locs ls (lv_sub hl [0, 1] rfl) hP hD hS h1
def fX10_gateIt (p1 : Int32) (u : RS) : Option (Int32 × RS) := fX10_gateIt_b0 p1 u
set_option maxHeartbeats 4000000 in
set_option maxRecDepth 100000 in
theorem cX10_gateItM (l : Launch) (D : va_G) (cy : Nat → ClassId) (h : Nat) (a : Nat → Nat) (sz : Nat) (u : RS) (p1 : Int32) : ∀ (K : Int32 → RS → Prop), Ok (fX10_gateIt p1 u) (fun q => K q.1 q.2) → Met l yX10_gateIt wsX10_gateIt rmX10_gateIt (va_Pc [.ref h, .int p1] (kPre D cy sz (wM cy h a u))) (va_Qi K (fun q => kPost D (va_A (wM cy h a u) sz) (wM cy h a q)) (va_A (wM cy h a u) sz)) 0 0 (va_A (wM cy h a u) sz) := by
  intro K h1
  refine Met.ofW (cc := cX10_gateIt) (maxL := 2) (ret := (some .int)) (by decide) rfl ?_
  intro p e s m args below meth c s₁ B hml hv
  obtain ⟨rfl, hsz, hP, hK, hD0⟩ := hv
  subst hsz
  have E : mE D cy RX10 cX10_gateIt 2 (some .int) wsX10_gateIt (va_A (wM cy h a u) s.heap.size) p s m _ meth c := ⟨B.exec, B.bytes, B.returns, hml, findClass_of_methodNamed B.named, atoms_spec (ws := wsX10_gateIt) B.pre, B.notSynchronized, hK, fun q h => Or.inr h⟩
  have hl := lv_entry ([.ref h, .int p1]) (n := 2) (Nat.le_of_ble_eq_true rfl)
  rw [lg_entry_eq]
  generalize (lg_sl ([.ref h, .int p1]) ++ List.replicate (2 - (lg_sl ([.ref h, .int p1])).length) Slot.unset).toArray = ls at hl ⊢
  exact tX10_gateIt_b0 (fun q => K q.1 q.2) E p1 u _ _ _ hl hP hD0.self va_S.rf h1
-- X10_setGate
theorem inX10_setGate_X10 : ∀ w ∈ u_ws RX10 TX10 23, w ∈ wsX10_setGate := k_lays 26 rfl
theorem lkX10_setGate_48 : Cond.fieldLink RX10 48 "FerryRampModel" "thrown" "I" ∈ wsX10_setGate := List.mem_of_getElem? (i := 1) rfl
theorem hdX10_gateIt : yX10_gateIt.cls = RX10 ∧ yX10_gateIt.cls ≠ "java/lang/invoke/MethodHandle" ∧ yX10_gateIt.cls ≠ "java/lang/invoke/VarHandle" ∧ (parseMethodDescriptor yX10_gateIt.desc).map (fun d => d.parameters.length) = some 1 := by decide +kernel
abbrev rmX10_setGate : Room := { frames := 3, cells := 0, slots := 0, locals := 65 }
def fX10_setGate_b0 (x1 : Int32) (u : RS) : Option (Int32 × RS) :=
  bnd2 (fX10_gateIt x1 (nTh u 0)) (fun r7 u7 => some (r7, u7))
set_option maxHeartbeats 4000000 in
set_option maxRecDepth 100000 in
theorem tX10_setGate_b0 {p : Program} {l : Launch} {e : Env} {s : State} {m : MethodId} {args : Array Value} {below : List Frame} {meth : Method} {c : Code} {D : va_G} {cy : Nat → ClassId} {A : Nat → Prop} {h : Nat} {a : Nat → Nat} (K : Int32 × RS → Prop) (E : mE D cy RX10 cX10_setGate 2 (some .int) wsX10_setGate A p s m args meth c)
     (x1 : Int32) (u : RS) (H : Heap) (locs : List Loc) (ls : Array Slot) (hl : lv_has ls 2 [(0, .ref h), (1, .int x1)]) (hP : va_P D vwCl (wM cy h a u) H) (hD : va_D A (wM cy h a u)) (hS : va_S A s.heap H locs) (h1 : Ok (fX10_setGate_b0 x1 u) K) :
    kW p l e rmX10_setGate s m args below meth c H locs (va_Qi (fun r q => K (r, q)) (fun q => kPost D A (wM cy h a q)) A) A 0 ls [] := by
  obtain ⟨hx, hb, hr, hml, hown, hts, hlocks, hK, hA⟩ := id E
  unfold fX10_setGate_b0 at h1
  refine lv_aload_n hx hb dX10_setGate_0 rfl (lv_at hl 0 rfl) ?_
  refine lv_iconst (v := 0) hx hb dX10_setGate_1 rfl ?_
  refine k_put (v := .int 0) (ty := .int) (C := RX10) (T := TX10) (N := 23) hx hb hts inX10_setGate_X10 tyX10 tyX10_ok nmX10 hown hK hP hD hS 0 (wM_a0 _ _ _ _) rfl 8 (by decide) lkX10_setGate_48 rfl (by decide +kernel) rfl rfl (Nat.le_of_ble_eq_true rfl) (ws' := wM cy h a (nTh u 0)) (wM_nTh _ _ _ _ _) dX10_setGate_2 (fun H locs hP hD hS => ?_)
  refine lv_aload_n hx hb dX10_setGate_5 rfl (lv_at hl 0 rfl) ?_
  refine lv_iload_n hx hb dX10_setGate_6 rfl (lv_at hl 1 rfl) ?_
  refine kc_iV0 (b := h) (As := [.int x1]) (rest := []) h1 ⟨hx, hb, hml, hown, hts⟩ (cX10_gateItM l D cy h a H.size (nTh u 0) x1) (cwV 1 hts gX10_setGate_X10_gateIt rfl rfl rfl hdX10_gateIt ⟨Nat.le_of_ble_eq_true rfl, Nat.le_of_ble_eq_true rfl⟩) hK hP hD hS hA (q0 := 0) rfl rfl rfl hl.1 rfl (Nat.le_of_ble_eq_true rfl) dX10_setGate_7 ⟨Nat.zero_le _, Nat.zero_le _⟩ (fun r7 u7 H locs h1 hP hD hS => ?_)
  exact kret_i hx hb hr hlocks hP hD hS h1 dX10_setGate_10
def fX10_setGate (p1 : Int32) (u : RS) : Option (Int32 × RS) := fX10_setGate_b0 p1 u
set_option maxHeartbeats 4000000 in
set_option maxRecDepth 100000 in
theorem cX10_setGateM (l : Launch) (D : va_G) (cy : Nat → ClassId) (h : Nat) (a : Nat → Nat) (sz : Nat) (u : RS) (p1 : Int32) : ∀ (K : Int32 → RS → Prop), Ok (fX10_setGate p1 u) (fun q => K q.1 q.2) → Met l yX10_setGate wsX10_setGate rmX10_setGate (va_Pc [.ref h, .int p1] (kPre D cy sz (wM cy h a u))) (va_Qi K (fun q => kPost D (va_A (wM cy h a u) sz) (wM cy h a q)) (va_A (wM cy h a u) sz)) 0 0 (va_A (wM cy h a u) sz) := by
  intro K h1
  refine Met.ofW (cc := cX10_setGate) (maxL := 2) (ret := (some .int)) (by decide) rfl ?_
  intro p e s m args below meth c s₁ B hml hv
  obtain ⟨rfl, hsz, hP, hK, hD0⟩ := hv
  subst hsz
  have E : mE D cy RX10 cX10_setGate 2 (some .int) wsX10_setGate (va_A (wM cy h a u) s.heap.size) p s m _ meth c := ⟨B.exec, B.bytes, B.returns, hml, findClass_of_methodNamed B.named, atoms_spec (ws := wsX10_setGate) B.pre, B.notSynchronized, hK, fun q h => Or.inr h⟩
  have hl := lv_entry ([.ref h, .int p1]) (n := 2) (Nat.le_of_ble_eq_true rfl)
  rw [lg_entry_eq]
  generalize (lg_sl ([.ref h, .int p1]) ++ List.replicate (2 - (lg_sl ([.ref h, .int p1])).length) Slot.unset).toArray = ls at hl ⊢
  exact tX10_setGate_b0 (fun q => K q.1 q.2) E p1 u _ _ _ hl hP hD0.self va_S.rf h1
-- X10_crankIt
theorem inX10_crankIt_X10 : ∀ w ∈ u_ws RX10 TX10 23, w ∈ wsX10_crankIt := k_lays 45 rfl
theorem lkX10_crankIt_7 : Cond.fieldLink RX10 7 "FerryRampModel" "state" "[I" ∈ wsX10_crankIt := List.mem_of_getElem? (i := 1) rfl
abbrev rmX10_crankIt : Room := { frames := 4, cells := 0, slots := 0, locals := 85 }
def fX10_crankIt_b0 (x1 : Int32) (u : RS) : Option (Int32 × RS) :=
  (if x1 = 0 then bnd2 (fX10_refuse 1 u) (fun r6 u6 => some (r6, u6)) else (if (mSt u 4) = (-1) then bnd (fX10_remember u) (fun u27 => bnd (fX10_lipNow (mSt (nSt u27 1 ((mSt u27 1) + x1)))) (fun r41 => some (r41, nSt u27 1 ((mSt u27 1) + x1)))) else bnd2 (fX10_refuse 2 u) (fun r22 u22 => some (r22, u22))))
set_option maxHeartbeats 4000000 in
set_option maxRecDepth 100000 in
theorem tX10_crankIt_b0 {p : Program} {l : Launch} {e : Env} {s : State} {m : MethodId} {args : Array Value} {below : List Frame} {meth : Method} {c : Code} {D : va_G} {cy : Nat → ClassId} {A : Nat → Prop} {h : Nat} {a : Nat → Nat} (K : Int32 × RS → Prop) (E : mE D cy RX10 cX10_crankIt 2 (some .int) wsX10_crankIt A p s m args meth c)
     (x1 : Int32) (u : RS) (H : Heap) (locs : List Loc) (ls : Array Slot) (hl : lv_has ls 2 [(0, .ref h), (1, .int x1)]) (hP : va_P D vwCl (wM cy h a u) H) (hD : va_D A (wM cy h a u)) (hS : va_S A s.heap H locs) (h1 : Ok (fX10_crankIt_b0 x1 u) K) :
    kW p l e rmX10_crankIt s m args below meth c H locs (va_Qi (fun r q => K (r, q)) (fun q => kPost D A (wM cy h a q)) A) A 0 ls [] := by
  obtain ⟨hx, hb, hr, hml, hown, hts, hlocks, hK, hA⟩ := id E
  unfold fX10_crankIt_b0 at h1
  refine lv_iload_n hx hb dX10_crankIt_0 rfl (lv_at hl 1 rfl) ?_
  refine lv_if_ne (tgt := 10) hx hb dX10_crankIt_1 (by decide) (fun c1 => ?_) (fun c1 => ?_)
  · replace h1 := Ok.neg c1 h1
    refine lv_aload_n hx hb dX10_crankIt_10 rfl (lv_at hl 0 rfl) ?_
    refine k_get (v := .ref (a 0)) (C := RX10) (T := TX10) (N := 23) hx hb hts inX10_crankIt_X10 hown hK hP 0 (wM_a0 _ _ _ _) rfl 0 (by decide) lkX10_crankIt_7 (mFs_0 _ _) dX10_crankIt_11 ?_
    refine lv_iconst (v := 4) hx hb dX10_crankIt_14 rfl ?_
    refine k_iald (k := 4) hx hb hK hP 1 (wM_a1 _ _ _ _) rfl rfl dX10_crankIt_15 ?_
    refine lv_iconst (v := (-1)) hx hb dX10_crankIt_16 rfl ?_
    refine lv_icmp_eq (tgt := 26) hx hb dX10_crankIt_17 (by decide) (fun c17 => ?_) (fun c17 => ?_)
    · replace h1 := Ok.pos c17 h1
      refine lv_aload_n hx hb dX10_crankIt_26 rfl (lv_at hl 0 rfl) ?_
      refine kc_vV0 (b := h) (As := []) (rest := []) h1 ⟨hx, hb, hml, hown, hts⟩ (cX10_rememberM l D cy h a H.size u) (cwV 0 hts gX10_crankIt_X10_remember rfl rfl rfl hdX10_remember ⟨Nat.le_of_ble_eq_true rfl, Nat.le_of_ble_eq_true rfl⟩) hK hP hD hS hA (q0 := 0) rfl rfl rfl hl.1 rfl (Nat.le_of_ble_eq_true rfl) dX10_crankIt_27 ⟨Nat.zero_le _, Nat.zero_le _⟩ (fun u27 H locs h1 hP hD hS => ?_)
      refine lv_aload_n hx hb dX10_crankIt_30 rfl (lv_at hl 0 rfl) ?_
      refine k_get (v := .ref (a 0)) (C := RX10) (T := TX10) (N := 23) hx hb hts inX10_crankIt_X10 hown hK hP 0 (wM_a0 _ _ _ _) rfl 0 (by decide) lkX10_crankIt_7 (mFs_0 _ _) dX10_crankIt_31 ?_
      refine lv_iconst (v := 1) hx hb dX10_crankIt_34 rfl ?_
      refine lv_dup2_11 hx hb dX10_crankIt_35 rfl rfl ?_
      refine k_iald (k := 1) hx hb hK hP 1 (wM_a1 _ _ _ _) rfl rfl dX10_crankIt_36 ?_
      refine lv_iload_n hx hb dX10_crankIt_37 rfl (lv_at hl 1 rfl) ?_
      refine lv_iadd hx hb dX10_crankIt_38 ?_
      refine k_iast (k := 1) (ws' := wM cy h a (nSt u27 1 ((mSt u27 1) + x1))) hx hb hK hP hD hS 1 (wM_a1 _ _ _ _) rfl rfl (wM_nSt _ _ _ _ _ _) dX10_crankIt_39 (fun H locs hP hD hS => ?_)
      refine lv_aload_n hx hb dX10_crankIt_40 rfl (lv_at hl 0 rfl) ?_
      refine kc_rV (b := h) (As := []) (rest := []) h1 ⟨hx, hb, hml, hown, hts⟩ (cX10_lipNowM l D cy h (a 0) (mRest a (nSt u27 1 ((mSt u27 1) + x1))) H.size (mSt (nSt u27 1 ((mSt u27 1) + x1)))) (cwV 0 hts gX10_crankIt_X10_lipNow rfl rfl rfl hdX10_lipNow ⟨Nat.le_of_ble_eq_true rfl, Nat.le_of_ble_eq_true rfl⟩) hK (wM_split _ _ _ _) hP hD hS hA (q0 := 0) rfl rfl rfl hl.1 rfl (Nat.le_of_ble_eq_true rfl) dX10_crankIt_41 ⟨Nat.zero_le _, Nat.zero_le _⟩ (fun r41 H locs h1 hP hS => ?_)
      exact kret_i hx hb hr hlocks hP hD hS h1 dX10_crankIt_44
    · replace h1 := Ok.neg c17 h1
      refine lv_aload_n hx hb dX10_crankIt_20 rfl (lv_at hl 0 rfl) ?_
      refine lv_iconst (v := 2) hx hb dX10_crankIt_21 rfl ?_
      refine kc_iV0 (b := h) (As := [.int 2]) (rest := []) h1 ⟨hx, hb, hml, hown, hts⟩ (cX10_refuseM l D cy h a H.size u 2) (cwV 1 hts gX10_crankIt_X10_refuse rfl rfl rfl hdX10_refuse ⟨Nat.le_of_ble_eq_true rfl, Nat.le_of_ble_eq_true rfl⟩) hK hP hD hS hA (q0 := 0) rfl rfl rfl hl.1 rfl (Nat.le_of_ble_eq_true rfl) dX10_crankIt_22 ⟨Nat.zero_le _, Nat.zero_le _⟩ (fun r22 u22 H locs h1 hP hD hS => ?_)
      exact kret_i hx hb hr hlocks hP hD hS h1 dX10_crankIt_25
  · replace h1 := Ok.pos c1 h1
    refine lv_aload_n hx hb dX10_crankIt_4 rfl (lv_at hl 0 rfl) ?_
    refine lv_iconst (v := 1) hx hb dX10_crankIt_5 rfl ?_
    refine kc_iV0 (b := h) (As := [.int 1]) (rest := []) h1 ⟨hx, hb, hml, hown, hts⟩ (cX10_refuseM l D cy h a H.size u 1) (cwV 1 hts gX10_crankIt_X10_refuse rfl rfl rfl hdX10_refuse ⟨Nat.le_of_ble_eq_true rfl, Nat.le_of_ble_eq_true rfl⟩) hK hP hD hS hA (q0 := 0) rfl rfl rfl hl.1 rfl (Nat.le_of_ble_eq_true rfl) dX10_crankIt_6 ⟨Nat.zero_le _, Nat.zero_le _⟩ (fun r6 u6 H locs h1 hP hD hS => ?_)
    exact kret_i hx hb hr hlocks hP hD hS h1 dX10_crankIt_9
def fX10_crankIt (p1 : Int32) (u : RS) : Option (Int32 × RS) := fX10_crankIt_b0 p1 u
set_option maxHeartbeats 4000000 in
set_option maxRecDepth 100000 in
theorem cX10_crankItM (l : Launch) (D : va_G) (cy : Nat → ClassId) (h : Nat) (a : Nat → Nat) (sz : Nat) (u : RS) (p1 : Int32) : ∀ (K : Int32 → RS → Prop), Ok (fX10_crankIt p1 u) (fun q => K q.1 q.2) → Met l yX10_crankIt wsX10_crankIt rmX10_crankIt (va_Pc [.ref h, .int p1] (kPre D cy sz (wM cy h a u))) (va_Qi K (fun q => kPost D (va_A (wM cy h a u) sz) (wM cy h a q)) (va_A (wM cy h a u) sz)) 0 0 (va_A (wM cy h a u) sz) := by
  intro K h1
  refine Met.ofW (cc := cX10_crankIt) (maxL := 2) (ret := (some .int)) (by decide) rfl ?_
  intro p e s m args below meth c s₁ B hml hv
  obtain ⟨rfl, hsz, hP, hK, hD0⟩ := hv
  subst hsz
  have E : mE D cy RX10 cX10_crankIt 2 (some .int) wsX10_crankIt (va_A (wM cy h a u) s.heap.size) p s m _ meth c := ⟨B.exec, B.bytes, B.returns, hml, findClass_of_methodNamed B.named, atoms_spec (ws := wsX10_crankIt) B.pre, B.notSynchronized, hK, fun q h => Or.inr h⟩
  have hl := lv_entry ([.ref h, .int p1]) (n := 2) (Nat.le_of_ble_eq_true rfl)
  rw [lg_entry_eq]
  generalize (lg_sl ([.ref h, .int p1]) ++ List.replicate (2 - (lg_sl ([.ref h, .int p1])).length) Slot.unset).toArray = ls at hl ⊢
  exact tX10_crankIt_b0 (fun q => K q.1 q.2) E p1 u _ _ _ hl hP hD0.self va_S.rf h1
-- X10_crank
theorem inX10_crank_X10 : ∀ w ∈ u_ws RX10 TX10 23, w ∈ wsX10_crank := k_lays 57 rfl
theorem lkX10_crank_48 : Cond.fieldLink RX10 48 "FerryRampModel" "thrown" "I" ∈ wsX10_crank := List.mem_of_getElem? (i := 1) rfl
theorem hdX10_crankIt : yX10_crankIt.cls = RX10 ∧ yX10_crankIt.cls ≠ "java/lang/invoke/MethodHandle" ∧ yX10_crankIt.cls ≠ "java/lang/invoke/VarHandle" ∧ (parseMethodDescriptor yX10_crankIt.desc).map (fun d => d.parameters.length) = some 1 := by decide +kernel
abbrev rmX10_crank : Room := { frames := 5, cells := 0, slots := 0, locals := 106 }
def fX10_crank_b0 (x1 : Int32) (u : RS) : Option (Int32 × RS) :=
  bnd (fX10_isBetween x1 (-20) 20) (fun r10 => (if r10 = 0 then bnd2 (fX10_fail 1 (nTh u 0)) (fun r26 u26 => some (r26, u26)) else bnd2 (fX10_crankIt x1 (nTh u 0)) (fun r18 u18 => some (r18, u18))))
set_option maxHeartbeats 4000000 in
set_option maxRecDepth 100000 in
theorem tX10_crank_b0 {p : Program} {l : Launch} {e : Env} {s : State} {m : MethodId} {args : Array Value} {below : List Frame} {meth : Method} {c : Code} {D : va_G} {cy : Nat → ClassId} {A : Nat → Prop} {h : Nat} {a : Nat → Nat} (K : Int32 × RS → Prop) (E : mE D cy RX10 cX10_crank 2 (some .int) wsX10_crank A p s m args meth c)
     (x1 : Int32) (u : RS) (H : Heap) (locs : List Loc) (ls : Array Slot) (hl : lv_has ls 2 [(0, .ref h), (1, .int x1)]) (hP : va_P D vwCl (wM cy h a u) H) (hD : va_D A (wM cy h a u)) (hS : va_S A s.heap H locs) (h1 : Ok (fX10_crank_b0 x1 u) K) :
    kW p l e rmX10_crank s m args below meth c H locs (va_Qi (fun r q => K (r, q)) (fun q => kPost D A (wM cy h a q)) A) A 0 ls [] := by
  obtain ⟨hx, hb, hr, hml, hown, hts, hlocks, hK, hA⟩ := id E
  unfold fX10_crank_b0 at h1
  refine lv_aload_n hx hb dX10_crank_0 rfl (lv_at hl 0 rfl) ?_
  refine lv_iconst (v := 0) hx hb dX10_crank_1 rfl ?_
  refine k_put (v := .int 0) (ty := .int) (C := RX10) (T := TX10) (N := 23) hx hb hts inX10_crank_X10 tyX10 tyX10_ok nmX10 hown hK hP hD hS 0 (wM_a0 _ _ _ _) rfl 8 (by decide) lkX10_crank_48 rfl (by decide +kernel) rfl rfl (Nat.le_of_ble_eq_true rfl) (ws' := wM cy h a (nTh u 0)) (wM_nTh _ _ _ _ _) dX10_crank_2 (fun H locs hP hD hS => ?_)
  refine lv_iload_n hx hb dX10_crank_5 rfl (lv_at hl 1 rfl) ?_
  refine lv_bipush (v := (-20)) hx hb dX10_crank_6 rfl ?_
  refine lv_bipush (v := 20) hx hb dX10_crank_8 rfl ?_
  refine kc_rS (As := [.int x1, .int (-20), .int 20]) (rest := []) (wc := []) (wr := _) h1 ⟨hx, hb, hml, hown, hts⟩ (cX10_isBetweenM l D cy H.size x1 (-20) 20) (va_cwS 3 hts gX10_crank_X10_isBetween rfl rfl rfl heX10_isBetween ⟨Nat.le_of_ble_eq_true rfl, Nat.le_of_ble_eq_true rfl⟩) hK (List.Perm.refl _) hP hD hS hA rfl hl.1 rfl (Nat.le_of_ble_eq_true rfl) dX10_crank_10 ⟨Nat.zero_le _, Nat.zero_le _⟩ (fun r10 H locs h1 hP hS => ?_)
  refine lv_if_eq (tgt := 24) hx hb dX10_crank_13 (by decide) (fun c13 => ?_) (fun c13 => ?_)
  · replace h1 := Ok.pos c13 h1
    refine lv_aload_n hx hb dX10_crank_24 rfl (lv_at hl 0 rfl) ?_
    refine lv_iconst (v := 1) hx hb dX10_crank_25 rfl ?_
    refine kc_iV0 (b := h) (As := [.int 1]) (rest := []) h1 ⟨hx, hb, hml, hown, hts⟩ (cX10_failM l D cy h a H.size (nTh u 0) 1) (cwV 1 hts gX10_crank_X10_fail rfl rfl rfl hdX10_fail ⟨Nat.le_of_ble_eq_true rfl, Nat.le_of_ble_eq_true rfl⟩) hK hP hD hS hA (q0 := 0) rfl rfl rfl hl.1 rfl (Nat.le_of_ble_eq_true rfl) dX10_crank_26 ⟨Nat.zero_le _, Nat.zero_le _⟩ (fun r26 u26 H locs h1 hP hD hS => ?_)
    exact kret_i hx hb hr hlocks hP hD hS h1 dX10_crank_29
  · replace h1 := Ok.neg c13 h1
    refine lv_aload_n hx hb dX10_crank_16 rfl (lv_at hl 0 rfl) ?_
    refine lv_iload_n hx hb dX10_crank_17 rfl (lv_at hl 1 rfl) ?_
    refine kc_iV0 (b := h) (As := [.int x1]) (rest := []) h1 ⟨hx, hb, hml, hown, hts⟩ (cX10_crankItM l D cy h a H.size (nTh u 0) x1) (cwV 1 hts gX10_crank_X10_crankIt rfl rfl rfl hdX10_crankIt ⟨Nat.le_of_ble_eq_true rfl, Nat.le_of_ble_eq_true rfl⟩) hK hP hD hS hA (q0 := 0) rfl rfl rfl hl.1 rfl (Nat.le_of_ble_eq_true rfl) dX10_crank_18 ⟨Nat.zero_le _, Nat.zero_le _⟩ (fun r18 u18 H locs h1 hP hD hS => ?_)
    refine lv_goto (tgt := 29) hx hb dX10_crank_21 (by decide) ?_
    exact kret_i hx hb hr hlocks hP hD hS h1 dX10_crank_29
def fX10_crank (p1 : Int32) (u : RS) : Option (Int32 × RS) := fX10_crank_b0 p1 u
set_option maxHeartbeats 4000000 in
set_option maxRecDepth 100000 in
theorem cX10_crankM (l : Launch) (D : va_G) (cy : Nat → ClassId) (h : Nat) (a : Nat → Nat) (sz : Nat) (u : RS) (p1 : Int32) : ∀ (K : Int32 → RS → Prop), Ok (fX10_crank p1 u) (fun q => K q.1 q.2) → Met l yX10_crank wsX10_crank rmX10_crank (va_Pc [.ref h, .int p1] (kPre D cy sz (wM cy h a u))) (va_Qi K (fun q => kPost D (va_A (wM cy h a u) sz) (wM cy h a q)) (va_A (wM cy h a u) sz)) 0 0 (va_A (wM cy h a u) sz) := by
  intro K h1
  refine Met.ofW (cc := cX10_crank) (maxL := 2) (ret := (some .int)) (by decide) rfl ?_
  intro p e s m args below meth c s₁ B hml hv
  obtain ⟨rfl, hsz, hP, hK, hD0⟩ := hv
  subst hsz
  have E : mE D cy RX10 cX10_crank 2 (some .int) wsX10_crank (va_A (wM cy h a u) s.heap.size) p s m _ meth c := ⟨B.exec, B.bytes, B.returns, hml, findClass_of_methodNamed B.named, atoms_spec (ws := wsX10_crank) B.pre, B.notSynchronized, hK, fun q h => Or.inr h⟩
  have hl := lv_entry ([.ref h, .int p1]) (n := 2) (Nat.le_of_ble_eq_true rfl)
  rw [lg_entry_eq]
  generalize (lg_sl ([.ref h, .int p1]) ++ List.replicate (2 - (lg_sl ([.ref h, .int p1])).length) Slot.unset).toArray = ls at hl ⊢
  exact tX10_crank_b0 (fun q => K q.1 q.2) E p1 u _ _ _ hl hP hD0.self va_S.rf h1
-- X10_winchIt
theorem inX10_winchIt_X10 : ∀ w ∈ u_ws RX10 TX10 23, w ∈ wsX10_winchIt := k_lays 17 rfl
theorem lkX10_winchIt_7 : Cond.fieldLink RX10 7 "FerryRampModel" "state" "[I" ∈ wsX10_winchIt := List.mem_of_getElem? (i := 1) rfl
abbrev rmX10_winchIt : Room := { frames := 2, cells := 0, slots := 0, locals := 44 }
def fX10_winchIt_b0 (x1 : Int32) (x2 : Int32) (x3 : Int32) (u : RS) : Option (Int32 × RS) :=
  bnd (fX10_remember u) (fun u1 => some (0, nSt (nSt (nSt u1 24 x1) 25 x2) 26 x3))
set_option maxHeartbeats 4000000 in
set_option maxRecDepth 100000 in
theorem tX10_winchIt_b0 {p : Program} {l : Launch} {e : Env} {s : State} {m : MethodId} {args : Array Value} {below : List Frame} {meth : Method} {c : Code} {D : va_G} {cy : Nat → ClassId} {A : Nat → Prop} {h : Nat} {a : Nat → Nat} (K : Int32 × RS → Prop) (E : mE D cy RX10 cX10_winchIt 4 (some .int) wsX10_winchIt A p s m args meth c)
     (x1 : Int32) (x2 : Int32) (x3 : Int32) (u : RS) (H : Heap) (locs : List Loc) (ls : Array Slot) (hl : lv_has ls 4 [(0, .ref h), (1, .int x1), (2, .int x2), (3, .int x3)]) (hP : va_P D vwCl (wM cy h a u) H) (hD : va_D A (wM cy h a u)) (hS : va_S A s.heap H locs) (h1 : Ok (fX10_winchIt_b0 x1 x2 x3 u) K) :
    kW p l e rmX10_winchIt s m args below meth c H locs (va_Qi (fun r q => K (r, q)) (fun q => kPost D A (wM cy h a q)) A) A 0 ls [] := by
  obtain ⟨hx, hb, hr, hml, hown, hts, hlocks, hK, hA⟩ := id E
  unfold fX10_winchIt_b0 at h1
  refine lv_aload_n hx hb dX10_winchIt_0 rfl (lv_at hl 0 rfl) ?_
  refine kc_vV0 (b := h) (As := []) (rest := []) h1 ⟨hx, hb, hml, hown, hts⟩ (cX10_rememberM l D cy h a H.size u) (cwV 0 hts gX10_winchIt_X10_remember rfl rfl rfl hdX10_remember ⟨Nat.le_of_ble_eq_true rfl, Nat.le_of_ble_eq_true rfl⟩) hK hP hD hS hA (q0 := 0) rfl rfl rfl hl.1 rfl (Nat.le_of_ble_eq_true rfl) dX10_winchIt_1 ⟨Nat.zero_le _, Nat.zero_le _⟩ (fun u1 H locs h1 hP hD hS => ?_)
  refine lv_aload_n hx hb dX10_winchIt_4 rfl (lv_at hl 0 rfl) ?_
  refine k_get (v := .ref (a 0)) (C := RX10) (T := TX10) (N := 23) hx hb hts inX10_winchIt_X10 hown hK hP 0 (wM_a0 _ _ _ _) rfl 0 (by decide) lkX10_winchIt_7 (mFs_0 _ _) dX10_winchIt_5 ?_
  refine lv_bipush (v := 24) hx hb dX10_winchIt_8 rfl ?_
  refine lv_iload_n hx hb dX10_winchIt_10 rfl (lv_at hl 1 rfl) ?_
  refine k_iast (k := 24) (ws' := wM cy h a (nSt u1 24 x1)) hx hb hK hP hD hS 1 (wM_a1 _ _ _ _) rfl rfl (wM_nSt _ _ _ _ _ _) dX10_winchIt_11 (fun H locs hP hD hS => ?_)
  refine lv_aload_n hx hb dX10_winchIt_12 rfl (lv_at hl 0 rfl) ?_
  refine k_get (v := .ref (a 0)) (C := RX10) (T := TX10) (N := 23) hx hb hts inX10_winchIt_X10 hown hK hP 0 (wM_a0 _ _ _ _) rfl 0 (by decide) lkX10_winchIt_7 (mFs_0 _ _) dX10_winchIt_13 ?_
  refine lv_bipush (v := 25) hx hb dX10_winchIt_16 rfl ?_
  refine lv_iload_n hx hb dX10_winchIt_18 rfl (lv_at hl 2 rfl) ?_
  refine k_iast (k := 25) (ws' := wM cy h a (nSt (nSt u1 24 x1) 25 x2)) hx hb hK hP hD hS 1 (wM_a1 _ _ _ _) rfl rfl (wM_nSt _ _ _ _ _ _) dX10_winchIt_19 (fun H locs hP hD hS => ?_)
  refine lv_aload_n hx hb dX10_winchIt_20 rfl (lv_at hl 0 rfl) ?_
  refine k_get (v := .ref (a 0)) (C := RX10) (T := TX10) (N := 23) hx hb hts inX10_winchIt_X10 hown hK hP 0 (wM_a0 _ _ _ _) rfl 0 (by decide) lkX10_winchIt_7 (mFs_0 _ _) dX10_winchIt_21 ?_
  refine lv_bipush (v := 26) hx hb dX10_winchIt_24 rfl ?_
  refine lv_iload_n hx hb dX10_winchIt_26 rfl (lv_at hl 3 rfl) ?_
  refine k_iast (k := 26) (ws' := wM cy h a (nSt (nSt (nSt u1 24 x1) 25 x2) 26 x3)) hx hb hK hP hD hS 1 (wM_a1 _ _ _ _) rfl rfl (wM_nSt _ _ _ _ _ _) dX10_winchIt_27 (fun H locs hP hD hS => ?_)
  refine lv_iconst (v := 0) hx hb dX10_winchIt_28 rfl ?_
  exact kret_i hx hb hr hlocks hP hD hS h1 dX10_winchIt_29
def fX10_winchIt (p1 : Int32) (p2 : Int32) (p3 : Int32) (u : RS) : Option (Int32 × RS) := fX10_winchIt_b0 p1 p2 p3 u
set_option maxHeartbeats 4000000 in
set_option maxRecDepth 100000 in
theorem cX10_winchItM (l : Launch) (D : va_G) (cy : Nat → ClassId) (h : Nat) (a : Nat → Nat) (sz : Nat) (u : RS) (p1 : Int32) (p2 : Int32) (p3 : Int32) : ∀ (K : Int32 → RS → Prop), Ok (fX10_winchIt p1 p2 p3 u) (fun q => K q.1 q.2) → Met l yX10_winchIt wsX10_winchIt rmX10_winchIt (va_Pc [.ref h, .int p1, .int p2, .int p3] (kPre D cy sz (wM cy h a u))) (va_Qi K (fun q => kPost D (va_A (wM cy h a u) sz) (wM cy h a q)) (va_A (wM cy h a u) sz)) 0 0 (va_A (wM cy h a u) sz) := by
  intro K h1
  refine Met.ofW (cc := cX10_winchIt) (maxL := 4) (ret := (some .int)) (by decide) rfl ?_
  intro p e s m args below meth c s₁ B hml hv
  obtain ⟨rfl, hsz, hP, hK, hD0⟩ := hv
  subst hsz
  have E : mE D cy RX10 cX10_winchIt 4 (some .int) wsX10_winchIt (va_A (wM cy h a u) s.heap.size) p s m _ meth c := ⟨B.exec, B.bytes, B.returns, hml, findClass_of_methodNamed B.named, atoms_spec (ws := wsX10_winchIt) B.pre, B.notSynchronized, hK, fun q h => Or.inr h⟩
  have hl := lv_entry ([.ref h, .int p1, .int p2, .int p3]) (n := 4) (Nat.le_of_ble_eq_true rfl)
  rw [lg_entry_eq]
  generalize (lg_sl ([.ref h, .int p1, .int p2, .int p3]) ++ List.replicate (4 - (lg_sl ([.ref h, .int p1, .int p2, .int p3])).length) Slot.unset).toArray = ls at hl ⊢
  exact tX10_winchIt_b0 (fun q => K q.1 q.2) E p1 p2 p3 u _ _ _ hl hP hD0.self va_S.rf h1
-- X10_setWinch
theorem inX10_setWinch_X10 : ∀ w ∈ u_ws RX10 TX10 23, w ∈ wsX10_setWinch := k_lays 29 rfl
theorem lkX10_setWinch_48 : Cond.fieldLink RX10 48 "FerryRampModel" "thrown" "I" ∈ wsX10_setWinch := List.mem_of_getElem? (i := 1) rfl
theorem hdX10_winchIt : yX10_winchIt.cls = RX10 ∧ yX10_winchIt.cls ≠ "java/lang/invoke/MethodHandle" ∧ yX10_winchIt.cls ≠ "java/lang/invoke/VarHandle" ∧ (parseMethodDescriptor yX10_winchIt.desc).map (fun d => d.parameters.length) = some 3 := by decide +kernel
abbrev rmX10_setWinch : Room := { frames := 3, cells := 0, slots := 0, locals := 67 }
def fX10_setWinch_b40 (x1 : Int32) (x2 : Int32) (x3 : Int32) (s0 : Int32) (u : RS) : Option (Int32 × RS) :=
  (if s0 = 0 then bnd2 (fX10_fail 1 u) (fun r59 u59 => some (r59, u59)) else bnd2 (fX10_winchIt x1 x2 x3 u) (fun r51 u51 => some (r51, u51)))
set_option maxHeartbeats 4000000 in
set_option maxRecDepth 100000 in
theorem tX10_setWinch_b40 {p : Program} {l : Launch} {e : Env} {s : State} {m : MethodId} {args : Array Value} {below : List Frame} {meth : Method} {c : Code} {D : va_G} {cy : Nat → ClassId} {A : Nat → Prop} {h : Nat} {a : Nat → Nat} (K : Int32 × RS → Prop) (E : mE D cy RX10 cX10_setWinch 5 (some .int) wsX10_setWinch A p s m args meth c)
     (x1 : Int32) (x2 : Int32) (x3 : Int32) (s0 : Int32) (u : RS) (H : Heap) (locs : List Loc) (ls : Array Slot) (hl : lv_has ls 5 [(0, .ref h), (1, .int x1), (2, .int x2), (3, .int x3)]) (hP : va_P D vwCl (wM cy h a u) H) (hD : va_D A (wM cy h a u)) (hS : va_S A s.heap H locs) (h1 : Ok (fX10_setWinch_b40 x1 x2 x3 s0 u) K) :
    kW p l e rmX10_setWinch s m args below meth c H locs (va_Qi (fun r q => K (r, q)) (fun q => kPost D A (wM cy h a q)) A) A 40 ls [.int s0] := by
  obtain ⟨hx, hb, hr, hml, hown, hts, hlocks, hK, hA⟩ := id E
  unfold fX10_setWinch_b40 at h1
  refine lv_istore (lv' := [(4, .int s0), (0, .ref h), (1, .int x1), (2, .int x2), (3, .int x3)]) hx hb dX10_setWinch_40 hl (by decide) rfl (fun ls hl => ?_)
  refine lv_iload hx hb dX10_setWinch_42 (lv_at hl 0 rfl) ?_
  refine lv_if_eq (tgt := 57) hx hb dX10_setWinch_44 (by decide) (fun c44 => ?_) (fun c44 => ?_)
  · replace h1 := Ok.pos c44 h1
    refine lv_aload_n hx hb dX10_setWinch_57 rfl (lv_at hl 1 rfl) ?_
    refine lv_iconst (v := 1) hx hb dX10_setWinch_58 rfl ?_
    refine kc_iV0 (b := h) (As := [.int 1]) (rest := []) h1 ⟨hx, hb, hml, hown, hts⟩ (cX10_failM l D cy h a H.size u 1) (cwV 1 hts gX10_setWinch_X10_fail rfl rfl rfl hdX10_fail ⟨Nat.le_of_ble_eq_true rfl, Nat.le_of_ble_eq_true rfl⟩) hK hP hD hS hA (q0 := 0) rfl rfl rfl hl.1 rfl (Nat.le_of_ble_eq_true rfl) dX10_setWinch_59 ⟨Nat.zero_le _, Nat.zero_le _⟩ (fun r59 u59 H locs h1 hP hD hS => ?_)
    exact kret_i hx hb hr hlocks hP hD hS h1 dX10_setWinch_62
  · replace h1 := Ok.neg c44 h1
    refine lv_aload_n hx hb dX10_setWinch_47 rfl (lv_at hl 1 rfl) ?_
    refine lv_iload_n hx hb dX10_setWinch_48 rfl (lv_at hl 2 rfl) ?_
    refine lv_iload_n hx hb dX10_setWinch_49 rfl (lv_at hl 3 rfl) ?_
    refine lv_iload_n hx hb dX10_setWinch_50 rfl (lv_at hl 4 rfl) ?_
    refine kc_iV0 (b := h) (As := [.int x1, .int x2, .int x3]) (rest := []) h1 ⟨hx, hb, hml, hown, hts⟩ (cX10_winchItM l D cy h a H.size u x1 x2 x3) (cwV 3 hts gX10_setWinch_X10_winchIt rfl rfl rfl hdX10_winchIt ⟨Nat.le_of_ble_eq_true rfl, Nat.le_of_ble_eq_true rfl⟩) hK hP hD hS hA (q0 := 0) rfl rfl rfl hl.1 rfl (Nat.le_of_ble_eq_true rfl) dX10_setWinch_51 ⟨Nat.zero_le _, Nat.zero_le _⟩ (fun r51 u51 H locs h1 hP hD hS => ?_)
    refine lv_goto (tgt := 62) hx hb dX10_setWinch_54 (by decide) ?_
    exact kret_i hx hb hr hlocks hP hD hS h1 dX10_setWinch_62
def fX10_setWinch_b39 (x1 : Int32) (x2 : Int32) (x3 : Int32) (u : RS) : Option (Int32 × RS) :=
  fX10_setWinch_b40 x1 x2 x3 0 u
set_option maxHeartbeats 4000000 in
set_option maxRecDepth 100000 in
theorem tX10_setWinch_b39 {p : Program} {l : Launch} {e : Env} {s : State} {m : MethodId} {args : Array Value} {below : List Frame} {meth : Method} {c : Code} {D : va_G} {cy : Nat → ClassId} {A : Nat → Prop} {h : Nat} {a : Nat → Nat} (K : Int32 × RS → Prop) (E : mE D cy RX10 cX10_setWinch 5 (some .int) wsX10_setWinch A p s m args meth c)
     (x1 : Int32) (x2 : Int32) (x3 : Int32) (u : RS) (H : Heap) (locs : List Loc) (ls : Array Slot) (hl : lv_has ls 5 [(0, .ref h), (1, .int x1), (2, .int x2), (3, .int x3)]) (hP : va_P D vwCl (wM cy h a u) H) (hD : va_D A (wM cy h a u)) (hS : va_S A s.heap H locs) (h1 : Ok (fX10_setWinch_b39 x1 x2 x3 u) K) :
    kW p l e rmX10_setWinch s m args below meth c H locs (va_Qi (fun r q => K (r, q)) (fun q => kPost D A (wM cy h a q)) A) A 39 ls [] := by
  obtain ⟨hx, hb, hr, hml, hown, hts, hlocks, hK, hA⟩ := id E
  unfold fX10_setWinch_b39 at h1
  refine lv_iconst (v := 0) hx hb dX10_setWinch_39 rfl ?_
  exact tX10_setWinch_b40 K E x1 x2 x3 0 u H locs ls (lv_sub hl [0, 1, 2, 3] rfl) hP hD hS h1
def fX10_setWinch_b0 (x1 : Int32) (x2 : Int32) (x3 : Int32) (u : RS) : Option (Int32 × RS) :=
  bnd (fX10_isBetween x1 1 20) (fun r9 => (if r9 = 0 then fX10_setWinch_b39 x1 x2 x3 (nTh u 0) else bnd (fX10_isBetween x2 0 50) (fun r19 => (if r19 = 0 then fX10_setWinch_b39 x1 x2 x3 (nTh u 0) else bnd (fX10_isBetween x3 0 20) (fun r29 => (if r29 = 0 then fX10_setWinch_b39 x1 x2 x3 (nTh u 0) else fX10_setWinch_b40 x1 x2 x3 1 (nTh u 0)))))))
set_option maxHeartbeats 4000000 in
set_option maxRecDepth 100000 in
theorem tX10_setWinch_b0 {p : Program} {l : Launch} {e : Env} {s : State} {m : MethodId} {args : Array Value} {below : List Frame} {meth : Method} {c : Code} {D : va_G} {cy : Nat → ClassId} {A : Nat → Prop} {h : Nat} {a : Nat → Nat} (K : Int32 × RS → Prop) (E : mE D cy RX10 cX10_setWinch 5 (some .int) wsX10_setWinch A p s m args meth c)
     (x1 : Int32) (x2 : Int32) (x3 : Int32) (u : RS) (H : Heap) (locs : List Loc) (ls : Array Slot) (hl : lv_has ls 5 [(0, .ref h), (1, .int x1), (2, .int x2), (3, .int x3)]) (hP : va_P D vwCl (wM cy h a u) H) (hD : va_D A (wM cy h a u)) (hS : va_S A s.heap H locs) (h1 : Ok (fX10_setWinch_b0 x1 x2 x3 u) K) :
    kW p l e rmX10_setWinch s m args below meth c H locs (va_Qi (fun r q => K (r, q)) (fun q => kPost D A (wM cy h a q)) A) A 0 ls [] := by
  obtain ⟨hx, hb, hr, hml, hown, hts, hlocks, hK, hA⟩ := id E
  unfold fX10_setWinch_b0 at h1
  refine lv_aload_n hx hb dX10_setWinch_0 rfl (lv_at hl 0 rfl) ?_
  refine lv_iconst (v := 0) hx hb dX10_setWinch_1 rfl ?_
  refine k_put (v := .int 0) (ty := .int) (C := RX10) (T := TX10) (N := 23) hx hb hts inX10_setWinch_X10 tyX10 tyX10_ok nmX10 hown hK hP hD hS 0 (wM_a0 _ _ _ _) rfl 8 (by decide) lkX10_setWinch_48 rfl (by decide +kernel) rfl rfl (Nat.le_of_ble_eq_true rfl) (ws' := wM cy h a (nTh u 0)) (wM_nTh _ _ _ _ _) dX10_setWinch_2 (fun H locs hP hD hS => ?_)
  refine lv_iload_n hx hb dX10_setWinch_5 rfl (lv_at hl 1 rfl) ?_
  refine lv_iconst (v := 1) hx hb dX10_setWinch_6 rfl ?_
  refine lv_bipush (v := 20) hx hb dX10_setWinch_7 rfl ?_
  refine kc_rS (As := [.int x1, .int 1, .int 20]) (rest := []) (wc := []) (wr := _) h1 ⟨hx, hb, hml, hown, hts⟩ (cX10_isBetweenM l D cy H.size x1 1 20) (va_cwS 3 hts gX10_setWinch_X10_isBetween rfl rfl rfl heX10_isBetween ⟨Nat.le_of_ble_eq_true rfl, Nat.le_of_ble_eq_true rfl⟩) hK (List.Perm.refl _) hP hD hS hA rfl hl.1 rfl (Nat.le_of_ble_eq_true rfl) dX10_setWinch_9 ⟨Nat.zero_le _, Nat.zero_le _⟩ (fun r9 H locs h1 hP hS => ?_)
  refine lv_if_eq (tgt := 39) hx hb dX10_setWinch_12 (by decide) (fun c12 => ?_) (fun c12 => ?_)
  · replace h1 := Ok.pos c12 h1
    exact tX10_setWinch_b39 K E x1 x2 x3 (nTh u 0) H locs ls (lv_sub hl [0, 1, 2, 3] rfl) hP hD hS h1
  · replace h1 := Ok.neg c12 h1
    refine lv_iload_n hx hb dX10_setWinch_15 rfl (lv_at hl 2 rfl) ?_
    refine lv_iconst (v := 0) hx hb dX10_setWinch_16 rfl ?_
    refine lv_bipush (v := 50) hx hb dX10_setWinch_17 rfl ?_
    refine kc_rS (As := [.int x2, .int 0, .int 50]) (rest := []) (wc := []) (wr := _) h1 ⟨hx, hb, hml, hown, hts⟩ (cX10_isBetweenM l D cy H.size x2 0 50) (va_cwS 3 hts gX10_setWinch_X10_isBetween rfl rfl rfl heX10_isBetween ⟨Nat.le_of_ble_eq_true rfl, Nat.le_of_ble_eq_true rfl⟩) hK (List.Perm.refl _) hP hD hS hA rfl hl.1 rfl (Nat.le_of_ble_eq_true rfl) dX10_setWinch_19 ⟨Nat.zero_le _, Nat.zero_le _⟩ (fun r19 H locs h1 hP hS => ?_)
    refine lv_if_eq (tgt := 39) hx hb dX10_setWinch_22 (by decide) (fun c22 => ?_) (fun c22 => ?_)
    · replace h1 := Ok.pos c22 h1
      exact tX10_setWinch_b39 K E x1 x2 x3 (nTh u 0) H locs ls (lv_sub hl [0, 1, 2, 3] rfl) hP hD hS h1
    · replace h1 := Ok.neg c22 h1
      refine lv_iload_n hx hb dX10_setWinch_25 rfl (lv_at hl 3 rfl) ?_
      refine lv_iconst (v := 0) hx hb dX10_setWinch_26 rfl ?_
      refine lv_bipush (v := 20) hx hb dX10_setWinch_27 rfl ?_
      refine kc_rS (As := [.int x3, .int 0, .int 20]) (rest := []) (wc := []) (wr := _) h1 ⟨hx, hb, hml, hown, hts⟩ (cX10_isBetweenM l D cy H.size x3 0 20) (va_cwS 3 hts gX10_setWinch_X10_isBetween rfl rfl rfl heX10_isBetween ⟨Nat.le_of_ble_eq_true rfl, Nat.le_of_ble_eq_true rfl⟩) hK (List.Perm.refl _) hP hD hS hA rfl hl.1 rfl (Nat.le_of_ble_eq_true rfl) dX10_setWinch_29 ⟨Nat.zero_le _, Nat.zero_le _⟩ (fun r29 H locs h1 hP hS => ?_)
      refine lv_if_eq (tgt := 39) hx hb dX10_setWinch_32 (by decide) (fun c32 => ?_) (fun c32 => ?_)
      · replace h1 := Ok.pos c32 h1
        exact tX10_setWinch_b39 K E x1 x2 x3 (nTh u 0) H locs ls (lv_sub hl [0, 1, 2, 3] rfl) hP hD hS h1
      · replace h1 := Ok.neg c32 h1
        refine lv_iconst (v := 1) hx hb dX10_setWinch_35 rfl ?_
        refine lv_goto (tgt := 40) hx hb dX10_setWinch_36 (by decide) ?_
        exact tX10_setWinch_b40 K E x1 x2 x3 1 (nTh u 0) H locs ls (lv_sub hl [0, 1, 2, 3] rfl) hP hD hS h1
def fX10_setWinch (p1 : Int32) (p2 : Int32) (p3 : Int32) (u : RS) : Option (Int32 × RS) := fX10_setWinch_b0 p1 p2 p3 u
set_option maxHeartbeats 4000000 in
set_option maxRecDepth 100000 in
theorem cX10_setWinchM (l : Launch) (D : va_G) (cy : Nat → ClassId) (h : Nat) (a : Nat → Nat) (sz : Nat) (u : RS) (p1 : Int32) (p2 : Int32) (p3 : Int32) : ∀ (K : Int32 → RS → Prop), Ok (fX10_setWinch p1 p2 p3 u) (fun q => K q.1 q.2) → Met l yX10_setWinch wsX10_setWinch rmX10_setWinch (va_Pc [.ref h, .int p1, .int p2, .int p3] (kPre D cy sz (wM cy h a u))) (va_Qi K (fun q => kPost D (va_A (wM cy h a u) sz) (wM cy h a q)) (va_A (wM cy h a u) sz)) 0 0 (va_A (wM cy h a u) sz) := by
  intro K h1
  refine Met.ofW (cc := cX10_setWinch) (maxL := 5) (ret := (some .int)) (by decide) rfl ?_
  intro p e s m args below meth c s₁ B hml hv
  obtain ⟨rfl, hsz, hP, hK, hD0⟩ := hv
  subst hsz
  have E : mE D cy RX10 cX10_setWinch 5 (some .int) wsX10_setWinch (va_A (wM cy h a u) s.heap.size) p s m _ meth c := ⟨B.exec, B.bytes, B.returns, hml, findClass_of_methodNamed B.named, atoms_spec (ws := wsX10_setWinch) B.pre, B.notSynchronized, hK, fun q h => Or.inr h⟩
  have hl := lv_entry ([.ref h, .int p1, .int p2, .int p3]) (n := 5) (Nat.le_of_ble_eq_true rfl)
  rw [lg_entry_eq]
  generalize (lg_sl ([.ref h, .int p1, .int p2, .int p3]) ++ List.replicate (5 - (lg_sl ([.ref h, .int p1, .int p2, .int p3])).length) Slot.unset).toArray = ls at hl ⊢
  exact tX10_setWinch_b0 (fun q => K q.1 q.2) E p1 p2 p3 u _ _ _ hl hP hD0.self va_S.rf h1
-- X10_crossIt
theorem inX10_crossIt_X10 : ∀ w ∈ u_ws RX10 TX10 23, w ∈ wsX10_crossIt := k_lays 17 rfl
theorem lkX10_crossIt_7 : Cond.fieldLink RX10 7 "FerryRampModel" "state" "[I" ∈ wsX10_crossIt := List.mem_of_getElem? (i := 1) rfl
abbrev rmX10_crossIt : Room := { frames := 2, cells := 0, slots := 0, locals := 44 }
def fX10_crossIt_b0 (x1 : Int32) (x2 : Int32) (u : RS) : Option (Int32 × RS) :=
  bnd (fX10_remember u) (fun u1 => some (0, nSt (nSt u1 27 x1) 28 x2))
set_option maxHeartbeats 4000000 in
set_option maxRecDepth 100000 in
theorem tX10_crossIt_b0 {p : Program} {l : Launch} {e : Env} {s : State} {m : MethodId} {args : Array Value} {below : List Frame} {meth : Method} {c : Code} {D : va_G} {cy : Nat → ClassId} {A : Nat → Prop} {h : Nat} {a : Nat → Nat} (K : Int32 × RS → Prop) (E : mE D cy RX10 cX10_crossIt 3 (some .int) wsX10_crossIt A p s m args meth c)
     (x1 : Int32) (x2 : Int32) (u : RS) (H : Heap) (locs : List Loc) (ls : Array Slot) (hl : lv_has ls 3 [(0, .ref h), (1, .int x1), (2, .int x2)]) (hP : va_P D vwCl (wM cy h a u) H) (hD : va_D A (wM cy h a u)) (hS : va_S A s.heap H locs) (h1 : Ok (fX10_crossIt_b0 x1 x2 u) K) :
    kW p l e rmX10_crossIt s m args below meth c H locs (va_Qi (fun r q => K (r, q)) (fun q => kPost D A (wM cy h a q)) A) A 0 ls [] := by
  obtain ⟨hx, hb, hr, hml, hown, hts, hlocks, hK, hA⟩ := id E
  unfold fX10_crossIt_b0 at h1
  refine lv_aload_n hx hb dX10_crossIt_0 rfl (lv_at hl 0 rfl) ?_
  refine kc_vV0 (b := h) (As := []) (rest := []) h1 ⟨hx, hb, hml, hown, hts⟩ (cX10_rememberM l D cy h a H.size u) (cwV 0 hts gX10_crossIt_X10_remember rfl rfl rfl hdX10_remember ⟨Nat.le_of_ble_eq_true rfl, Nat.le_of_ble_eq_true rfl⟩) hK hP hD hS hA (q0 := 0) rfl rfl rfl hl.1 rfl (Nat.le_of_ble_eq_true rfl) dX10_crossIt_1 ⟨Nat.zero_le _, Nat.zero_le _⟩ (fun u1 H locs h1 hP hD hS => ?_)
  refine lv_aload_n hx hb dX10_crossIt_4 rfl (lv_at hl 0 rfl) ?_
  refine k_get (v := .ref (a 0)) (C := RX10) (T := TX10) (N := 23) hx hb hts inX10_crossIt_X10 hown hK hP 0 (wM_a0 _ _ _ _) rfl 0 (by decide) lkX10_crossIt_7 (mFs_0 _ _) dX10_crossIt_5 ?_
  refine lv_bipush (v := 27) hx hb dX10_crossIt_8 rfl ?_
  refine lv_iload_n hx hb dX10_crossIt_10 rfl (lv_at hl 1 rfl) ?_
  refine k_iast (k := 27) (ws' := wM cy h a (nSt u1 27 x1)) hx hb hK hP hD hS 1 (wM_a1 _ _ _ _) rfl rfl (wM_nSt _ _ _ _ _ _) dX10_crossIt_11 (fun H locs hP hD hS => ?_)
  refine lv_aload_n hx hb dX10_crossIt_12 rfl (lv_at hl 0 rfl) ?_
  refine k_get (v := .ref (a 0)) (C := RX10) (T := TX10) (N := 23) hx hb hts inX10_crossIt_X10 hown hK hP 0 (wM_a0 _ _ _ _) rfl 0 (by decide) lkX10_crossIt_7 (mFs_0 _ _) dX10_crossIt_13 ?_
  refine lv_bipush (v := 28) hx hb dX10_crossIt_16 rfl ?_
  refine lv_iload_n hx hb dX10_crossIt_18 rfl (lv_at hl 2 rfl) ?_
  refine k_iast (k := 28) (ws' := wM cy h a (nSt (nSt u1 27 x1) 28 x2)) hx hb hK hP hD hS 1 (wM_a1 _ _ _ _) rfl rfl (wM_nSt _ _ _ _ _ _) dX10_crossIt_19 (fun H locs hP hD hS => ?_)
  refine lv_iconst (v := 0) hx hb dX10_crossIt_20 rfl ?_
  exact kret_i hx hb hr hlocks hP hD hS h1 dX10_crossIt_21
def fX10_crossIt (p1 : Int32) (p2 : Int32) (u : RS) : Option (Int32 × RS) := fX10_crossIt_b0 p1 p2 u
set_option maxHeartbeats 4000000 in
set_option maxRecDepth 100000 in
theorem cX10_crossItM (l : Launch) (D : va_G) (cy : Nat → ClassId) (h : Nat) (a : Nat → Nat) (sz : Nat) (u : RS) (p1 : Int32) (p2 : Int32) : ∀ (K : Int32 → RS → Prop), Ok (fX10_crossIt p1 p2 u) (fun q => K q.1 q.2) → Met l yX10_crossIt wsX10_crossIt rmX10_crossIt (va_Pc [.ref h, .int p1, .int p2] (kPre D cy sz (wM cy h a u))) (va_Qi K (fun q => kPost D (va_A (wM cy h a u) sz) (wM cy h a q)) (va_A (wM cy h a u) sz)) 0 0 (va_A (wM cy h a u) sz) := by
  intro K h1
  refine Met.ofW (cc := cX10_crossIt) (maxL := 3) (ret := (some .int)) (by decide) rfl ?_
  intro p e s m args below meth c s₁ B hml hv
  obtain ⟨rfl, hsz, hP, hK, hD0⟩ := hv
  subst hsz
  have E : mE D cy RX10 cX10_crossIt 3 (some .int) wsX10_crossIt (va_A (wM cy h a u) s.heap.size) p s m _ meth c := ⟨B.exec, B.bytes, B.returns, hml, findClass_of_methodNamed B.named, atoms_spec (ws := wsX10_crossIt) B.pre, B.notSynchronized, hK, fun q h => Or.inr h⟩
  have hl := lv_entry ([.ref h, .int p1, .int p2]) (n := 3) (Nat.le_of_ble_eq_true rfl)
  rw [lg_entry_eq]
  generalize (lg_sl ([.ref h, .int p1, .int p2]) ++ List.replicate (3 - (lg_sl ([.ref h, .int p1, .int p2])).length) Slot.unset).toArray = ls at hl ⊢
  exact tX10_crossIt_b0 (fun q => K q.1 q.2) E p1 p2 u _ _ _ hl hP hD0.self va_S.rf h1
-- X10_setCross
theorem inX10_setCross_X10 : ∀ w ∈ u_ws RX10 TX10 23, w ∈ wsX10_setCross := k_lays 29 rfl
theorem lkX10_setCross_48 : Cond.fieldLink RX10 48 "FerryRampModel" "thrown" "I" ∈ wsX10_setCross := List.mem_of_getElem? (i := 1) rfl
theorem hdX10_crossIt : yX10_crossIt.cls = RX10 ∧ yX10_crossIt.cls ≠ "java/lang/invoke/MethodHandle" ∧ yX10_crossIt.cls ≠ "java/lang/invoke/VarHandle" ∧ (parseMethodDescriptor yX10_crossIt.desc).map (fun d => d.parameters.length) = some 2 := by decide +kernel
abbrev rmX10_setCross : Room := { frames := 3, cells := 0, slots := 0, locals := 66 }
def fX10_setCross_b34 (u : RS) : Option (Int32 × RS) :=
  bnd2 (fX10_fail 1 u) (fun r36 u36 => some (r36, u36))
set_option maxHeartbeats 4000000 in
set_option maxRecDepth 100000 in
theorem tX10_setCross_b34 {p : Program} {l : Launch} {e : Env} {s : State} {m : MethodId} {args : Array Value} {below : List Frame} {meth : Method} {c : Code} {D : va_G} {cy : Nat → ClassId} {A : Nat → Prop} {h : Nat} {a : Nat → Nat} (K : Int32 × RS → Prop) (E : mE D cy RX10 cX10_setCross 3 (some .int) wsX10_setCross A p s m args meth c)
     (u : RS) (H : Heap) (locs : List Loc) (ls : Array Slot) (hl : lv_has ls 3 [(0, .ref h)]) (hP : va_P D vwCl (wM cy h a u) H) (hD : va_D A (wM cy h a u)) (hS : va_S A s.heap H locs) (h1 : Ok (fX10_setCross_b34 u) K) :
    kW p l e rmX10_setCross s m args below meth c H locs (va_Qi (fun r q => K (r, q)) (fun q => kPost D A (wM cy h a q)) A) A 34 ls [] := by
  obtain ⟨hx, hb, hr, hml, hown, hts, hlocks, hK, hA⟩ := id E
  unfold fX10_setCross_b34 at h1
  refine lv_aload_n hx hb dX10_setCross_34 rfl (lv_at hl 0 rfl) ?_
  refine lv_iconst (v := 1) hx hb dX10_setCross_35 rfl ?_
  refine kc_iV0 (b := h) (As := [.int 1]) (rest := []) h1 ⟨hx, hb, hml, hown, hts⟩ (cX10_failM l D cy h a H.size u 1) (cwV 1 hts gX10_setCross_X10_fail rfl rfl rfl hdX10_fail ⟨Nat.le_of_ble_eq_true rfl, Nat.le_of_ble_eq_true rfl⟩) hK hP hD hS hA (q0 := 0) rfl rfl rfl hl.1 rfl (Nat.le_of_ble_eq_true rfl) dX10_setCross_36 ⟨Nat.zero_le _, Nat.zero_le _⟩ (fun r36 u36 H locs h1 hP hD hS => ?_)
  exact kret_i hx hb hr hlocks hP hD hS h1 dX10_setCross_39
def fX10_setCross_b0 (x1 : Int32) (x2 : Int32) (u : RS) : Option (Int32 × RS) :=
  bnd (fX10_isBetween x1 1 20) (fun r9 => (if r9 = 0 then fX10_setCross_b34 (nTh u 0) else bnd (fX10_isBetween x2 1 50) (fun r19 => (if r19 = 0 then fX10_setCross_b34 (nTh u 0) else bnd2 (fX10_crossIt x1 x2 (nTh u 0)) (fun r28 u28 => some (r28, u28))))))
set_option maxHeartbeats 4000000 in
set_option maxRecDepth 100000 in
theorem tX10_setCross_b0 {p : Program} {l : Launch} {e : Env} {s : State} {m : MethodId} {args : Array Value} {below : List Frame} {meth : Method} {c : Code} {D : va_G} {cy : Nat → ClassId} {A : Nat → Prop} {h : Nat} {a : Nat → Nat} (K : Int32 × RS → Prop) (E : mE D cy RX10 cX10_setCross 3 (some .int) wsX10_setCross A p s m args meth c)
     (x1 : Int32) (x2 : Int32) (u : RS) (H : Heap) (locs : List Loc) (ls : Array Slot) (hl : lv_has ls 3 [(0, .ref h), (1, .int x1), (2, .int x2)]) (hP : va_P D vwCl (wM cy h a u) H) (hD : va_D A (wM cy h a u)) (hS : va_S A s.heap H locs) (h1 : Ok (fX10_setCross_b0 x1 x2 u) K) :
    kW p l e rmX10_setCross s m args below meth c H locs (va_Qi (fun r q => K (r, q)) (fun q => kPost D A (wM cy h a q)) A) A 0 ls [] := by
  obtain ⟨hx, hb, hr, hml, hown, hts, hlocks, hK, hA⟩ := id E
  unfold fX10_setCross_b0 at h1
  refine lv_aload_n hx hb dX10_setCross_0 rfl (lv_at hl 0 rfl) ?_
  refine lv_iconst (v := 0) hx hb dX10_setCross_1 rfl ?_
  refine k_put (v := .int 0) (ty := .int) (C := RX10) (T := TX10) (N := 23) hx hb hts inX10_setCross_X10 tyX10 tyX10_ok nmX10 hown hK hP hD hS 0 (wM_a0 _ _ _ _) rfl 8 (by decide) lkX10_setCross_48 rfl (by decide +kernel) rfl rfl (Nat.le_of_ble_eq_true rfl) (ws' := wM cy h a (nTh u 0)) (wM_nTh _ _ _ _ _) dX10_setCross_2 (fun H locs hP hD hS => ?_)
  refine lv_iload_n hx hb dX10_setCross_5 rfl (lv_at hl 1 rfl) ?_
  refine lv_iconst (v := 1) hx hb dX10_setCross_6 rfl ?_
  refine lv_bipush (v := 20) hx hb dX10_setCross_7 rfl ?_
  refine kc_rS (As := [.int x1, .int 1, .int 20]) (rest := []) (wc := []) (wr := _) h1 ⟨hx, hb, hml, hown, hts⟩ (cX10_isBetweenM l D cy H.size x1 1 20) (va_cwS 3 hts gX10_setCross_X10_isBetween rfl rfl rfl heX10_isBetween ⟨Nat.le_of_ble_eq_true rfl, Nat.le_of_ble_eq_true rfl⟩) hK (List.Perm.refl _) hP hD hS hA rfl hl.1 rfl (Nat.le_of_ble_eq_true rfl) dX10_setCross_9 ⟨Nat.zero_le _, Nat.zero_le _⟩ (fun r9 H locs h1 hP hS => ?_)
  refine lv_if_eq (tgt := 34) hx hb dX10_setCross_12 (by decide) (fun c12 => ?_) (fun c12 => ?_)
  · replace h1 := Ok.pos c12 h1
    exact tX10_setCross_b34 K E (nTh u 0) H locs ls (lv_sub hl [0] rfl) hP hD hS h1
  · replace h1 := Ok.neg c12 h1
    refine lv_iload_n hx hb dX10_setCross_15 rfl (lv_at hl 2 rfl) ?_
    refine lv_iconst (v := 1) hx hb dX10_setCross_16 rfl ?_
    refine lv_bipush (v := 50) hx hb dX10_setCross_17 rfl ?_
    refine kc_rS (As := [.int x2, .int 1, .int 50]) (rest := []) (wc := []) (wr := _) h1 ⟨hx, hb, hml, hown, hts⟩ (cX10_isBetweenM l D cy H.size x2 1 50) (va_cwS 3 hts gX10_setCross_X10_isBetween rfl rfl rfl heX10_isBetween ⟨Nat.le_of_ble_eq_true rfl, Nat.le_of_ble_eq_true rfl⟩) hK (List.Perm.refl _) hP hD hS hA rfl hl.1 rfl (Nat.le_of_ble_eq_true rfl) dX10_setCross_19 ⟨Nat.zero_le _, Nat.zero_le _⟩ (fun r19 H locs h1 hP hS => ?_)
    refine lv_if_eq (tgt := 34) hx hb dX10_setCross_22 (by decide) (fun c22 => ?_) (fun c22 => ?_)
    · replace h1 := Ok.pos c22 h1
      exact tX10_setCross_b34 K E (nTh u 0) H locs ls (lv_sub hl [0] rfl) hP hD hS h1
    · replace h1 := Ok.neg c22 h1
      refine lv_aload_n hx hb dX10_setCross_25 rfl (lv_at hl 0 rfl) ?_
      refine lv_iload_n hx hb dX10_setCross_26 rfl (lv_at hl 1 rfl) ?_
      refine lv_iload_n hx hb dX10_setCross_27 rfl (lv_at hl 2 rfl) ?_
      refine kc_iV0 (b := h) (As := [.int x1, .int x2]) (rest := []) h1 ⟨hx, hb, hml, hown, hts⟩ (cX10_crossItM l D cy h a H.size (nTh u 0) x1 x2) (cwV 2 hts gX10_setCross_X10_crossIt rfl rfl rfl hdX10_crossIt ⟨Nat.le_of_ble_eq_true rfl, Nat.le_of_ble_eq_true rfl⟩) hK hP hD hS hA (q0 := 0) rfl rfl rfl hl.1 rfl (Nat.le_of_ble_eq_true rfl) dX10_setCross_28 ⟨Nat.zero_le _, Nat.zero_le _⟩ (fun r28 u28 H locs h1 hP hD hS => ?_)
      refine lv_goto (tgt := 39) hx hb dX10_setCross_31 (by decide) ?_
      exact kret_i hx hb hr hlocks hP hD hS h1 dX10_setCross_39
def fX10_setCross (p1 : Int32) (p2 : Int32) (u : RS) : Option (Int32 × RS) := fX10_setCross_b0 p1 p2 u
set_option maxHeartbeats 4000000 in
set_option maxRecDepth 100000 in
theorem cX10_setCrossM (l : Launch) (D : va_G) (cy : Nat → ClassId) (h : Nat) (a : Nat → Nat) (sz : Nat) (u : RS) (p1 : Int32) (p2 : Int32) : ∀ (K : Int32 → RS → Prop), Ok (fX10_setCross p1 p2 u) (fun q => K q.1 q.2) → Met l yX10_setCross wsX10_setCross rmX10_setCross (va_Pc [.ref h, .int p1, .int p2] (kPre D cy sz (wM cy h a u))) (va_Qi K (fun q => kPost D (va_A (wM cy h a u) sz) (wM cy h a q)) (va_A (wM cy h a u) sz)) 0 0 (va_A (wM cy h a u) sz) := by
  intro K h1
  refine Met.ofW (cc := cX10_setCross) (maxL := 3) (ret := (some .int)) (by decide) rfl ?_
  intro p e s m args below meth c s₁ B hml hv
  obtain ⟨rfl, hsz, hP, hK, hD0⟩ := hv
  subst hsz
  have E : mE D cy RX10 cX10_setCross 3 (some .int) wsX10_setCross (va_A (wM cy h a u) s.heap.size) p s m _ meth c := ⟨B.exec, B.bytes, B.returns, hml, findClass_of_methodNamed B.named, atoms_spec (ws := wsX10_setCross) B.pre, B.notSynchronized, hK, fun q h => Or.inr h⟩
  have hl := lv_entry ([.ref h, .int p1, .int p2]) (n := 3) (Nat.le_of_ble_eq_true rfl)
  rw [lg_entry_eq]
  generalize (lg_sl ([.ref h, .int p1, .int p2]) ++ List.replicate (3 - (lg_sl ([.ref h, .int p1, .int p2])).length) Slot.unset).toArray = ls at hl ⊢
  exact tX10_setCross_b0 (fun q => K q.1 q.2) E p1 p2 u _ _ _ hl hP hD0.self va_S.rf h1
-- X10_emit
theorem inX10_emit_X10 : ∀ w ∈ u_ws RX10 TX10 23, w ∈ wsX10_emit := k_lays 3 rfl
theorem lkX10_emit_42 : Cond.fieldLink RX10 42 "FerryRampModel" "output" "[I" ∈ wsX10_emit := List.mem_of_getElem? (i := 1) rfl
theorem lkX10_emit_424 : Cond.fieldLink RX10 424 "FerryRampModel" "outputLength" "I" ∈ wsX10_emit := List.mem_of_getElem? (i := 2) rfl
abbrev rmX10_emit : Room := { frames := 0, cells := 0, slots := 0, locals := 0 }
def fX10_emit_b0 (x1 : Int32) (u : RS) : Option (RS) :=
  grd (inb (mOl u) 300) (some (nOl (nOu u (ix (mOl u)) x1) ((mOl (nOu u (ix (mOl u)) x1)) + 1)))
set_option maxHeartbeats 4000000 in
set_option maxRecDepth 100000 in
theorem tX10_emit_b0 {p : Program} {l : Launch} {e : Env} {s : State} {m : MethodId} {args : Array Value} {below : List Frame} {meth : Method} {c : Code} {D : va_G} {cy : Nat → ClassId} {A : Nat → Prop} {h : Nat} {a : Nat → Nat} (K : RS → Prop) (E : mE D cy RX10 cX10_emit 2 none wsX10_emit A p s m args meth c)
     (x1 : Int32) (u : RS) (H : Heap) (locs : List Loc) (ls : Array Slot) (hl : lv_has ls 2 [(0, .ref h), (1, .int x1)]) (hP : va_P D vwCl (wM cy h a u) H) (hD : va_D A (wM cy h a u)) (hS : va_S A s.heap H locs) (h1 : Ok (fX10_emit_b0 x1 u) K) :
    kW p l e rmX10_emit s m args below meth c H locs (va_Qv K (fun q => kPost D A (wM cy h a q)) A) A 0 ls [] := by
  obtain ⟨hx, hb, hr, hml, hown, hts, hlocks, hK, hA⟩ := id E
  unfold fX10_emit_b0 at h1
  refine lv_aload_n hx hb dX10_emit_0 rfl (lv_at hl 0 rfl) ?_
  refine k_get (v := .ref (a 9)) (C := RX10) (T := TX10) (N := 23) hx hb hts inX10_emit_X10 hown hK hP 0 (wM_a0 _ _ _ _) rfl 21 (by decide) lkX10_emit_42 (mFs_21 _ _) dX10_emit_1 ?_
  refine lv_aload_n hx hb dX10_emit_4 rfl (lv_at hl 0 rfl) ?_
  refine k_get (v := .int (mOl u)) (C := RX10) (T := TX10) (N := 23) hx hb hts inX10_emit_X10 hown hK hP 0 (wM_a0 _ _ _ _) rfl 22 (by decide) lkX10_emit_424 (mFs_22 _ _) dX10_emit_5 ?_
  refine lv_iload_n hx hb dX10_emit_8 rfl (lv_at hl 1 rfl) ?_
  have g9 := h1.grd1
  replace h1 := h1.grd2
  refine k_iast (k := (ix (mOl u))) (ws' := wM cy h a (nOu u (ix (mOl u)) x1)) hx hb hK hP hD hS 10 (wM_a10 _ _ _ _) g9 rfl (wM_nOu _ _ _ _ _ _) dX10_emit_9 (fun H locs hP hD hS => ?_)
  refine lv_aload_n hx hb dX10_emit_10 rfl (lv_at hl 0 rfl) ?_
  refine lv_dup hx hb dX10_emit_11 rfl ?_
  refine k_get (v := .int (mOl (nOu u (ix (mOl u)) x1))) (C := RX10) (T := TX10) (N := 23) hx hb hts inX10_emit_X10 hown hK hP 0 (wM_a0 _ _ _ _) rfl 22 (by decide) lkX10_emit_424 (mFs_22 _ _) dX10_emit_12 ?_
  refine lv_iconst (v := 1) hx hb dX10_emit_15 rfl ?_
  refine lv_iadd hx hb dX10_emit_16 ?_
  refine k_put (v := .int ((mOl (nOu u (ix (mOl u)) x1)) + 1)) (ty := .int) (C := RX10) (T := TX10) (N := 23) hx hb hts inX10_emit_X10 tyX10 tyX10_ok nmX10 hown hK hP hD hS 0 (wM_a0 _ _ _ _) rfl 22 (by decide) lkX10_emit_424 rfl (by decide +kernel) rfl rfl (Nat.le_of_ble_eq_true rfl) (ws' := wM cy h a (nOl (nOu u (ix (mOl u)) x1) ((mOl (nOu u (ix (mOl u)) x1)) + 1))) (wM_nOl _ _ _ _ _) dX10_emit_17 (fun H locs hP hD hS => ?_)
  exact kret_v hx hb hr hlocks hP hD hS h1 dX10_emit_20
def fX10_emit (p1 : Int32) (u : RS) : Option (RS) := fX10_emit_b0 p1 u
set_option maxHeartbeats 4000000 in
set_option maxRecDepth 100000 in
theorem cX10_emitM (l : Launch) (D : va_G) (cy : Nat → ClassId) (h : Nat) (a : Nat → Nat) (sz : Nat) (u : RS) (p1 : Int32) : ∀ (K : RS → Prop), Ok (fX10_emit p1 u) K → Met l yX10_emit wsX10_emit rmX10_emit (va_Pc [.ref h, .int p1] (kPre D cy sz (wM cy h a u))) (va_Qv K (fun q => kPost D (va_A (wM cy h a u) sz) (wM cy h a q)) (va_A (wM cy h a u) sz)) 0 0 (va_A (wM cy h a u) sz) := by
  intro K h1
  refine Met.ofW (cc := cX10_emit) (maxL := 2) (ret := none) (by decide) rfl ?_
  intro p e s m args below meth c s₁ B hml hv
  obtain ⟨rfl, hsz, hP, hK, hD0⟩ := hv
  subst hsz
  have E : mE D cy RX10 cX10_emit 2 none wsX10_emit (va_A (wM cy h a u) s.heap.size) p s m _ meth c := ⟨B.exec, B.bytes, B.returns, hml, findClass_of_methodNamed B.named, atoms_spec (ws := wsX10_emit) B.pre, B.notSynchronized, hK, fun q h => Or.inr h⟩
  have hl := lv_entry ([.ref h, .int p1]) (n := 2) (Nat.le_of_ble_eq_true rfl)
  rw [lg_entry_eq]
  generalize (lg_sl ([.ref h, .int p1]) ++ List.replicate (2 - (lg_sl ([.ref h, .int p1])).length) Slot.unset).toArray = ls at hl ⊢
  exact tX10_emit_b0 K E p1 u _ _ _ hl hP hD0.self va_S.rf h1
-- X10_emitNumber
theorem hdX10_emit : yX10_emit.cls = RX10 ∧ yX10_emit.cls ≠ "java/lang/invoke/MethodHandle" ∧ yX10_emit.cls ≠ "java/lang/invoke/VarHandle" ∧ (parseMethodDescriptor yX10_emit.desc).map (fun d => d.parameters.length) = some 1 := by decide +kernel
abbrev rmX10_emitNumber : Room := { frames := 1, cells := 0, slots := 0, locals := 21 }
def fX10_emitNumber_b17 (x1 : Int32) (u : RS) : Option (RS) :=
  bnd (fX10_emit (48 + (x1 - x1 / 10 * 10)) u) (fun u25 => some u25)
set_option maxHeartbeats 4000000 in
set_option maxRecDepth 100000 in
theorem tX10_emitNumber_b17 {p : Program} {l : Launch} {e : Env} {s : State} {m : MethodId} {args : Array Value} {below : List Frame} {meth : Method} {c : Code} {D : va_G} {cy : Nat → ClassId} {A : Nat → Prop} {h : Nat} {a : Nat → Nat} (K : RS → Prop) (E : mE D cy RX10 cX10_emitNumber 2 none wsX10_emitNumber A p s m args meth c)
     (x1 : Int32) (u : RS) (H : Heap) (locs : List Loc) (ls : Array Slot) (hl : lv_has ls 2 [(0, .ref h), (1, .int x1)]) (hP : va_P D vwCl (wM cy h a u) H) (hD : va_D A (wM cy h a u)) (hS : va_S A s.heap H locs) (h1 : Ok (fX10_emitNumber_b17 x1 u) K) :
    kW p l e rmX10_emitNumber s m args below meth c H locs (va_Qv K (fun q => kPost D A (wM cy h a q)) A) A 17 ls [] := by
  obtain ⟨hx, hb, hr, hml, hown, hts, hlocks, hK, hA⟩ := id E
  unfold fX10_emitNumber_b17 at h1
  refine lv_aload_n hx hb dX10_emitNumber_17 rfl (lv_at hl 0 rfl) ?_
  refine lv_bipush (v := 48) hx hb dX10_emitNumber_18 rfl ?_
  refine lv_iload_n hx hb dX10_emitNumber_20 rfl (lv_at hl 1 rfl) ?_
  refine lv_bipush (v := 10) hx hb dX10_emitNumber_21 rfl ?_
  refine lv_irem hx hb dX10_emitNumber_23 (by decide) ?_
  refine lv_iadd hx hb dX10_emitNumber_24 ?_
  refine kc_vV0 (b := h) (As := [.int (48 + (x1 - x1 / 10 * 10))]) (rest := []) h1 ⟨hx, hb, hml, hown, hts⟩ (cX10_emitM l D cy h a H.size u (48 + (x1 - x1 / 10 * 10))) (cwV 1 hts gX10_emitNumber_X10_emit rfl rfl rfl hdX10_emit ⟨Nat.le_of_ble_eq_true rfl, Nat.le_of_ble_eq_true rfl⟩) hK hP hD hS hA (q0 := 0) rfl rfl rfl hl.1 rfl (Nat.le_of_ble_eq_true rfl) dX10_emitNumber_25 ⟨Nat.zero_le _, Nat.zero_le _⟩ (fun u25 H locs h1 hP hD hS => ?_)
  exact kret_v hx hb hr hlocks hP hD hS h1 dX10_emitNumber_28
def fX10_emitNumber_b0 (x1 : Int32) (u : RS) : Option (RS) :=
  (if x1 < 10 then fX10_emitNumber_b17 x1 u else bnd (fX10_emit (48 + (x1 / 10)) u) (fun u14 => fX10_emitNumber_b17 x1 u14))
set_option maxHeartbeats 4000000 in
set_option maxRecDepth 100000 in
theorem tX10_emitNumber_b0 {p : Program} {l : Launch} {e : Env} {s : State} {m : MethodId} {args : Array Value} {below : List Frame} {meth : Method} {c : Code} {D : va_G} {cy : Nat → ClassId} {A : Nat → Prop} {h : Nat} {a : Nat → Nat} (K : RS → Prop) (E : mE D cy RX10 cX10_emitNumber 2 none wsX10_emitNumber A p s m args meth c)
     (x1 : Int32) (u : RS) (H : Heap) (locs : List Loc) (ls : Array Slot) (hl : lv_has ls 2 [(0, .ref h), (1, .int x1)]) (hP : va_P D vwCl (wM cy h a u) H) (hD : va_D A (wM cy h a u)) (hS : va_S A s.heap H locs) (h1 : Ok (fX10_emitNumber_b0 x1 u) K) :
    kW p l e rmX10_emitNumber s m args below meth c H locs (va_Qv K (fun q => kPost D A (wM cy h a q)) A) A 0 ls [] := by
  obtain ⟨hx, hb, hr, hml, hown, hts, hlocks, hK, hA⟩ := id E
  unfold fX10_emitNumber_b0 at h1
  refine lv_iload_n hx hb dX10_emitNumber_0 rfl (lv_at hl 1 rfl) ?_
  refine lv_bipush (v := 10) hx hb dX10_emitNumber_1 rfl ?_
  refine lv_icmp_lt (tgt := 17) hx hb dX10_emitNumber_3 (by decide) (fun c3 => ?_) (fun c3 => ?_)
  · replace h1 := Ok.pos c3 h1
    exact tX10_emitNumber_b17 K E x1 u H locs ls (lv_sub hl [0, 1] rfl) hP hD hS h1
  · replace h1 := Ok.neg c3 h1
    refine lv_aload_n hx hb dX10_emitNumber_6 rfl (lv_at hl 0 rfl) ?_
    refine lv_bipush (v := 48) hx hb dX10_emitNumber_7 rfl ?_
    refine lv_iload_n hx hb dX10_emitNumber_9 rfl (lv_at hl 1 rfl) ?_
    refine lv_bipush (v := 10) hx hb dX10_emitNumber_10 rfl ?_
    refine lv_idiv hx hb dX10_emitNumber_12 (by decide) ?_
    refine lv_iadd hx hb dX10_emitNumber_13 ?_
    refine kc_vV0 (b := h) (As := [.int (48 + (x1 / 10))]) (rest := []) h1 ⟨hx, hb, hml, hown, hts⟩ (cX10_emitM l D cy h a H.size u (48 + (x1 / 10))) (cwV 1 hts gX10_emitNumber_X10_emit rfl rfl rfl hdX10_emit ⟨Nat.le_of_ble_eq_true rfl, Nat.le_of_ble_eq_true rfl⟩) hK hP hD hS hA (q0 := 0) rfl rfl rfl hl.1 rfl (Nat.le_of_ble_eq_true rfl) dX10_emitNumber_14 ⟨Nat.zero_le _, Nat.zero_le _⟩ (fun u14 H locs h1 hP hD hS => ?_)
    exact tX10_emitNumber_b17 K E x1 u14 H locs ls (lv_sub hl [0, 1] rfl) hP hD hS h1
def fX10_emitNumber (p1 : Int32) (u : RS) : Option (RS) := fX10_emitNumber_b0 p1 u
set_option maxHeartbeats 4000000 in
set_option maxRecDepth 100000 in
theorem cX10_emitNumberM (l : Launch) (D : va_G) (cy : Nat → ClassId) (h : Nat) (a : Nat → Nat) (sz : Nat) (u : RS) (p1 : Int32) : ∀ (K : RS → Prop), Ok (fX10_emitNumber p1 u) K → Met l yX10_emitNumber wsX10_emitNumber rmX10_emitNumber (va_Pc [.ref h, .int p1] (kPre D cy sz (wM cy h a u))) (va_Qv K (fun q => kPost D (va_A (wM cy h a u) sz) (wM cy h a q)) (va_A (wM cy h a u) sz)) 0 0 (va_A (wM cy h a u) sz) := by
  intro K h1
  refine Met.ofW (cc := cX10_emitNumber) (maxL := 2) (ret := none) (by decide) rfl ?_
  intro p e s m args below meth c s₁ B hml hv
  obtain ⟨rfl, hsz, hP, hK, hD0⟩ := hv
  subst hsz
  have E : mE D cy RX10 cX10_emitNumber 2 none wsX10_emitNumber (va_A (wM cy h a u) s.heap.size) p s m _ meth c := ⟨B.exec, B.bytes, B.returns, hml, findClass_of_methodNamed B.named, atoms_spec (ws := wsX10_emitNumber) B.pre, B.notSynchronized, hK, fun q h => Or.inr h⟩
  have hl := lv_entry ([.ref h, .int p1]) (n := 2) (Nat.le_of_ble_eq_true rfl)
  rw [lg_entry_eq]
  generalize (lg_sl ([.ref h, .int p1]) ++ List.replicate (2 - (lg_sl ([.ref h, .int p1])).length) Slot.unset).toArray = ls at hl ⊢
  exact tX10_emitNumber_b0 K E p1 u _ _ _ hl hP hD0.self va_S.rf h1
-- X10_writeLanes
theorem inX10_writeLanes_X10 : ∀ w ∈ u_ws RX10 TX10 23, w ∈ wsX10_writeLanes := k_lays 46 rfl
theorem lkX10_writeLanes_48 : Cond.fieldLink RX10 48 "FerryRampModel" "thrown" "I" ∈ wsX10_writeLanes := List.mem_of_getElem? (i := 1) rfl
theorem lkX10_writeLanes_424 : Cond.fieldLink RX10 424 "FerryRampModel" "outputLength" "I" ∈ wsX10_writeLanes := List.mem_of_getElem? (i := 2) rfl
theorem hdX10_emitNumber : yX10_emitNumber.cls = RX10 ∧ yX10_emitNumber.cls ≠ "java/lang/invoke/MethodHandle" ∧ yX10_emitNumber.cls ≠ "java/lang/invoke/VarHandle" ∧ (parseMethodDescriptor yX10_emitNumber.desc).map (fun d => d.parameters.length) = some 1 := by decide +kernel
abbrev rmX10_writeLanes : Room := { frames := 3, cells := 0, slots := 0, locals := 71 }
def fX10_writeLanes_b38 (k12 : Int32 × RS → Option (Int32 × RS)) (k19 : Int32 × Int32 × RS → Option (Int32 × RS)) (x1 : Int32) (x2 : Int32) (u : RS) : Option (Int32 × RS) :=
  bnd (fX10_standingAt x1 x2 (mSt u)) (fun r42 => bnd (fX10_emitNumber r42 u) (fun u45 => k19 (x1, x2 + 1, u45)))
set_option maxHeartbeats 4000000 in
set_option maxRecDepth 100000 in
theorem tX10_writeLanes_b38 {p : Program} {l : Launch} {e : Env} {s : State} {m : MethodId} {args : Array Value} {below : List Frame} {meth : Method} {c : Code} {D : va_G} {cy : Nat → ClassId} {A : Nat → Prop} {h : Nat} {a : Nat → Nat} (K : Int32 × RS → Prop) (E : mE D cy RX10 cX10_writeLanes 3 (some .int) wsX10_writeLanes A p s m args meth c)
    (k12 : Int32 × RS → Option (Int32 × RS)) (hk12 : ∀ (x1 : Int32) (u : RS) (H : Heap) (locs : List Loc) (ls : Array Slot), lv_has ls 3 [(0, .ref h), (1, .int x1)] → va_P D vwCl (wM cy h a u) H → va_D A (wM cy h a u) → va_S A s.heap H locs → Ok (k12 (x1, u)) K → kW p l e rmX10_writeLanes s m args below meth c H locs (va_Qi (fun r q => K (r, q)) (fun q => kPost D A (wM cy h a q)) A) A 12 ls [])
    (k19 : Int32 × Int32 × RS → Option (Int32 × RS)) (hk19 : ∀ (x1 : Int32) (x2 : Int32) (u : RS) (H : Heap) (locs : List Loc) (ls : Array Slot), lv_has ls 3 [(0, .ref h), (1, .int x1), (2, .int x2)] → va_P D vwCl (wM cy h a u) H → va_D A (wM cy h a u) → va_S A s.heap H locs → Ok (k19 (x1, x2, u)) K → kW p l e rmX10_writeLanes s m args below meth c H locs (va_Qi (fun r q => K (r, q)) (fun q => kPost D A (wM cy h a q)) A) A 19 ls [])
     (x1 : Int32) (x2 : Int32) (u : RS) (H : Heap) (locs : List Loc) (ls : Array Slot) (hl : lv_has ls 3 [(0, .ref h), (1, .int x1), (2, .int x2)]) (hP : va_P D vwCl (wM cy h a u) H) (hD : va_D A (wM cy h a u)) (hS : va_S A s.heap H locs) (h1 : Ok (fX10_writeLanes_b38 k12 k19 x1 x2 u) K) :
    kW p l e rmX10_writeLanes s m args below meth c H locs (va_Qi (fun r q => K (r, q)) (fun q => kPost D A (wM cy h a q)) A) A 38 ls [] := by
  obtain ⟨hx, hb, hr, hml, hown, hts, hlocks, hK, hA⟩ := id E
  unfold fX10_writeLanes_b38 at h1
  refine lv_aload_n hx hb dX10_writeLanes_38 rfl (lv_at hl 0 rfl) ?_
  refine lv_aload_n hx hb dX10_writeLanes_39 rfl (lv_at hl 0 rfl) ?_
  refine lv_iload_n hx hb dX10_writeLanes_40 rfl (lv_at hl 1 rfl) ?_
  refine lv_iload_n hx hb dX10_writeLanes_41 rfl (lv_at hl 2 rfl) ?_
  refine kc_rV (b := h) (As := [.int x1, .int x2]) (rest := [.ref h]) h1 ⟨hx, hb, hml, hown, hts⟩ (cX10_standingAtM l D cy h (a 0) (mRest a u) H.size (mSt u) x1 x2) (cwV 2 hts gX10_writeLanes_X10_standingAt rfl rfl rfl hdX10_standingAt ⟨Nat.le_of_ble_eq_true rfl, Nat.le_of_ble_eq_true rfl⟩) hK (wM_split _ _ _ _) hP hD hS hA (q0 := 0) rfl rfl rfl hl.1 rfl (Nat.le_of_ble_eq_true rfl) dX10_writeLanes_42 ⟨Nat.zero_le _, Nat.zero_le _⟩ (fun r42 H locs h1 hP hS => ?_)
  refine kc_vV0 (b := h) (As := [.int r42]) (rest := []) h1 ⟨hx, hb, hml, hown, hts⟩ (cX10_emitNumberM l D cy h a H.size u r42) (cwV 1 hts gX10_writeLanes_X10_emitNumber rfl rfl rfl hdX10_emitNumber ⟨Nat.le_of_ble_eq_true rfl, Nat.le_of_ble_eq_true rfl⟩) hK hP hD hS hA (q0 := 0) rfl rfl rfl hl.1 rfl (Nat.le_of_ble_eq_true rfl) dX10_writeLanes_45 ⟨Nat.zero_le _, Nat.zero_le _⟩ (fun u45 H locs h1 hP hD hS => ?_)
  refine lv_iinc (v := x2 + 1) (lv' := [(2, .int (x2 + 1)), (0, .ref h), (1, .int x1)]) hx hb dX10_writeLanes_48 hl (k := 2) rfl rfl (by decide) rfl (fun ls hl => ?_)
  refine lv_goto (tgt := 19) hx hb dX10_writeLanes_51 (by decide) ?_
  exact hk19 x1 (x2 + 1) u45 H locs ls (lv_sub hl [1, 2, 0] rfl) hP hD hS h1
def fX10_writeLanes_b19 (k12 : Int32 × RS → Option (Int32 × RS)) (k19 : Int32 × Int32 × RS → Option (Int32 × RS)) (x1 : Int32) (x2 : Int32) (u : RS) : Option (Int32 × RS) :=
  bnd (fX10_standingMany x1 (mSt u)) (fun r22 => (if r22 ≤ x2 then bnd (fX10_emit 47 u) (fun u57 => bnd (fX10_freeOf x1 (mSt u57)) (fun r63 => bnd (fX10_emitNumber r63 u57) (fun u66 => bnd (fX10_emit 59 u66) (fun u72 => k12 (x1 + 1, u72))))) else (if x2 ≤ 0 then fX10_writeLanes_b38 k12 k19 x1 x2 u else bnd (fX10_emit 44 u) (fun u35 => fX10_writeLanes_b38 k12 k19 x1 x2 u35))))
set_option maxHeartbeats 4000000 in
set_option maxRecDepth 100000 in
theorem tX10_writeLanes_b19 {p : Program} {l : Launch} {e : Env} {s : State} {m : MethodId} {args : Array Value} {below : List Frame} {meth : Method} {c : Code} {D : va_G} {cy : Nat → ClassId} {A : Nat → Prop} {h : Nat} {a : Nat → Nat} (K : Int32 × RS → Prop) (E : mE D cy RX10 cX10_writeLanes 3 (some .int) wsX10_writeLanes A p s m args meth c)
    (k12 : Int32 × RS → Option (Int32 × RS)) (hk12 : ∀ (x1 : Int32) (u : RS) (H : Heap) (locs : List Loc) (ls : Array Slot), lv_has ls 3 [(0, .ref h), (1, .int x1)] → va_P D vwCl (wM cy h a u) H → va_D A (wM cy h a u) → va_S A s.heap H locs → Ok (k12 (x1, u)) K → kW p l e rmX10_writeLanes s m args below meth c H locs (va_Qi (fun r q => K (r, q)) (fun q => kPost D A (wM cy h a q)) A) A 12 ls [])
    (k19 : Int32 × Int32 × RS → Option (Int32 × RS)) (hk19 : ∀ (x1 : Int32) (x2 : Int32) (u : RS) (H : Heap) (locs : List Loc) (ls : Array Slot), lv_has ls 3 [(0, .ref h), (1, .int x1), (2, .int x2)] → va_P D vwCl (wM cy h a u) H → va_D A (wM cy h a u) → va_S A s.heap H locs → Ok (k19 (x1, x2, u)) K → kW p l e rmX10_writeLanes s m args below meth c H locs (va_Qi (fun r q => K (r, q)) (fun q => kPost D A (wM cy h a q)) A) A 19 ls [])
     (x1 : Int32) (x2 : Int32) (u : RS) (H : Heap) (locs : List Loc) (ls : Array Slot) (hl : lv_has ls 3 [(0, .ref h), (1, .int x1), (2, .int x2)]) (hP : va_P D vwCl (wM cy h a u) H) (hD : va_D A (wM cy h a u)) (hS : va_S A s.heap H locs) (h1 : Ok (fX10_writeLanes_b19 k12 k19 x1 x2 u) K) :
    kW p l e rmX10_writeLanes s m args below meth c H locs (va_Qi (fun r q => K (r, q)) (fun q => kPost D A (wM cy h a q)) A) A 19 ls [] := by
  obtain ⟨hx, hb, hr, hml, hown, hts, hlocks, hK, hA⟩ := id E
  unfold fX10_writeLanes_b19 at h1
  refine lv_iload_n hx hb dX10_writeLanes_19 rfl (lv_at hl 2 rfl) ?_
  refine lv_aload_n hx hb dX10_writeLanes_20 rfl (lv_at hl 0 rfl) ?_
  refine lv_iload_n hx hb dX10_writeLanes_21 rfl (lv_at hl 1 rfl) ?_
  refine kc_rV (b := h) (As := [.int x1]) (rest := [.int x2]) h1 ⟨hx, hb, hml, hown, hts⟩ (cX10_standingManyM l D cy h (a 0) (mRest a u) H.size (mSt u) x1) (cwV 1 hts gX10_writeLanes_X10_standingMany rfl rfl rfl hdX10_standingMany ⟨Nat.le_of_ble_eq_true rfl, Nat.le_of_ble_eq_true rfl⟩) hK (wM_split _ _ _ _) hP hD hS hA (q0 := 0) rfl rfl rfl hl.1 rfl (Nat.le_of_ble_eq_true rfl) dX10_writeLanes_22 ⟨Nat.zero_le _, Nat.zero_le _⟩ (fun r22 H locs h1 hP hS => ?_)
  refine lv_icmp_ge (tgt := 54) hx hb dX10_writeLanes_25 (by decide) (fun c25 => ?_) (fun c25 => ?_)
  · replace h1 := Ok.pos c25 h1
    refine lv_aload_n hx hb dX10_writeLanes_54 rfl (lv_at hl 0 rfl) ?_
    refine lv_bipush (v := 47) hx hb dX10_writeLanes_55 rfl ?_
    refine kc_vV0 (b := h) (As := [.int 47]) (rest := []) h1 ⟨hx, hb, hml, hown, hts⟩ (cX10_emitM l D cy h a H.size u 47) (cwV 1 hts gX10_writeLanes_X10_emit rfl rfl rfl hdX10_emit ⟨Nat.le_of_ble_eq_true rfl, Nat.le_of_ble_eq_true rfl⟩) hK hP hD hS hA (q0 := 0) rfl rfl rfl hl.1 rfl (Nat.le_of_ble_eq_true rfl) dX10_writeLanes_57 ⟨Nat.zero_le _, Nat.zero_le _⟩ (fun u57 H locs h1 hP hD hS => ?_)
    refine lv_aload_n hx hb dX10_writeLanes_60 rfl (lv_at hl 0 rfl) ?_
    refine lv_aload_n hx hb dX10_writeLanes_61 rfl (lv_at hl 0 rfl) ?_
    refine lv_iload_n hx hb dX10_writeLanes_62 rfl (lv_at hl 1 rfl) ?_
    refine kc_rV (b := h) (As := [.int x1]) (rest := [.ref h]) h1 ⟨hx, hb, hml, hown, hts⟩ (cX10_freeOfM l D cy h (a 0) (mRest a u57) H.size (mSt u57) x1) (cwV 1 hts gX10_writeLanes_X10_freeOf rfl rfl rfl hdX10_freeOf ⟨Nat.le_of_ble_eq_true rfl, Nat.le_of_ble_eq_true rfl⟩) hK (wM_split _ _ _ _) hP hD hS hA (q0 := 0) rfl rfl rfl hl.1 rfl (Nat.le_of_ble_eq_true rfl) dX10_writeLanes_63 ⟨Nat.zero_le _, Nat.zero_le _⟩ (fun r63 H locs h1 hP hS => ?_)
    refine kc_vV0 (b := h) (As := [.int r63]) (rest := []) h1 ⟨hx, hb, hml, hown, hts⟩ (cX10_emitNumberM l D cy h a H.size u57 r63) (cwV 1 hts gX10_writeLanes_X10_emitNumber rfl rfl rfl hdX10_emitNumber ⟨Nat.le_of_ble_eq_true rfl, Nat.le_of_ble_eq_true rfl⟩) hK hP hD hS hA (q0 := 0) rfl rfl rfl hl.1 rfl (Nat.le_of_ble_eq_true rfl) dX10_writeLanes_66 ⟨Nat.zero_le _, Nat.zero_le _⟩ (fun u66 H locs h1 hP hD hS => ?_)
    refine lv_aload_n hx hb dX10_writeLanes_69 rfl (lv_at hl 0 rfl) ?_
    refine lv_bipush (v := 59) hx hb dX10_writeLanes_70 rfl ?_
    refine kc_vV0 (b := h) (As := [.int 59]) (rest := []) h1 ⟨hx, hb, hml, hown, hts⟩ (cX10_emitM l D cy h a H.size u66 59) (cwV 1 hts gX10_writeLanes_X10_emit rfl rfl rfl hdX10_emit ⟨Nat.le_of_ble_eq_true rfl, Nat.le_of_ble_eq_true rfl⟩) hK hP hD hS hA (q0 := 0) rfl rfl rfl hl.1 rfl (Nat.le_of_ble_eq_true rfl) dX10_writeLanes_72 ⟨Nat.zero_le _, Nat.zero_le _⟩ (fun u72 H locs h1 hP hD hS => ?_)
    refine lv_iinc (v := x1 + 1) (lv' := [(1, .int (x1 + 1)), (0, .ref h), (2, .int x2)]) hx hb dX10_writeLanes_75 hl (k := 1) rfl rfl (by decide) rfl (fun ls hl => ?_)
    refine lv_goto (tgt := 12) hx hb dX10_writeLanes_78 (by decide) ?_
    exact hk12 (x1 + 1) u72 H locs ls (lv_sub hl [1, 0] rfl) hP hD hS h1
  · replace h1 := Ok.neg c25 h1
    refine lv_iload_n hx hb dX10_writeLanes_28 rfl (lv_at hl 2 rfl) ?_
    refine lv_if_le (tgt := 38) hx hb dX10_writeLanes_29 (by decide) (fun c29 => ?_) (fun c29 => ?_)
    · replace h1 := Ok.pos c29 h1
      exact tX10_writeLanes_b38 K E k12 hk12 k19 hk19 x1 x2 u H locs ls (lv_sub hl [0, 1, 2] rfl) hP hD hS h1
    · replace h1 := Ok.neg c29 h1
      refine lv_aload_n hx hb dX10_writeLanes_32 rfl (lv_at hl 0 rfl) ?_
      refine lv_bipush (v := 44) hx hb dX10_writeLanes_33 rfl ?_
      refine kc_vV0 (b := h) (As := [.int 44]) (rest := []) h1 ⟨hx, hb, hml, hown, hts⟩ (cX10_emitM l D cy h a H.size u 44) (cwV 1 hts gX10_writeLanes_X10_emit rfl rfl rfl hdX10_emit ⟨Nat.le_of_ble_eq_true rfl, Nat.le_of_ble_eq_true rfl⟩) hK hP hD hS hA (q0 := 0) rfl rfl rfl hl.1 rfl (Nat.le_of_ble_eq_true rfl) dX10_writeLanes_35 ⟨Nat.zero_le _, Nat.zero_le _⟩ (fun u35 H locs h1 hP hD hS => ?_)
      exact tX10_writeLanes_b38 K E k12 hk12 k19 hk19 x1 x2 u35 H locs ls (lv_sub hl [0, 1, 2] rfl) hP hD hS h1
theorem tX10_writeLanes_l19 {p : Program} {l : Launch} {e : Env} {s : State} {m : MethodId} {args : Array Value} {below : List Frame} {meth : Method} {c : Code} {D : va_G} {cy : Nat → ClassId} {A : Nat → Prop} {h : Nat} {a : Nat → Nat} (K : Int32 × RS → Prop) (E : mE D cy RX10 cX10_writeLanes 3 (some .int) wsX10_writeLanes A p s m args meth c)
    (k12 : Int32 × RS → Option (Int32 × RS)) (hk12 : ∀ (x1 : Int32) (u : RS) (H : Heap) (locs : List Loc) (ls : Array Slot), lv_has ls 3 [(0, .ref h), (1, .int x1)] → va_P D vwCl (wM cy h a u) H → va_D A (wM cy h a u) → va_S A s.heap H locs → Ok (k12 (x1, u)) K → kW p l e rmX10_writeLanes s m args below meth c H locs (va_Qi (fun r q => K (r, q)) (fun q => kPost D A (wM cy h a q)) A) A 12 ls []) : ∀ (n9 : Nat) (x1 : Int32) (x2 : Int32) (u : RS) (H : Heap) (locs : List Loc) (ls : Array Slot), lv_has ls 3 [(0, .ref h), (1, .int x1), (2, .int x2)] → va_P D vwCl (wM cy h a u) H → va_D A (wM cy h a u) → va_S A s.heap H locs → Ok (lop (fun y z => fX10_writeLanes_b19 k12 y z.1 z.2.1 z.2.2) n9 (x1, x2, u)) K → kW p l e rmX10_writeLanes s m args below meth c H locs (va_Qi (fun r q => K (r, q)) (fun q => kPost D A (wM cy h a q)) A) A 19 ls [] := by
  intro n9
  induction n9 with
  | zero =>
    intro x1 x2 u H locs ls hl hP hD hS h1
    exact h1.no
  | succ n9 ih =>
    intro x1 x2 u H locs ls hl hP hD hS h1
    exact tX10_writeLanes_b19 K E k12 hk12 (lop (fun y z => fX10_writeLanes_b19 k12 y z.1 z.2.1 z.2.2) n9) (fun x1 x2 u H locs ls hl hP hD hS h1 => ih x1 x2 u H locs ls hl hP hD hS h1) x1 x2 u H locs ls hl hP hD hS h1
def fX10_writeLanes_b12 (k12 : Int32 × RS → Option (Int32 × RS)) (x1 : Int32) (u : RS) : Option (Int32 × RS) :=
  (if 3 ≤ x1 then some (mOl u, u) else lop (fun y z => fX10_writeLanes_b19 k12 y z.1 z.2.1 z.2.2) LF (x1, 0, u))
set_option maxHeartbeats 4000000 in
set_option maxRecDepth 100000 in
theorem tX10_writeLanes_b12 {p : Program} {l : Launch} {e : Env} {s : State} {m : MethodId} {args : Array Value} {below : List Frame} {meth : Method} {c : Code} {D : va_G} {cy : Nat → ClassId} {A : Nat → Prop} {h : Nat} {a : Nat → Nat} (K : Int32 × RS → Prop) (E : mE D cy RX10 cX10_writeLanes 3 (some .int) wsX10_writeLanes A p s m args meth c)
    (k12 : Int32 × RS → Option (Int32 × RS)) (hk12 : ∀ (x1 : Int32) (u : RS) (H : Heap) (locs : List Loc) (ls : Array Slot), lv_has ls 3 [(0, .ref h), (1, .int x1)] → va_P D vwCl (wM cy h a u) H → va_D A (wM cy h a u) → va_S A s.heap H locs → Ok (k12 (x1, u)) K → kW p l e rmX10_writeLanes s m args below meth c H locs (va_Qi (fun r q => K (r, q)) (fun q => kPost D A (wM cy h a q)) A) A 12 ls [])
     (x1 : Int32) (u : RS) (H : Heap) (locs : List Loc) (ls : Array Slot) (hl : lv_has ls 3 [(0, .ref h), (1, .int x1)]) (hP : va_P D vwCl (wM cy h a u) H) (hD : va_D A (wM cy h a u)) (hS : va_S A s.heap H locs) (h1 : Ok (fX10_writeLanes_b12 k12 x1 u) K) :
    kW p l e rmX10_writeLanes s m args below meth c H locs (va_Qi (fun r q => K (r, q)) (fun q => kPost D A (wM cy h a q)) A) A 12 ls [] := by
  obtain ⟨hx, hb, hr, hml, hown, hts, hlocks, hK, hA⟩ := id E
  unfold fX10_writeLanes_b12 at h1
  refine lv_iload_n hx hb dX10_writeLanes_12 rfl (lv_at hl 1 rfl) ?_
  refine lv_iconst (v := 3) hx hb dX10_writeLanes_13 rfl ?_
  refine lv_icmp_ge (tgt := 81) hx hb dX10_writeLanes_14 (by decide) (fun c14 => ?_) (fun c14 => ?_)
  · replace h1 := Ok.pos c14 h1
    refine lv_aload_n hx hb dX10_writeLanes_81 rfl (lv_at hl 0 rfl) ?_
    refine k_get (v := .int (mOl u)) (C := RX10) (T := TX10) (N := 23) hx hb hts inX10_writeLanes_X10 hown hK hP 0 (wM_a0 _ _ _ _) rfl 22 (by decide) lkX10_writeLanes_424 (mFs_22 _ _) dX10_writeLanes_82 ?_
    exact kret_i hx hb hr hlocks hP hD hS h1 dX10_writeLanes_85
  · replace h1 := Ok.neg c14 h1
    refine lv_iconst (v := 0) hx hb dX10_writeLanes_17 rfl ?_
    refine lv_istore_n (lv' := [(2, .int 0), (0, .ref h), (1, .int x1)]) hx hb dX10_writeLanes_18 rfl hl (by decide) rfl (fun ls hl => ?_)
    exact tX10_writeLanes_l19 K E k12 hk12 LF x1 0 u H locs ls (lv_sub hl [1, 2, 0] rfl) hP hD hS h1
theorem tX10_writeLanes_l12 {p : Program} {l : Launch} {e : Env} {s : State} {m : MethodId} {args : Array Value} {below : List Frame} {meth : Method} {c : Code} {D : va_G} {cy : Nat → ClassId} {A : Nat → Prop} {h : Nat} {a : Nat → Nat} (K : Int32 × RS → Prop) (E : mE D cy RX10 cX10_writeLanes 3 (some .int) wsX10_writeLanes A p s m args meth c) : ∀ (n9 : Nat) (x1 : Int32) (u : RS) (H : Heap) (locs : List Loc) (ls : Array Slot), lv_has ls 3 [(0, .ref h), (1, .int x1)] → va_P D vwCl (wM cy h a u) H → va_D A (wM cy h a u) → va_S A s.heap H locs → Ok (lop (fun y z => fX10_writeLanes_b12 y z.1 z.2) n9 (x1, u)) K → kW p l e rmX10_writeLanes s m args below meth c H locs (va_Qi (fun r q => K (r, q)) (fun q => kPost D A (wM cy h a q)) A) A 12 ls [] := by
  intro n9
  induction n9 with
  | zero =>
    intro x1 u H locs ls hl hP hD hS h1
    exact h1.no
  | succ n9 ih =>
    intro x1 u H locs ls hl hP hD hS h1
    exact tX10_writeLanes_b12 K E (lop (fun y z => fX10_writeLanes_b12 y z.1 z.2) n9) (fun x1 u H locs ls hl hP hD hS h1 => ih x1 u H locs ls hl hP hD hS h1) x1 u H locs ls hl hP hD hS h1
def fX10_writeLanes_b0 (u : RS) : Option (Int32 × RS) :=
  lop (fun y z => fX10_writeLanes_b12 y z.1 z.2) LF (0, nOl (nTh u 0) 0)
set_option maxHeartbeats 4000000 in
set_option maxRecDepth 100000 in
theorem tX10_writeLanes_b0 {p : Program} {l : Launch} {e : Env} {s : State} {m : MethodId} {args : Array Value} {below : List Frame} {meth : Method} {c : Code} {D : va_G} {cy : Nat → ClassId} {A : Nat → Prop} {h : Nat} {a : Nat → Nat} (K : Int32 × RS → Prop) (E : mE D cy RX10 cX10_writeLanes 3 (some .int) wsX10_writeLanes A p s m args meth c)
     (u : RS) (H : Heap) (locs : List Loc) (ls : Array Slot) (hl : lv_has ls 3 [(0, .ref h)]) (hP : va_P D vwCl (wM cy h a u) H) (hD : va_D A (wM cy h a u)) (hS : va_S A s.heap H locs) (h1 : Ok (fX10_writeLanes_b0 u) K) :
    kW p l e rmX10_writeLanes s m args below meth c H locs (va_Qi (fun r q => K (r, q)) (fun q => kPost D A (wM cy h a q)) A) A 0 ls [] := by
  obtain ⟨hx, hb, hr, hml, hown, hts, hlocks, hK, hA⟩ := id E
  unfold fX10_writeLanes_b0 at h1
  refine lv_aload_n hx hb dX10_writeLanes_0 rfl (lv_at hl 0 rfl) ?_
  refine lv_iconst (v := 0) hx hb dX10_writeLanes_1 rfl ?_
  refine k_put (v := .int 0) (ty := .int) (C := RX10) (T := TX10) (N := 23) hx hb hts inX10_writeLanes_X10 tyX10 tyX10_ok nmX10 hown hK hP hD hS 0 (wM_a0 _ _ _ _) rfl 8 (by decide) lkX10_writeLanes_48 rfl (by decide +kernel) rfl rfl (Nat.le_of_ble_eq_true rfl) (ws' := wM cy h a (nTh u 0)) (wM_nTh _ _ _ _ _) dX10_writeLanes_2 (fun H locs hP hD hS => ?_)
  refine lv_aload_n hx hb dX10_writeLanes_5 rfl (lv_at hl 0 rfl) ?_
  refine lv_iconst (v := 0) hx hb dX10_writeLanes_6 rfl ?_
  refine k_put (v := .int 0) (ty := .int) (C := RX10) (T := TX10) (N := 23) hx hb hts inX10_writeLanes_X10 tyX10 tyX10_ok nmX10 hown hK hP hD hS 0 (wM_a0 _ _ _ _) rfl 22 (by decide) lkX10_writeLanes_424 rfl (by decide +kernel) rfl rfl (Nat.le_of_ble_eq_true rfl) (ws' := wM cy h a (nOl (nTh u 0) 0)) (wM_nOl _ _ _ _ _) dX10_writeLanes_7 (fun H locs hP hD hS => ?_)
  refine lv_iconst (v := 0) hx hb dX10_writeLanes_10 rfl ?_
  refine lv_istore_n (lv' := [(1, .int 0), (0, .ref h)]) hx hb dX10_writeLanes_11 rfl hl (by decide) rfl (fun ls hl => ?_)
  exact tX10_writeLanes_l12 K E LF 0 (nOl (nTh u 0) 0) H locs ls (lv_sub hl [1, 0] rfl) hP hD hS h1
def fX10_writeLanes (u : RS) : Option (Int32 × RS) := fX10_writeLanes_b0 u
set_option maxHeartbeats 4000000 in
set_option maxRecDepth 100000 in
theorem cX10_writeLanesM (l : Launch) (D : va_G) (cy : Nat → ClassId) (h : Nat) (a : Nat → Nat) (sz : Nat) (u : RS) : ∀ (K : Int32 → RS → Prop), Ok (fX10_writeLanes u) (fun q => K q.1 q.2) → Met l yX10_writeLanes wsX10_writeLanes rmX10_writeLanes (va_Pc [.ref h] (kPre D cy sz (wM cy h a u))) (va_Qi K (fun q => kPost D (va_A (wM cy h a u) sz) (wM cy h a q)) (va_A (wM cy h a u) sz)) 0 0 (va_A (wM cy h a u) sz) := by
  intro K h1
  refine Met.ofW (cc := cX10_writeLanes) (maxL := 3) (ret := (some .int)) (by decide) rfl ?_
  intro p e s m args below meth c s₁ B hml hv
  obtain ⟨rfl, hsz, hP, hK, hD0⟩ := hv
  subst hsz
  have E : mE D cy RX10 cX10_writeLanes 3 (some .int) wsX10_writeLanes (va_A (wM cy h a u) s.heap.size) p s m _ meth c := ⟨B.exec, B.bytes, B.returns, hml, findClass_of_methodNamed B.named, atoms_spec (ws := wsX10_writeLanes) B.pre, B.notSynchronized, hK, fun q h => Or.inr h⟩
  have hl := lv_entry ([.ref h]) (n := 3) (Nat.le_of_ble_eq_true rfl)
  rw [lg_entry_eq]
  generalize (lg_sl ([.ref h]) ++ List.replicate (3 - (lg_sl ([.ref h])).length) Slot.unset).toArray = ls at hl ⊢
  exact tX10_writeLanes_b0 (fun q => K q.1 q.2) E u _ _ _ hl hP hD0.self va_S.rf h1
-- X10_output
theorem inX10_output_X10 : ∀ w ∈ u_ws RX10 TX10 23, w ∈ wsX10_output := k_lays 8 rfl
theorem lkX10_output_48 : Cond.fieldLink RX10 48 "FerryRampModel" "thrown" "I" ∈ wsX10_output := List.mem_of_getElem? (i := 1) rfl
theorem lkX10_output_424 : Cond.fieldLink RX10 424 "FerryRampModel" "outputLength" "I" ∈ wsX10_output := List.mem_of_getElem? (i := 2) rfl
theorem lkX10_output_42 : Cond.fieldLink RX10 42 "FerryRampModel" "output" "[I" ∈ wsX10_output := List.mem_of_getElem? (i := 3) rfl
abbrev rmX10_output : Room := { frames := 1, cells := 0, slots := 0, locals := 22 }
def fX10_output_b0 (x1 : Int32) (u : RS) : Option (Int32 × RS) :=
  bnd (fX10_isBetween x1 0 ((mOl (nTh u 0)) - 1)) (fun r13 => (if r13 = 0 then some ((-1), nTh u 0) else grd (inb x1 300) (some (mOu (nTh u 0) (ix x1), nTh u 0))))
set_option maxHeartbeats 4000000 in
set_option maxRecDepth 100000 in
theorem tX10_output_b0 {p : Program} {l : Launch} {e : Env} {s : State} {m : MethodId} {args : Array Value} {below : List Frame} {meth : Method} {c : Code} {D : va_G} {cy : Nat → ClassId} {A : Nat → Prop} {h : Nat} {a : Nat → Nat} (K : Int32 × RS → Prop) (E : mE D cy RX10 cX10_output 2 (some .int) wsX10_output A p s m args meth c)
     (x1 : Int32) (u : RS) (H : Heap) (locs : List Loc) (ls : Array Slot) (hl : lv_has ls 2 [(0, .ref h), (1, .int x1)]) (hP : va_P D vwCl (wM cy h a u) H) (hD : va_D A (wM cy h a u)) (hS : va_S A s.heap H locs) (h1 : Ok (fX10_output_b0 x1 u) K) :
    kW p l e rmX10_output s m args below meth c H locs (va_Qi (fun r q => K (r, q)) (fun q => kPost D A (wM cy h a q)) A) A 0 ls [] := by
  obtain ⟨hx, hb, hr, hml, hown, hts, hlocks, hK, hA⟩ := id E
  unfold fX10_output_b0 at h1
  refine lv_aload_n hx hb dX10_output_0 rfl (lv_at hl 0 rfl) ?_
  refine lv_iconst (v := 0) hx hb dX10_output_1 rfl ?_
  refine k_put (v := .int 0) (ty := .int) (C := RX10) (T := TX10) (N := 23) hx hb hts inX10_output_X10 tyX10 tyX10_ok nmX10 hown hK hP hD hS 0 (wM_a0 _ _ _ _) rfl 8 (by decide) lkX10_output_48 rfl (by decide +kernel) rfl rfl (Nat.le_of_ble_eq_true rfl) (ws' := wM cy h a (nTh u 0)) (wM_nTh _ _ _ _ _) dX10_output_2 (fun H locs hP hD hS => ?_)
  refine lv_iload_n hx hb dX10_output_5 rfl (lv_at hl 1 rfl) ?_
  refine lv_iconst (v := 0) hx hb dX10_output_6 rfl ?_
  refine lv_aload_n hx hb dX10_output_7 rfl (lv_at hl 0 rfl) ?_
  refine k_get (v := .int (mOl (nTh u 0))) (C := RX10) (T := TX10) (N := 23) hx hb hts inX10_output_X10 hown hK hP 0 (wM_a0 _ _ _ _) rfl 22 (by decide) lkX10_output_424 (mFs_22 _ _) dX10_output_8 ?_
  refine lv_iconst (v := 1) hx hb dX10_output_11 rfl ?_
  refine lv_isub hx hb dX10_output_12 ?_
  refine kc_rS (As := [.int x1, .int 0, .int ((mOl (nTh u 0)) - 1)]) (rest := []) (wc := []) (wr := _) h1 ⟨hx, hb, hml, hown, hts⟩ (cX10_isBetweenM l D cy H.size x1 0 ((mOl (nTh u 0)) - 1)) (va_cwS 3 hts gX10_output_X10_isBetween rfl rfl rfl heX10_isBetween ⟨Nat.le_of_ble_eq_true rfl, Nat.le_of_ble_eq_true rfl⟩) hK (List.Perm.refl _) hP hD hS hA rfl hl.1 rfl (Nat.le_of_ble_eq_true rfl) dX10_output_13 ⟨Nat.zero_le _, Nat.zero_le _⟩ (fun r13 H locs h1 hP hS => ?_)
  refine lv_if_eq (tgt := 28) hx hb dX10_output_16 (by decide) (fun c16 => ?_) (fun c16 => ?_)
  · replace h1 := Ok.pos c16 h1
    refine lv_iconst (v := (-1)) hx hb dX10_output_28 rfl ?_
    exact kret_i hx hb hr hlocks hP hD hS h1 dX10_output_29
  · replace h1 := Ok.neg c16 h1
    refine lv_aload_n hx hb dX10_output_19 rfl (lv_at hl 0 rfl) ?_
    refine k_get (v := .ref (a 9)) (C := RX10) (T := TX10) (N := 23) hx hb hts inX10_output_X10 hown hK hP 0 (wM_a0 _ _ _ _) rfl 21 (by decide) lkX10_output_42 (mFs_21 _ _) dX10_output_20 ?_
    refine lv_iload_n hx hb dX10_output_23 rfl (lv_at hl 1 rfl) ?_
    have g24 := h1.grd1
    replace h1 := h1.grd2
    refine k_iald (k := (ix x1)) hx hb hK hP 10 (wM_a10 _ _ _ _) g24 rfl dX10_output_24 ?_
    refine lv_goto (tgt := 29) hx hb dX10_output_25 (by decide) ?_
    exact kret_i hx hb hr hlocks hP hD hS h1 dX10_output_29
def fX10_output (p1 : Int32) (u : RS) : Option (Int32 × RS) := fX10_output_b0 p1 u
set_option maxHeartbeats 4000000 in
set_option maxRecDepth 100000 in
theorem cX10_outputM (l : Launch) (D : va_G) (cy : Nat → ClassId) (h : Nat) (a : Nat → Nat) (sz : Nat) (u : RS) (p1 : Int32) : ∀ (K : Int32 → RS → Prop), Ok (fX10_output p1 u) (fun q => K q.1 q.2) → Met l yX10_output wsX10_output rmX10_output (va_Pc [.ref h, .int p1] (kPre D cy sz (wM cy h a u))) (va_Qi K (fun q => kPost D (va_A (wM cy h a u) sz) (wM cy h a q)) (va_A (wM cy h a u) sz)) 0 0 (va_A (wM cy h a u) sz) := by
  intro K h1
  refine Met.ofW (cc := cX10_output) (maxL := 2) (ret := (some .int)) (by decide) rfl ?_
  intro p e s m args below meth c s₁ B hml hv
  obtain ⟨rfl, hsz, hP, hK, hD0⟩ := hv
  subst hsz
  have E : mE D cy RX10 cX10_output 2 (some .int) wsX10_output (va_A (wM cy h a u) s.heap.size) p s m _ meth c := ⟨B.exec, B.bytes, B.returns, hml, findClass_of_methodNamed B.named, atoms_spec (ws := wsX10_output) B.pre, B.notSynchronized, hK, fun q h => Or.inr h⟩
  have hl := lv_entry ([.ref h, .int p1]) (n := 2) (Nat.le_of_ble_eq_true rfl)
  rw [lg_entry_eq]
  generalize (lg_sl ([.ref h, .int p1]) ++ List.replicate (2 - (lg_sl ([.ref h, .int p1])).length) Slot.unset).toArray = ls at hl ⊢
  exact tX10_output_b0 (fun q => K q.1 q.2) E p1 u _ _ _ hl hP hD0.self va_S.rf h1
-- X10_undo
theorem inX10_undo_X10 : ∀ w ∈ u_ws RX10 TX10 23, w ∈ wsX10_undo := k_lays 9 rfl
theorem lkX10_undo_48 : Cond.fieldLink RX10 48 "FerryRampModel" "thrown" "I" ∈ wsX10_undo := List.mem_of_getElem? (i := 1) rfl
theorem lkX10_undo_313 : Cond.fieldLink RX10 313 "FerryRampModel" "acts" "I" ∈ wsX10_undo := List.mem_of_getElem? (i := 2) rfl
theorem lkX10_undo_19 : Cond.fieldLink RX10 19 "FerryRampModel" "past" "[I" ∈ wsX10_undo := List.mem_of_getElem? (i := 3) rfl
theorem lkX10_undo_7 : Cond.fieldLink RX10 7 "FerryRampModel" "state" "[I" ∈ wsX10_undo := List.mem_of_getElem? (i := 4) rfl
abbrev rmX10_undo : Room := { frames := 1, cells := 0, slots := 0, locals := 24 }
def fX10_undo_b0 (u : RS) : Option (Int32 × RS) :=
  (if (mAc (nTh u 0)) = 0 then some ((-1), nTh u 0) else bnd (fX10_copy (561 * (mAc (nAc (nTh u 0) ((mAc (nTh u 0)) - 1)))) 0 4488 (mPa (nAc (nTh u 0) ((mAc (nTh u 0)) - 1))) 561 (mSt (nAc (nTh u 0) ((mAc (nTh u 0)) - 1)))) (fun u41 => some (mAc (nStA (nAc (nTh u 0) ((mAc (nTh u 0)) - 1)) u41), nStA (nAc (nTh u 0) ((mAc (nTh u 0)) - 1)) u41)))
set_option maxHeartbeats 4000000 in
set_option maxRecDepth 100000 in
theorem tX10_undo_b0 {p : Program} {l : Launch} {e : Env} {s : State} {m : MethodId} {args : Array Value} {below : List Frame} {meth : Method} {c : Code} {D : va_G} {cy : Nat → ClassId} {A : Nat → Prop} {h : Nat} {a : Nat → Nat} (K : Int32 × RS → Prop) (E : mE D cy RX10 cX10_undo 1 (some .int) wsX10_undo A p s m args meth c)
     (u : RS) (H : Heap) (locs : List Loc) (ls : Array Slot) (hl : lv_has ls 1 [(0, .ref h)]) (hP : va_P D vwCl (wM cy h a u) H) (hD : va_D A (wM cy h a u)) (hS : va_S A s.heap H locs) (h1 : Ok (fX10_undo_b0 u) K) :
    kW p l e rmX10_undo s m args below meth c H locs (va_Qi (fun r q => K (r, q)) (fun q => kPost D A (wM cy h a q)) A) A 0 ls [] := by
  obtain ⟨hx, hb, hr, hml, hown, hts, hlocks, hK, hA⟩ := id E
  unfold fX10_undo_b0 at h1
  refine lv_aload_n hx hb dX10_undo_0 rfl (lv_at hl 0 rfl) ?_
  refine lv_iconst (v := 0) hx hb dX10_undo_1 rfl ?_
  refine k_put (v := .int 0) (ty := .int) (C := RX10) (T := TX10) (N := 23) hx hb hts inX10_undo_X10 tyX10 tyX10_ok nmX10 hown hK hP hD hS 0 (wM_a0 _ _ _ _) rfl 8 (by decide) lkX10_undo_48 rfl (by decide +kernel) rfl rfl (Nat.le_of_ble_eq_true rfl) (ws' := wM cy h a (nTh u 0)) (wM_nTh _ _ _ _ _) dX10_undo_2 (fun H locs hP hD hS => ?_)
  refine lv_aload_n hx hb dX10_undo_5 rfl (lv_at hl 0 rfl) ?_
  refine k_get (v := .int (mAc (nTh u 0))) (C := RX10) (T := TX10) (N := 23) hx hb hts inX10_undo_X10 hown hK hP 0 (wM_a0 _ _ _ _) rfl 7 (by decide) lkX10_undo_313 (mFs_7 _ _) dX10_undo_6 ?_
  refine lv_if_ne (tgt := 14) hx hb dX10_undo_9 (by decide) (fun c9 => ?_) (fun c9 => ?_)
  · replace h1 := Ok.neg c9 h1
    refine lv_aload_n hx hb dX10_undo_14 rfl (lv_at hl 0 rfl) ?_
    refine lv_dup hx hb dX10_undo_15 rfl ?_
    refine k_get (v := .int (mAc (nTh u 0))) (C := RX10) (T := TX10) (N := 23) hx hb hts inX10_undo_X10 hown hK hP 0 (wM_a0 _ _ _ _) rfl 7 (by decide) lkX10_undo_313 (mFs_7 _ _) dX10_undo_16 ?_
    refine lv_iconst (v := 1) hx hb dX10_undo_19 rfl ?_
    refine lv_isub hx hb dX10_undo_20 ?_
    refine k_put (v := .int ((mAc (nTh u 0)) - 1)) (ty := .int) (C := RX10) (T := TX10) (N := 23) hx hb hts inX10_undo_X10 tyX10 tyX10_ok nmX10 hown hK hP hD hS 0 (wM_a0 _ _ _ _) rfl 7 (by decide) lkX10_undo_313 rfl (by decide +kernel) rfl rfl (Nat.le_of_ble_eq_true rfl) (ws' := wM cy h a (nAc (nTh u 0) ((mAc (nTh u 0)) - 1))) (wM_nAc _ _ _ _ _) dX10_undo_21 (fun H locs hP hD hS => ?_)
    refine lv_aload_n hx hb dX10_undo_24 rfl (lv_at hl 0 rfl) ?_
    refine k_get (v := .ref (a 3)) (C := RX10) (T := TX10) (N := 23) hx hb hts inX10_undo_X10 hown hK hP 0 (wM_a0 _ _ _ _) rfl 3 (by decide) lkX10_undo_19 (mFs_3 _ _) dX10_undo_25 ?_
    refine lv_sipush (v := 561) hx hb dX10_undo_28 rfl ?_
    refine lv_aload_n hx hb dX10_undo_31 rfl (lv_at hl 0 rfl) ?_
    refine k_get (v := .int (mAc (nAc (nTh u 0) ((mAc (nTh u 0)) - 1)))) (C := RX10) (T := TX10) (N := 23) hx hb hts inX10_undo_X10 hown hK hP 0 (wM_a0 _ _ _ _) rfl 7 (by decide) lkX10_undo_313 (mFs_7 _ _) dX10_undo_32 ?_
    refine lv_imul hx hb dX10_undo_35 ?_
    refine lv_aload_n hx hb dX10_undo_36 rfl (lv_at hl 0 rfl) ?_
    refine k_get (v := .ref (a 0)) (C := RX10) (T := TX10) (N := 23) hx hb hts inX10_undo_X10 hown hK hP 0 (wM_a0 _ _ _ _) rfl 0 (by decide) lkX10_undo_7 (mFs_0 _ _) dX10_undo_37 ?_
    refine lv_iconst (v := 0) hx hb dX10_undo_40 rfl ?_
    refine kc_vS (As := [.ref (a 3), .int (561 * (mAc (nAc (nTh u 0) ((mAc (nTh u 0)) - 1)))), .ref (a 0), .int 0]) (rest := []) h1 ⟨hx, hb, hml, hown, hts⟩ (cX10_copyM l D cy (a 3) (a 0) H.size 4488 (mPa (nAc (nTh u 0) ((mAc (nTh u 0)) - 1))) 561 (mSt (nAc (nTh u 0) ((mAc (nTh u 0)) - 1))) (561 * (mAc (nAc (nTh u 0) ((mAc (nTh u 0)) - 1)))) 0) (va_cwS 4 hts gX10_undo_X10_copy rfl rfl rfl heX10_copy ⟨Nat.le_of_ble_eq_true rfl, Nat.le_of_ble_eq_true rfl⟩) hK (k_pick2 (i := 4) (j := 1) rfl rfl) hP hD hS hA rfl hl.1 rfl (Nat.le_of_ble_eq_true rfl) dX10_undo_41 ⟨Nat.zero_le _, Nat.zero_le _⟩ (fun u41 H locs h1 hP hD hS => ?_)
    replace hP := kP_perm (k_pick2 (l := wM cy h a (nStA (nAc (nTh u 0) ((mAc (nTh u 0)) - 1)) u41)) (i := 4) (j := 1) rfl rfl).symm hP
    replace hD := kD_perm (k_pick2 (l := wM cy h a (nStA (nAc (nTh u 0) ((mAc (nTh u 0)) - 1)) u41)) (i := 4) (j := 1) rfl rfl).symm hD
    refine lv_aload_n hx hb dX10_undo_44 rfl (lv_at hl 0 rfl) ?_
    refine k_get (v := .int (mAc (nStA (nAc (nTh u 0) ((mAc (nTh u 0)) - 1)) u41))) (C := RX10) (T := TX10) (N := 23) hx hb hts inX10_undo_X10 hown hK hP 0 (wM_a0 _ _ _ _) rfl 7 (by decide) lkX10_undo_313 (mFs_7 _ _) dX10_undo_45 ?_
    exact kret_i hx hb hr hlocks hP hD hS h1 dX10_undo_48
  · replace h1 := Ok.pos c9 h1
    refine lv_iconst (v := (-1)) hx hb dX10_undo_12 rfl ?_
    exact kret_i hx hb hr hlocks hP hD hS h1 dX10_undo_13
def fX10_undo (u : RS) : Option (Int32 × RS) := fX10_undo_b0 u
set_option maxHeartbeats 4000000 in
set_option maxRecDepth 100000 in
theorem cX10_undoM (l : Launch) (D : va_G) (cy : Nat → ClassId) (h : Nat) (a : Nat → Nat) (sz : Nat) (u : RS) : ∀ (K : Int32 → RS → Prop), Ok (fX10_undo u) (fun q => K q.1 q.2) → Met l yX10_undo wsX10_undo rmX10_undo (va_Pc [.ref h] (kPre D cy sz (wM cy h a u))) (va_Qi K (fun q => kPost D (va_A (wM cy h a u) sz) (wM cy h a q)) (va_A (wM cy h a u) sz)) 0 0 (va_A (wM cy h a u) sz) := by
  intro K h1
  refine Met.ofW (cc := cX10_undo) (maxL := 1) (ret := (some .int)) (by decide) rfl ?_
  intro p e s m args below meth c s₁ B hml hv
  obtain ⟨rfl, hsz, hP, hK, hD0⟩ := hv
  subst hsz
  have E : mE D cy RX10 cX10_undo 1 (some .int) wsX10_undo (va_A (wM cy h a u) s.heap.size) p s m _ meth c := ⟨B.exec, B.bytes, B.returns, hml, findClass_of_methodNamed B.named, atoms_spec (ws := wsX10_undo) B.pre, B.notSynchronized, hK, fun q h => Or.inr h⟩
  have hl := lv_entry ([.ref h]) (n := 1) (Nat.le_of_ble_eq_true rfl)
  rw [lg_entry_eq]
  generalize (lg_sl ([.ref h]) ++ List.replicate (1 - (lg_sl ([.ref h])).length) Slot.unset).toArray = ls at hl ⊢
  exact tX10_undo_b0 (fun q => K q.1 q.2) E u _ _ _ hl hP hD0.self va_S.rf h1
-- X10_save
theorem inX10_save_X10 : ∀ w ∈ u_ws RX10 TX10 23, w ∈ wsX10_save := k_lays 12 rfl
theorem lkX10_save_48 : Cond.fieldLink RX10 48 "FerryRampModel" "thrown" "I" ∈ wsX10_save := List.mem_of_getElem? (i := 1) rfl
theorem lkX10_save_7 : Cond.fieldLink RX10 7 "FerryRampModel" "state" "[I" ∈ wsX10_save := List.mem_of_getElem? (i := 2) rfl
theorem lkX10_save_22 : Cond.fieldLink RX10 22 "FerryRampModel" "saved" "[I" ∈ wsX10_save := List.mem_of_getElem? (i := 3) rfl
theorem lkX10_save_25 : Cond.fieldLink RX10 25 "FerryRampModel" "isSaved" "[Z" ∈ wsX10_save := List.mem_of_getElem? (i := 4) rfl
abbrev rmX10_save : Room := { frames := 1, cells := 0, slots := 0, locals := 24 }
def fX10_save_b15 (x1 : Int32) (s1 : Int32) (u : RS) : Option (RS) :=
  (if (mTh (nTh u s1)) = 0 then bnd (fX10_copy 0 (561 * x1) 561 (mSt (nTh u s1)) 1122 (mSa (nTh u s1))) (fun u39 => grd (inb x1 2) (some (nIs (nSaA (nTh u s1) u39) (ix x1) 1))) else some (nTh u s1))
set_option maxHeartbeats 4000000 in
set_option maxRecDepth 100000 in
theorem tX10_save_b15 {p : Program} {l : Launch} {e : Env} {s : State} {m : MethodId} {args : Array Value} {below : List Frame} {meth : Method} {c : Code} {D : va_G} {cy : Nat → ClassId} {A : Nat → Prop} {h : Nat} {a : Nat → Nat} (K : RS → Prop) (E : mE D cy RX10 cX10_save 2 none wsX10_save A p s m args meth c)
     (x1 : Int32) (s1 : Int32) (u : RS) (H : Heap) (locs : List Loc) (ls : Array Slot) (hl : lv_has ls 2 [(0, .ref h), (1, .int x1)]) (hP : va_P D vwCl (wM cy h a u) H) (hD : va_D A (wM cy h a u)) (hS : va_S A s.heap H locs) (h1 : Ok (fX10_save_b15 x1 s1 u) K) :
    kW p l e rmX10_save s m args below meth c H locs (va_Qv K (fun q => kPost D A (wM cy h a q)) A) A 15 ls [.int s1, .ref h] := by
  obtain ⟨hx, hb, hr, hml, hown, hts, hlocks, hK, hA⟩ := id E
  unfold fX10_save_b15 at h1
  refine k_put (v := .int s1) (ty := .int) (C := RX10) (T := TX10) (N := 23) hx hb hts inX10_save_X10 tyX10 tyX10_ok nmX10 hown hK hP hD hS 0 (wM_a0 _ _ _ _) rfl 8 (by decide) lkX10_save_48 rfl (by decide +kernel) rfl rfl (Nat.le_of_ble_eq_true rfl) (ws' := wM cy h a (nTh u s1)) (wM_nTh _ _ _ _ _) dX10_save_15 (fun H locs hP hD hS => ?_)
  refine lv_aload_n hx hb dX10_save_18 rfl (lv_at hl 0 rfl) ?_
  refine k_get (v := .int (mTh (nTh u s1))) (C := RX10) (T := TX10) (N := 23) hx hb hts inX10_save_X10 hown hK hP 0 (wM_a0 _ _ _ _) rfl 8 (by decide) lkX10_save_48 (mFs_8 _ _) dX10_save_19 ?_
  refine lv_if_ne (tgt := 49) hx hb dX10_save_22 (by decide) (fun c22 => ?_) (fun c22 => ?_)
  · replace h1 := Ok.neg c22 h1
    exact kret_v hx hb hr hlocks hP hD hS h1 dX10_save_49
  · replace h1 := Ok.pos c22 h1
    refine lv_aload_n hx hb dX10_save_25 rfl (lv_at hl 0 rfl) ?_
    refine k_get (v := .ref (a 0)) (C := RX10) (T := TX10) (N := 23) hx hb hts inX10_save_X10 hown hK hP 0 (wM_a0 _ _ _ _) rfl 0 (by decide) lkX10_save_7 (mFs_0 _ _) dX10_save_26 ?_
    refine lv_iconst (v := 0) hx hb dX10_save_29 rfl ?_
    refine lv_aload_n hx hb dX10_save_30 rfl (lv_at hl 0 rfl) ?_
    refine k_get (v := .ref (a 4)) (C := RX10) (T := TX10) (N := 23) hx hb hts inX10_save_X10 hown hK hP 0 (wM_a0 _ _ _ _) rfl 4 (by decide) lkX10_save_22 (mFs_4 _ _) dX10_save_31 ?_
    refine lv_sipush (v := 561) hx hb dX10_save_34 rfl ?_
    refine lv_iload_n hx hb dX10_save_37 rfl (lv_at hl 1 rfl) ?_
    refine lv_imul hx hb dX10_save_38 ?_
    refine kc_vS (As := [.ref (a 0), .int 0, .ref (a 4), .int (561 * x1)]) (rest := []) h1 ⟨hx, hb, hml, hown, hts⟩ (cX10_copyM l D cy (a 0) (a 4) H.size 561 (mSt (nTh u s1)) 1122 (mSa (nTh u s1)) 0 (561 * x1)) (va_cwS 4 hts gX10_save_X10_copy rfl rfl rfl heX10_copy ⟨Nat.le_of_ble_eq_true rfl, Nat.le_of_ble_eq_true rfl⟩) hK (k_pick2 (i := 1) (j := 4) rfl rfl) hP hD hS hA rfl hl.1 rfl (Nat.le_of_ble_eq_true rfl) dX10_save_39 ⟨Nat.zero_le _, Nat.zero_le _⟩ (fun u39 H locs h1 hP hD hS => ?_)
    replace hP := kP_perm (k_pick2 (l := wM cy h a (nSaA (nTh u s1) u39)) (i := 1) (j := 4) rfl rfl).symm hP
    replace hD := kD_perm (k_pick2 (l := wM cy h a (nSaA (nTh u s1) u39)) (i := 1) (j := 4) rfl rfl).symm hD
    refine lv_aload_n hx hb dX10_save_42 rfl (lv_at hl 0 rfl) ?_
    refine k_get (v := .ref (a 5)) (C := RX10) (T := TX10) (N := 23) hx hb hts inX10_save_X10 hown hK hP 0 (wM_a0 _ _ _ _) rfl 5 (by decide) lkX10_save_25 (mFs_5 _ _) dX10_save_43 ?_
    refine lv_iload_n hx hb dX10_save_46 rfl (lv_at hl 1 rfl) ?_
    refine lv_iconst (v := 1) hx hb dX10_save_47 rfl ?_
    have g48 := h1.grd1
    replace h1 := h1.grd2
    refine k_zast (k := (ix x1)) (ws' := wM cy h a (nIs (nSaA (nTh u s1) u39) (ix x1) 1)) hx hb hK hP hD hS 6 (wM_a6 _ _ _ _) g48 rfl rfl (wM_nIs _ _ _ _ _ _) dX10_save_48 (fun H locs hP hD hS => ?_)
    exact kret_v hx hb hr hlocks hP hD hS h1 dX10_save_49
def fX10_save_b0 (x1 : Int32) (u : RS) : Option (RS) :=
  bnd (fX10_isBetween x1 0 1) (fun r4 => (if r4 = 0 then fX10_save_b15 x1 1 u else fX10_save_b15 x1 0 u))
set_option maxHeartbeats 4000000 in
set_option maxRecDepth 100000 in
theorem tX10_save_b0 {p : Program} {l : Launch} {e : Env} {s : State} {m : MethodId} {args : Array Value} {below : List Frame} {meth : Method} {c : Code} {D : va_G} {cy : Nat → ClassId} {A : Nat → Prop} {h : Nat} {a : Nat → Nat} (K : RS → Prop) (E : mE D cy RX10 cX10_save 2 none wsX10_save A p s m args meth c)
     (x1 : Int32) (u : RS) (H : Heap) (locs : List Loc) (ls : Array Slot) (hl : lv_has ls 2 [(0, .ref h), (1, .int x1)]) (hP : va_P D vwCl (wM cy h a u) H) (hD : va_D A (wM cy h a u)) (hS : va_S A s.heap H locs) (h1 : Ok (fX10_save_b0 x1 u) K) :
    kW p l e rmX10_save s m args below meth c H locs (va_Qv K (fun q => kPost D A (wM cy h a q)) A) A 0 ls [] := by
  obtain ⟨hx, hb, hr, hml, hown, hts, hlocks, hK, hA⟩ := id E
  unfold fX10_save_b0 at h1
  refine lv_aload_n hx hb dX10_save_0 rfl (lv_at hl 0 rfl) ?_
  refine lv_iload_n hx hb dX10_save_1 rfl (lv_at hl 1 rfl) ?_
  refine lv_iconst (v := 0) hx hb dX10_save_2 rfl ?_
  refine lv_iconst (v := 1) hx hb dX10_save_3 rfl ?_
  refine kc_rS (As := [.int x1, .int 0, .int 1]) (rest := [.ref h]) (wc := []) (wr := _) h1 ⟨hx, hb, hml, hown, hts⟩ (cX10_isBetweenM l D cy H.size x1 0 1) (va_cwS 3 hts gX10_save_X10_isBetween rfl rfl rfl heX10_isBetween ⟨Nat.le_of_ble_eq_true rfl, Nat.le_of_ble_eq_true rfl⟩) hK (List.Perm.refl _) hP hD hS hA rfl hl.1 rfl (Nat.le_of_ble_eq_true rfl) dX10_save_4 ⟨Nat.zero_le _, Nat.zero_le _⟩ (fun r4 H locs h1 hP hS => ?_)
  refine lv_if_eq (tgt := 14) hx hb dX10_save_7 (by decide) (fun c7 => ?_) (fun c7 => ?_)
  · replace h1 := Ok.pos c7 h1
    refine lv_iconst (v := 1) hx hb dX10_save_14 rfl ?_
    exact tX10_save_b15 K E x1 1 u H locs ls (lv_sub hl [0, 1] rfl) hP hD hS h1
  · replace h1 := Ok.neg c7 h1
    refine lv_iconst (v := 0) hx hb dX10_save_10 rfl ?_
    refine lv_goto (tgt := 15) hx hb dX10_save_11 (by decide) ?_
    exact tX10_save_b15 K E x1 0 u H locs ls (lv_sub hl [0, 1] rfl) hP hD hS h1
def fX10_save (p1 : Int32) (u : RS) : Option (RS) := fX10_save_b0 p1 u
set_option maxHeartbeats 4000000 in
set_option maxRecDepth 100000 in
theorem cX10_saveM (l : Launch) (D : va_G) (cy : Nat → ClassId) (h : Nat) (a : Nat → Nat) (sz : Nat) (u : RS) (p1 : Int32) : ∀ (K : RS → Prop), Ok (fX10_save p1 u) K → Met l yX10_save wsX10_save rmX10_save (va_Pc [.ref h, .int p1] (kPre D cy sz (wM cy h a u))) (va_Qv K (fun q => kPost D (va_A (wM cy h a u) sz) (wM cy h a q)) (va_A (wM cy h a u) sz)) 0 0 (va_A (wM cy h a u) sz) := by
  intro K h1
  refine Met.ofW (cc := cX10_save) (maxL := 2) (ret := none) (by decide) rfl ?_
  intro p e s m args below meth c s₁ B hml hv
  obtain ⟨rfl, hsz, hP, hK, hD0⟩ := hv
  subst hsz
  have E : mE D cy RX10 cX10_save 2 none wsX10_save (va_A (wM cy h a u) s.heap.size) p s m _ meth c := ⟨B.exec, B.bytes, B.returns, hml, findClass_of_methodNamed B.named, atoms_spec (ws := wsX10_save) B.pre, B.notSynchronized, hK, fun q h => Or.inr h⟩
  have hl := lv_entry ([.ref h, .int p1]) (n := 2) (Nat.le_of_ble_eq_true rfl)
  rw [lg_entry_eq]
  generalize (lg_sl ([.ref h, .int p1]) ++ List.replicate (2 - (lg_sl ([.ref h, .int p1])).length) Slot.unset).toArray = ls at hl ⊢
  exact tX10_save_b0 K E p1 u _ _ _ hl hP hD0.self va_S.rf h1
-- X10_restore
theorem inX10_restore_X10 : ∀ w ∈ u_ws RX10 TX10 23, w ∈ wsX10_restore := k_lays 13 rfl
theorem lkX10_restore_25 : Cond.fieldLink RX10 25 "FerryRampModel" "isSaved" "[Z" ∈ wsX10_restore := List.mem_of_getElem? (i := 1) rfl
theorem lkX10_restore_48 : Cond.fieldLink RX10 48 "FerryRampModel" "thrown" "I" ∈ wsX10_restore := List.mem_of_getElem? (i := 2) rfl
theorem lkX10_restore_22 : Cond.fieldLink RX10 22 "FerryRampModel" "saved" "[I" ∈ wsX10_restore := List.mem_of_getElem? (i := 3) rfl
theorem lkX10_restore_7 : Cond.fieldLink RX10 7 "FerryRampModel" "state" "[I" ∈ wsX10_restore := List.mem_of_getElem? (i := 4) rfl
theorem lkX10_restore_313 : Cond.fieldLink RX10 313 "FerryRampModel" "acts" "I" ∈ wsX10_restore := List.mem_of_getElem? (i := 5) rfl
abbrev rmX10_restore : Room := { frames := 1, cells := 0, slots := 0, locals := 24 }
def fX10_restore_b28 (x1 : Int32) (s1 : Int32) (u : RS) : Option (RS) :=
  (if (mTh (nTh u s1)) = 0 then bnd (fX10_copy (561 * x1) 0 1122 (mSa (nTh u s1)) 561 (mSt (nTh u s1))) (fun u52 => some (nAc (nStA (nTh u s1) u52) 0)) else some (nTh u s1))
set_option maxHeartbeats 4000000 in
set_option maxRecDepth 100000 in
theorem tX10_restore_b28 {p : Program} {l : Launch} {e : Env} {s : State} {m : MethodId} {args : Array Value} {below : List Frame} {meth : Method} {c : Code} {D : va_G} {cy : Nat → ClassId} {A : Nat → Prop} {h : Nat} {a : Nat → Nat} (K : RS → Prop) (E : mE D cy RX10 cX10_restore 2 none wsX10_restore A p s m args meth c)
     (x1 : Int32) (s1 : Int32) (u : RS) (H : Heap) (locs : List Loc) (ls : Array Slot) (hl : lv_has ls 2 [(0, .ref h), (1, .int x1)]) (hP : va_P D vwCl (wM cy h a u) H) (hD : va_D A (wM cy h a u)) (hS : va_S A s.heap H locs) (h1 : Ok (fX10_restore_b28 x1 s1 u) K) :
    kW p l e rmX10_restore s m args below meth c H locs (va_Qv K (fun q => kPost D A (wM cy h a q)) A) A 28 ls [.int s1, .ref h] := by
  obtain ⟨hx, hb, hr, hml, hown, hts, hlocks, hK, hA⟩ := id E
  unfold fX10_restore_b28 at h1
  refine k_put (v := .int s1) (ty := .int) (C := RX10) (T := TX10) (N := 23) hx hb hts inX10_restore_X10 tyX10 tyX10_ok nmX10 hown hK hP hD hS 0 (wM_a0 _ _ _ _) rfl 8 (by decide) lkX10_restore_48 rfl (by decide +kernel) rfl rfl (Nat.le_of_ble_eq_true rfl) (ws' := wM cy h a (nTh u s1)) (wM_nTh _ _ _ _ _) dX10_restore_28 (fun H locs hP hD hS => ?_)
  refine lv_aload_n hx hb dX10_restore_31 rfl (lv_at hl 0 rfl) ?_
  refine k_get (v := .int (mTh (nTh u s1))) (C := RX10) (T := TX10) (N := 23) hx hb hts inX10_restore_X10 hown hK hP 0 (wM_a0 _ _ _ _) rfl 8 (by decide) lkX10_restore_48 (mFs_8 _ _) dX10_restore_32 ?_
  refine lv_if_ne (tgt := 60) hx hb dX10_restore_35 (by decide) (fun c35 => ?_) (fun c35 => ?_)
  · replace h1 := Ok.neg c35 h1
    exact kret_v hx hb hr hlocks hP hD hS h1 dX10_restore_60
  · replace h1 := Ok.pos c35 h1
    refine lv_aload_n hx hb dX10_restore_38 rfl (lv_at hl 0 rfl) ?_
    refine k_get (v := .ref (a 4)) (C := RX10) (T := TX10) (N := 23) hx hb hts inX10_restore_X10 hown hK hP 0 (wM_a0 _ _ _ _) rfl 4 (by decide) lkX10_restore_22 (mFs_4 _ _) dX10_restore_39 ?_
    refine lv_sipush (v := 561) hx hb dX10_restore_42 rfl ?_
    refine lv_iload_n hx hb dX10_restore_45 rfl (lv_at hl 1 rfl) ?_
    refine lv_imul hx hb dX10_restore_46 ?_
    refine lv_aload_n hx hb dX10_restore_47 rfl (lv_at hl 0 rfl) ?_
    refine k_get (v := .ref (a 0)) (C := RX10) (T := TX10) (N := 23) hx hb hts inX10_restore_X10 hown hK hP 0 (wM_a0 _ _ _ _) rfl 0 (by decide) lkX10_restore_7 (mFs_0 _ _) dX10_restore_48 ?_
    refine lv_iconst (v := 0) hx hb dX10_restore_51 rfl ?_
    refine kc_vS (As := [.ref (a 4), .int (561 * x1), .ref (a 0), .int 0]) (rest := []) h1 ⟨hx, hb, hml, hown, hts⟩ (cX10_copyM l D cy (a 4) (a 0) H.size 1122 (mSa (nTh u s1)) 561 (mSt (nTh u s1)) (561 * x1) 0) (va_cwS 4 hts gX10_restore_X10_copy rfl rfl rfl heX10_copy ⟨Nat.le_of_ble_eq_true rfl, Nat.le_of_ble_eq_true rfl⟩) hK (k_pick2 (i := 5) (j := 1) rfl rfl) hP hD hS hA rfl hl.1 rfl (Nat.le_of_ble_eq_true rfl) dX10_restore_52 ⟨Nat.zero_le _, Nat.zero_le _⟩ (fun u52 H locs h1 hP hD hS => ?_)
    replace hP := kP_perm (k_pick2 (l := wM cy h a (nStA (nTh u s1) u52)) (i := 5) (j := 1) rfl rfl).symm hP
    replace hD := kD_perm (k_pick2 (l := wM cy h a (nStA (nTh u s1) u52)) (i := 5) (j := 1) rfl rfl).symm hD
    refine lv_aload_n hx hb dX10_restore_55 rfl (lv_at hl 0 rfl) ?_
    refine lv_iconst (v := 0) hx hb dX10_restore_56 rfl ?_
    refine k_put (v := .int 0) (ty := .int) (C := RX10) (T := TX10) (N := 23) hx hb hts inX10_restore_X10 tyX10 tyX10_ok nmX10 hown hK hP hD hS 0 (wM_a0 _ _ _ _) rfl 7 (by decide) lkX10_restore_313 rfl (by decide +kernel) rfl rfl (Nat.le_of_ble_eq_true rfl) (ws' := wM cy h a (nAc (nStA (nTh u s1) u52) 0)) (wM_nAc _ _ _ _ _) dX10_restore_57 (fun H locs hP hD hS => ?_)
    exact kret_v hx hb hr hlocks hP hD hS h1 dX10_restore_60
def fX10_restore_b0 (x1 : Int32) (u : RS) : Option (RS) :=
  bnd (fX10_isBetween x1 0 1) (fun r4 => (if r4 = 0 then fX10_restore_b28 x1 1 u else grd (inb x1 2) ((if (mIs u (ix x1)) = 0 then fX10_restore_b28 x1 2 u else fX10_restore_b28 x1 0 u))))
set_option maxHeartbeats 4000000 in
set_option maxRecDepth 100000 in
theorem tX10_restore_b0 {p : Program} {l : Launch} {e : Env} {s : State} {m : MethodId} {args : Array Value} {below : List Frame} {meth : Method} {c : Code} {D : va_G} {cy : Nat → ClassId} {A : Nat → Prop} {h : Nat} {a : Nat → Nat} (K : RS → Prop) (E : mE D cy RX10 cX10_restore 2 none wsX10_restore A p s m args meth c)
     (x1 : Int32) (u : RS) (H : Heap) (locs : List Loc) (ls : Array Slot) (hl : lv_has ls 2 [(0, .ref h), (1, .int x1)]) (hP : va_P D vwCl (wM cy h a u) H) (hD : va_D A (wM cy h a u)) (hS : va_S A s.heap H locs) (h1 : Ok (fX10_restore_b0 x1 u) K) :
    kW p l e rmX10_restore s m args below meth c H locs (va_Qv K (fun q => kPost D A (wM cy h a q)) A) A 0 ls [] := by
  obtain ⟨hx, hb, hr, hml, hown, hts, hlocks, hK, hA⟩ := id E
  unfold fX10_restore_b0 at h1
  refine lv_aload_n hx hb dX10_restore_0 rfl (lv_at hl 0 rfl) ?_
  refine lv_iload_n hx hb dX10_restore_1 rfl (lv_at hl 1 rfl) ?_
  refine lv_iconst (v := 0) hx hb dX10_restore_2 rfl ?_
  refine lv_iconst (v := 1) hx hb dX10_restore_3 rfl ?_
  refine kc_rS (As := [.int x1, .int 0, .int 1]) (rest := [.ref h]) (wc := []) (wr := _) h1 ⟨hx, hb, hml, hown, hts⟩ (cX10_isBetweenM l D cy H.size x1 0 1) (va_cwS 3 hts gX10_restore_X10_isBetween rfl rfl rfl heX10_isBetween ⟨Nat.le_of_ble_eq_true rfl, Nat.le_of_ble_eq_true rfl⟩) hK (List.Perm.refl _) hP hD hS hA rfl hl.1 rfl (Nat.le_of_ble_eq_true rfl) dX10_restore_4 ⟨Nat.zero_le _, Nat.zero_le _⟩ (fun r4 H locs h1 hP hS => ?_)
  refine lv_if_ne (tgt := 14) hx hb dX10_restore_7 (by decide) (fun c7 => ?_) (fun c7 => ?_)
  · replace h1 := Ok.neg c7 h1
    refine lv_aload_n hx hb dX10_restore_14 rfl (lv_at hl 0 rfl) ?_
    refine k_get (v := .ref (a 5)) (C := RX10) (T := TX10) (N := 23) hx hb hts inX10_restore_X10 hown hK hP 0 (wM_a0 _ _ _ _) rfl 5 (by decide) lkX10_restore_25 (mFs_5 _ _) dX10_restore_15 ?_
    refine lv_iload_n hx hb dX10_restore_18 rfl (lv_at hl 1 rfl) ?_
    have g19 := h1.grd1
    replace h1 := h1.grd2
    refine k_zald (k := (ix x1)) hx hb hK hP 6 (wM_a6 _ _ _ _) g19 rfl dX10_restore_19 ?_
    refine lv_if_eq (tgt := 27) hx hb dX10_restore_20 (by decide) (fun c20 => ?_) (fun c20 => ?_)
    · replace h1 := Ok.pos c20 h1
      refine lv_iconst (v := 2) hx hb dX10_restore_27 rfl ?_
      exact tX10_restore_b28 K E x1 2 u H locs ls (lv_sub hl [0, 1] rfl) hP hD hS h1
    · replace h1 := Ok.neg c20 h1
      refine lv_iconst (v := 0) hx hb dX10_restore_23 rfl ?_
      refine lv_goto (tgt := 28) hx hb dX10_restore_24 (by decide) ?_
      exact tX10_restore_b28 K E x1 0 u H locs ls (lv_sub hl [0, 1] rfl) hP hD hS h1
  · replace h1 := Ok.pos c7 h1
    refine lv_iconst (v := 1) hx hb dX10_restore_10 rfl ?_
    refine lv_goto (tgt := 28) hx hb dX10_restore_11 (by decide) ?_
    exact tX10_restore_b28 K E x1 1 u H locs ls (lv_sub hl [0, 1] rfl) hP hD hS h1
def fX10_restore (p1 : Int32) (u : RS) : Option (RS) := fX10_restore_b0 p1 u
set_option maxHeartbeats 4000000 in
set_option maxRecDepth 100000 in
theorem cX10_restoreM (l : Launch) (D : va_G) (cy : Nat → ClassId) (h : Nat) (a : Nat → Nat) (sz : Nat) (u : RS) (p1 : Int32) : ∀ (K : RS → Prop), Ok (fX10_restore p1 u) K → Met l yX10_restore wsX10_restore rmX10_restore (va_Pc [.ref h, .int p1] (kPre D cy sz (wM cy h a u))) (va_Qv K (fun q => kPost D (va_A (wM cy h a u) sz) (wM cy h a q)) (va_A (wM cy h a u) sz)) 0 0 (va_A (wM cy h a u) sz) := by
  intro K h1
  refine Met.ofW (cc := cX10_restore) (maxL := 2) (ret := none) (by decide) rfl ?_
  intro p e s m args below meth c s₁ B hml hv
  obtain ⟨rfl, hsz, hP, hK, hD0⟩ := hv
  subst hsz
  have E : mE D cy RX10 cX10_restore 2 none wsX10_restore (va_A (wM cy h a u) s.heap.size) p s m _ meth c := ⟨B.exec, B.bytes, B.returns, hml, findClass_of_methodNamed B.named, atoms_spec (ws := wsX10_restore) B.pre, B.notSynchronized, hK, fun q h => Or.inr h⟩
  have hl := lv_entry ([.ref h, .int p1]) (n := 2) (Nat.le_of_ble_eq_true rfl)
  rw [lg_entry_eq]
  generalize (lg_sl ([.ref h, .int p1]) ++ List.replicate (2 - (lg_sl ([.ref h, .int p1])).length) Slot.unset).toArray = ls at hl ⊢
  exact tX10_restore_b0 K E p1 u _ _ _ hl hP hD0.self va_S.rf h1
-- X10_countMore
theorem inX10_countMore_X10 : ∀ w ∈ u_ws RX10 TX10 23, w ∈ wsX10_countMore := k_lays 8 rfl
theorem lkX10_countMore_7 : Cond.fieldLink RX10 7 "FerryRampModel" "state" "[I" ∈ wsX10_countMore := List.mem_of_getElem? (i := 1) rfl
abbrev rmX10_countMore : Room := { frames := 1, cells := 0, slots := 0, locals := 21 }
def fX10_countMore_b0 (x1 : Int32) (u : RS) : Option (Int32 × RS) :=
  (if x1 = 11 then some (mSt u 7, u) else (if x1 = 12 then some (mSt u 8, u) else (if x1 = 13 then some (mSt u 9, u) else (if x1 = 14 then some (mSt u 10, u) else (if x1 = 15 then some (mSt u 11, u) else (if x1 = 16 then some (mSt u 12, u) else bnd2 (fX10_fail 1 u) (fun r90 u90 => some (r90, u90))))))))
set_option maxHeartbeats 4000000 in
set_option maxRecDepth 100000 in
theorem tX10_countMore_b0 {p : Program} {l : Launch} {e : Env} {s : State} {m : MethodId} {args : Array Value} {below : List Frame} {meth : Method} {c : Code} {D : va_G} {cy : Nat → ClassId} {A : Nat → Prop} {h : Nat} {a : Nat → Nat} (K : Int32 × RS → Prop) (E : mE D cy RX10 cX10_countMore 2 (some .int) wsX10_countMore A p s m args meth c)
     (x1 : Int32) (u : RS) (H : Heap) (locs : List Loc) (ls : Array Slot) (hl : lv_has ls 2 [(0, .ref h), (1, .int x1)]) (hP : va_P D vwCl (wM cy h a u) H) (hD : va_D A (wM cy h a u)) (hS : va_S A s.heap H locs) (h1 : Ok (fX10_countMore_b0 x1 u) K) :
    kW p l e rmX10_countMore s m args below meth c H locs (va_Qi (fun r q => K (r, q)) (fun q => kPost D A (wM cy h a q)) A) A 0 ls [] := by
  obtain ⟨hx, hb, hr, hml, hown, hts, hlocks, hK, hA⟩ := id E
  unfold fX10_countMore_b0 at h1
  refine lv_iload_n hx hb dX10_countMore_0 rfl (lv_at hl 1 rfl) ?_
  by_cases c1_11 : x1 = 11
  · replace h1 := Ok.pos c1_11 h1
    refine lv_tableIn (off := 39) (tgt := 40) hx hb dX10_countMore_1 (by rw [c1_11]; decide) (by rw [c1_11]; decide) (by rw [c1_11]; decide) (by decide) ?_
    refine lv_aload_n hx hb dX10_countMore_40 rfl (lv_at hl 0 rfl) ?_
    refine k_get (v := .ref (a 0)) (C := RX10) (T := TX10) (N := 23) hx hb hts inX10_countMore_X10 hown hK hP 0 (wM_a0 _ _ _ _) rfl 0 (by decide) lkX10_countMore_7 (mFs_0 _ _) dX10_countMore_41 ?_
    refine lv_bipush (v := 7) hx hb dX10_countMore_44 rfl ?_
    refine k_iald (k := 7) hx hb hK hP 1 (wM_a1 _ _ _ _) rfl rfl dX10_countMore_46 ?_
    exact kret_i hx hb hr hlocks hP hD hS h1 dX10_countMore_47
  replace h1 := Ok.neg c1_11 h1
  by_cases c1_12 : x1 = 12
  · replace h1 := Ok.pos c1_12 h1
    refine lv_tableIn (off := 47) (tgt := 48) hx hb dX10_countMore_1 (by rw [c1_12]; decide) (by rw [c1_12]; decide) (by rw [c1_12]; decide) (by decide) ?_
    refine lv_aload_n hx hb dX10_countMore_48 rfl (lv_at hl 0 rfl) ?_
    refine k_get (v := .ref (a 0)) (C := RX10) (T := TX10) (N := 23) hx hb hts inX10_countMore_X10 hown hK hP 0 (wM_a0 _ _ _ _) rfl 0 (by decide) lkX10_countMore_7 (mFs_0 _ _) dX10_countMore_49 ?_
    refine lv_bipush (v := 8) hx hb dX10_countMore_52 rfl ?_
    refine k_iald (k := 8) hx hb hK hP 1 (wM_a1 _ _ _ _) rfl rfl dX10_countMore_54 ?_
    exact kret_i hx hb hr hlocks hP hD hS h1 dX10_countMore_55
  replace h1 := Ok.neg c1_12 h1
  by_cases c1_13 : x1 = 13
  · replace h1 := Ok.pos c1_13 h1
    refine lv_tableIn (off := 55) (tgt := 56) hx hb dX10_countMore_1 (by rw [c1_13]; decide) (by rw [c1_13]; decide) (by rw [c1_13]; decide) (by decide) ?_
    refine lv_aload_n hx hb dX10_countMore_56 rfl (lv_at hl 0 rfl) ?_
    refine k_get (v := .ref (a 0)) (C := RX10) (T := TX10) (N := 23) hx hb hts inX10_countMore_X10 hown hK hP 0 (wM_a0 _ _ _ _) rfl 0 (by decide) lkX10_countMore_7 (mFs_0 _ _) dX10_countMore_57 ?_
    refine lv_bipush (v := 9) hx hb dX10_countMore_60 rfl ?_
    refine k_iald (k := 9) hx hb hK hP 1 (wM_a1 _ _ _ _) rfl rfl dX10_countMore_62 ?_
    exact kret_i hx hb hr hlocks hP hD hS h1 dX10_countMore_63
  replace h1 := Ok.neg c1_13 h1
  by_cases c1_14 : x1 = 14
  · replace h1 := Ok.pos c1_14 h1
    refine lv_tableIn (off := 63) (tgt := 64) hx hb dX10_countMore_1 (by rw [c1_14]; decide) (by rw [c1_14]; decide) (by rw [c1_14]; decide) (by decide) ?_
    refine lv_aload_n hx hb dX10_countMore_64 rfl (lv_at hl 0 rfl) ?_
    refine k_get (v := .ref (a 0)) (C := RX10) (T := TX10) (N := 23) hx hb hts inX10_countMore_X10 hown hK hP 0 (wM_a0 _ _ _ _) rfl 0 (by decide) lkX10_countMore_7 (mFs_0 _ _) dX10_countMore_65 ?_
    refine lv_bipush (v := 10) hx hb dX10_countMore_68 rfl ?_
    refine k_iald (k := 10) hx hb hK hP 1 (wM_a1 _ _ _ _) rfl rfl dX10_countMore_70 ?_
    exact kret_i hx hb hr hlocks hP hD hS h1 dX10_countMore_71
  replace h1 := Ok.neg c1_14 h1
  by_cases c1_15 : x1 = 15
  · replace h1 := Ok.pos c1_15 h1
    refine lv_tableIn (off := 71) (tgt := 72) hx hb dX10_countMore_1 (by rw [c1_15]; decide) (by rw [c1_15]; decide) (by rw [c1_15]; decide) (by decide) ?_
    refine lv_aload_n hx hb dX10_countMore_72 rfl (lv_at hl 0 rfl) ?_
    refine k_get (v := .ref (a 0)) (C := RX10) (T := TX10) (N := 23) hx hb hts inX10_countMore_X10 hown hK hP 0 (wM_a0 _ _ _ _) rfl 0 (by decide) lkX10_countMore_7 (mFs_0 _ _) dX10_countMore_73 ?_
    refine lv_bipush (v := 11) hx hb dX10_countMore_76 rfl ?_
    refine k_iald (k := 11) hx hb hK hP 1 (wM_a1 _ _ _ _) rfl rfl dX10_countMore_78 ?_
    exact kret_i hx hb hr hlocks hP hD hS h1 dX10_countMore_79
  replace h1 := Ok.neg c1_15 h1
  by_cases c1_16 : x1 = 16
  · replace h1 := Ok.pos c1_16 h1
    refine lv_tableIn (off := 79) (tgt := 80) hx hb dX10_countMore_1 (by rw [c1_16]; decide) (by rw [c1_16]; decide) (by rw [c1_16]; decide) (by decide) ?_
    refine lv_aload_n hx hb dX10_countMore_80 rfl (lv_at hl 0 rfl) ?_
    refine k_get (v := .ref (a 0)) (C := RX10) (T := TX10) (N := 23) hx hb hts inX10_countMore_X10 hown hK hP 0 (wM_a0 _ _ _ _) rfl 0 (by decide) lkX10_countMore_7 (mFs_0 _ _) dX10_countMore_81 ?_
    refine lv_bipush (v := 12) hx hb dX10_countMore_84 rfl ?_
    refine k_iald (k := 12) hx hb hK hP 1 (wM_a1 _ _ _ _) rfl rfl dX10_countMore_86 ?_
    exact kret_i hx hb hr hlocks hP hD hS h1 dX10_countMore_87
  replace h1 := Ok.neg c1_16 h1
  refine lv_tableOut (tgt := 88) hx hb dX10_countMore_1 (k_tout (x := x1) [11, 12, 13, 14, 15, 16] (by decide) ⟨c1_11, c1_12, c1_13, c1_14, c1_15, c1_16, trivial⟩) (by decide) ?_
  refine lv_aload_n hx hb dX10_countMore_88 rfl (lv_at hl 0 rfl) ?_
  refine lv_iconst (v := 1) hx hb dX10_countMore_89 rfl ?_
  refine kc_iV0 (b := h) (As := [.int 1]) (rest := []) h1 ⟨hx, hb, hml, hown, hts⟩ (cX10_failM l D cy h a H.size u 1) (cwV 1 hts gX10_countMore_X10_fail rfl rfl rfl hdX10_fail ⟨Nat.le_of_ble_eq_true rfl, Nat.le_of_ble_eq_true rfl⟩) hK hP hD hS hA (q0 := 0) rfl rfl rfl hl.1 rfl (Nat.le_of_ble_eq_true rfl) dX10_countMore_90 ⟨Nat.zero_le _, Nat.zero_le _⟩ (fun r90 u90 H locs h1 hP hD hS => ?_)
  exact kret_i hx hb hr hlocks hP hD hS h1 dX10_countMore_93
def fX10_countMore (p1 : Int32) (u : RS) : Option (Int32 × RS) := fX10_countMore_b0 p1 u
set_option maxHeartbeats 4000000 in
set_option maxRecDepth 100000 in
theorem cX10_countMoreM (l : Launch) (D : va_G) (cy : Nat → ClassId) (h : Nat) (a : Nat → Nat) (sz : Nat) (u : RS) (p1 : Int32) : ∀ (K : Int32 → RS → Prop), Ok (fX10_countMore p1 u) (fun q => K q.1 q.2) → Met l yX10_countMore wsX10_countMore rmX10_countMore (va_Pc [.ref h, .int p1] (kPre D cy sz (wM cy h a u))) (va_Qi K (fun q => kPost D (va_A (wM cy h a u) sz) (wM cy h a q)) (va_A (wM cy h a u) sz)) 0 0 (va_A (wM cy h a u) sz) := by
  intro K h1
  refine Met.ofW (cc := cX10_countMore) (maxL := 2) (ret := (some .int)) (by decide) rfl ?_
  intro p e s m args below meth c s₁ B hml hv
  obtain ⟨rfl, hsz, hP, hK, hD0⟩ := hv
  subst hsz
  have E : mE D cy RX10 cX10_countMore 2 (some .int) wsX10_countMore (va_A (wM cy h a u) s.heap.size) p s m _ meth c := ⟨B.exec, B.bytes, B.returns, hml, findClass_of_methodNamed B.named, atoms_spec (ws := wsX10_countMore) B.pre, B.notSynchronized, hK, fun q h => Or.inr h⟩
  have hl := lv_entry ([.ref h, .int p1]) (n := 2) (Nat.le_of_ble_eq_true rfl)
  rw [lg_entry_eq]
  generalize (lg_sl ([.ref h, .int p1]) ++ List.replicate (2 - (lg_sl ([.ref h, .int p1])).length) Slot.unset).toArray = ls at hl ⊢
  exact tX10_countMore_b0 (fun q => K q.1 q.2) E p1 u _ _ _ hl hP hD0.self va_S.rf h1
-- X10_count
theorem inX10_count_X10 : ∀ w ∈ u_ws RX10 TX10 23, w ∈ wsX10_count := k_lays 25 rfl
theorem lkX10_count_48 : Cond.fieldLink RX10 48 "FerryRampModel" "thrown" "I" ∈ wsX10_count := List.mem_of_getElem? (i := 1) rfl
theorem lkX10_count_7 : Cond.fieldLink RX10 7 "FerryRampModel" "state" "[I" ∈ wsX10_count := List.mem_of_getElem? (i := 2) rfl
theorem hdX10_onDeck : yX10_onDeck.cls = RX10 ∧ yX10_onDeck.cls ≠ "java/lang/invoke/MethodHandle" ∧ yX10_onDeck.cls ≠ "java/lang/invoke/VarHandle" ∧ (parseMethodDescriptor yX10_onDeck.desc).map (fun d => d.parameters.length) = some 0 := by decide +kernel
theorem hdX10_countMore : yX10_countMore.cls = RX10 ∧ yX10_countMore.cls ≠ "java/lang/invoke/MethodHandle" ∧ yX10_countMore.cls ≠ "java/lang/invoke/VarHandle" ∧ (parseMethodDescriptor yX10_countMore.desc).map (fun d => d.parameters.length) = some 1 := by decide +kernel
theorem lkX10_count_313 : Cond.fieldLink RX10 313 "FerryRampModel" "acts" "I" ∈ wsX10_count := List.mem_of_getElem? (i := 3) rfl
abbrev rmX10_count : Room := { frames := 2, cells := 0, slots := 0, locals := 44 }
def fX10_count_b0 (x1 : Int32) (u : RS) : Option (Int32 × RS) :=
  (if x1 = 0 then some (mSt (nTh u 0) 0, nTh u 0) else (if x1 = 1 then some (mSt (nTh u 0) 14, nTh u 0) else (if x1 = 2 then bnd (fX10_onDeck (mSt (nTh u 0))) (fun r108 => some (r108, nTh u 0)) else (if x1 = 3 then some (mSt (nTh u 0) 13, nTh u 0) else (if x1 = 4 then some (mSt (nTh u 0) 1, nTh u 0) else (if x1 = 5 then some (mSt (nTh u 0) 2, nTh u 0) else (if x1 = 6 then some (mSt (nTh u 0) 3, nTh u 0) else (if x1 = 7 then bnd (fX10_weightOnDeck (mSt (nTh u 0))) (fun r142 => some (r142, nTh u 0)) else (if x1 = 8 then some (mSt (nTh u 0) 4, nTh u 0) else (if x1 = 9 then some (mSt (nTh u 0) 5, nTh u 0) else (if x1 = 10 then some (mSt (nTh u 0) 6, nTh u 0) else (if x1 = 11 then bnd2 (fX10_countMore x1 (nTh u 0)) (fun r175 u175 => some (r175, u175)) else (if x1 = 12 then bnd2 (fX10_countMore x1 (nTh u 0)) (fun r175 u175 => some (r175, u175)) else (if x1 = 13 then bnd2 (fX10_countMore x1 (nTh u 0)) (fun r175 u175 => some (r175, u175)) else (if x1 = 14 then bnd2 (fX10_countMore x1 (nTh u 0)) (fun r175 u175 => some (r175, u175)) else (if x1 = 15 then bnd2 (fX10_countMore x1 (nTh u 0)) (fun r175 u175 => some (r175, u175)) else (if x1 = 16 then bnd2 (fX10_countMore x1 (nTh u 0)) (fun r175 u175 => some (r175, u175)) else (if x1 = 17 then some (mAc (nTh u 0), nTh u 0) else bnd2 (fX10_countMore x1 (nTh u 0)) (fun r175 u175 => some (r175, u175))))))))))))))))))))
set_option maxHeartbeats 4000000 in
set_option maxRecDepth 100000 in
theorem tX10_count_b0 {p : Program} {l : Launch} {e : Env} {s : State} {m : MethodId} {args : Array Value} {below : List Frame} {meth : Method} {c : Code} {D : va_G} {cy : Nat → ClassId} {A : Nat → Prop} {h : Nat} {a : Nat → Nat} (K : Int32 × RS → Prop) (E : mE D cy RX10 cX10_count 2 (some .int) wsX10_count A p s m args meth c)
     (x1 : Int32) (u : RS) (H : Heap) (locs : List Loc) (ls : Array Slot) (hl : lv_has ls 2 [(0, .ref h), (1, .int x1)]) (hP : va_P D vwCl (wM cy h a u) H) (hD : va_D A (wM cy h a u)) (hS : va_S A s.heap H locs) (h1 : Ok (fX10_count_b0 x1 u) K) :
    kW p l e rmX10_count s m args below meth c H locs (va_Qi (fun r q => K (r, q)) (fun q => kPost D A (wM cy h a q)) A) A 0 ls [] := by
  obtain ⟨hx, hb, hr, hml, hown, hts, hlocks, hK, hA⟩ := id E
  unfold fX10_count_b0 at h1
  refine lv_aload_n hx hb dX10_count_0 rfl (lv_at hl 0 rfl) ?_
  refine lv_iconst (v := 0) hx hb dX10_count_1 rfl ?_
  refine k_put (v := .int 0) (ty := .int) (C := RX10) (T := TX10) (N := 23) hx hb hts inX10_count_X10 tyX10 tyX10_ok nmX10 hown hK hP hD hS 0 (wM_a0 _ _ _ _) rfl 8 (by decide) lkX10_count_48 rfl (by decide +kernel) rfl rfl (Nat.le_of_ble_eq_true rfl) (ws' := wM cy h a (nTh u 0)) (wM_nTh _ _ _ _ _) dX10_count_2 (fun H locs hP hD hS => ?_)
  refine lv_iload_n hx hb dX10_count_5 rfl (lv_at hl 1 rfl) ?_
  by_cases c6_0 : x1 = 0
  · replace h1 := Ok.pos c6_0 h1
    refine lv_tableIn (off := 86) (tgt := 92) hx hb dX10_count_6 (by rw [c6_0]; decide) (by rw [c6_0]; decide) (by rw [c6_0]; decide) (by decide) ?_
    refine lv_aload_n hx hb dX10_count_92 rfl (lv_at hl 0 rfl) ?_
    refine k_get (v := .ref (a 0)) (C := RX10) (T := TX10) (N := 23) hx hb hts inX10_count_X10 hown hK hP 0 (wM_a0 _ _ _ _) rfl 0 (by decide) lkX10_count_7 (mFs_0 _ _) dX10_count_93 ?_
    refine lv_iconst (v := 0) hx hb dX10_count_96 rfl ?_
    refine k_iald (k := 0) hx hb hK hP 1 (wM_a1 _ _ _ _) rfl rfl dX10_count_97 ?_
    exact kret_i hx hb hr hlocks hP hD hS h1 dX10_count_98
  replace h1 := Ok.neg c6_0 h1
  by_cases c6_1 : x1 = 1
  · replace h1 := Ok.pos c6_1 h1
    refine lv_tableIn (off := 93) (tgt := 99) hx hb dX10_count_6 (by rw [c6_1]; decide) (by rw [c6_1]; decide) (by rw [c6_1]; decide) (by decide) ?_
    refine lv_aload_n hx hb dX10_count_99 rfl (lv_at hl 0 rfl) ?_
    refine k_get (v := .ref (a 0)) (C := RX10) (T := TX10) (N := 23) hx hb hts inX10_count_X10 hown hK hP 0 (wM_a0 _ _ _ _) rfl 0 (by decide) lkX10_count_7 (mFs_0 _ _) dX10_count_100 ?_
    refine lv_bipush (v := 14) hx hb dX10_count_103 rfl ?_
    refine k_iald (k := 14) hx hb hK hP 1 (wM_a1 _ _ _ _) rfl rfl dX10_count_105 ?_
    exact kret_i hx hb hr hlocks hP hD hS h1 dX10_count_106
  replace h1 := Ok.neg c6_1 h1
  by_cases c6_2 : x1 = 2
  · replace h1 := Ok.pos c6_2 h1
    refine lv_tableIn (off := 101) (tgt := 107) hx hb dX10_count_6 (by rw [c6_2]; decide) (by rw [c6_2]; decide) (by rw [c6_2]; decide) (by decide) ?_
    refine lv_aload_n hx hb dX10_count_107 rfl (lv_at hl 0 rfl) ?_
    refine kc_rV (b := h) (As := []) (rest := []) h1 ⟨hx, hb, hml, hown, hts⟩ (cX10_onDeckM l D cy h (a 0) (mRest a (nTh u 0)) H.size (mSt (nTh u 0))) (cwV 0 hts gX10_count_X10_onDeck rfl rfl rfl hdX10_onDeck ⟨Nat.le_of_ble_eq_true rfl, Nat.le_of_ble_eq_true rfl⟩) hK (wM_split _ _ _ _) hP hD hS hA (q0 := 0) rfl rfl rfl hl.1 rfl (Nat.le_of_ble_eq_true rfl) dX10_count_108 ⟨Nat.zero_le _, Nat.zero_le _⟩ (fun r108 H locs h1 hP hS => ?_)
    exact kret_i hx hb hr hlocks hP hD hS h1 dX10_count_111
  replace h1 := Ok.neg c6_2 h1
  by_cases c6_3 : x1 = 3
  · replace h1 := Ok.pos c6_3 h1
    refine lv_tableIn (off := 106) (tgt := 112) hx hb dX10_count_6 (by rw [c6_3]; decide) (by rw [c6_3]; decide) (by rw [c6_3]; decide) (by decide) ?_
    refine lv_aload_n hx hb dX10_count_112 rfl (lv_at hl 0 rfl) ?_
    refine k_get (v := .ref (a 0)) (C := RX10) (T := TX10) (N := 23) hx hb hts inX10_count_X10 hown hK hP 0 (wM_a0 _ _ _ _) rfl 0 (by decide) lkX10_count_7 (mFs_0 _ _) dX10_count_113 ?_
    refine lv_bipush (v := 13) hx hb dX10_count_116 rfl ?_
    refine k_iald (k := 13) hx hb hK hP 1 (wM_a1 _ _ _ _) rfl rfl dX10_count_118 ?_
    exact kret_i hx hb hr hlocks hP hD hS h1 dX10_count_119
  replace h1 := Ok.neg c6_3 h1
  by_cases c6_4 : x1 = 4
  · replace h1 := Ok.pos c6_4 h1
    refine lv_tableIn (off := 114) (tgt := 120) hx hb dX10_count_6 (by rw [c6_4]; decide) (by rw [c6_4]; decide) (by rw [c6_4]; decide) (by decide) ?_
    refine lv_aload_n hx hb dX10_count_120 rfl (lv_at hl 0 rfl) ?_
    refine k_get (v := .ref (a 0)) (C := RX10) (T := TX10) (N := 23) hx hb hts inX10_count_X10 hown hK hP 0 (wM_a0 _ _ _ _) rfl 0 (by decide) lkX10_count_7 (mFs_0 _ _) dX10_count_121 ?_
    refine lv_iconst (v := 1) hx hb dX10_count_124 rfl ?_
    refine k_iald (k := 1) hx hb hK hP 1 (wM_a1 _ _ _ _) rfl rfl dX10_count_125 ?_
    exact kret_i hx hb hr hlocks hP hD hS h1 dX10_count_126
  replace h1 := Ok.neg c6_4 h1
  by_cases c6_5 : x1 = 5
  · replace h1 := Ok.pos c6_5 h1
    refine lv_tableIn (off := 121) (tgt := 127) hx hb dX10_count_6 (by rw [c6_5]; decide) (by rw [c6_5]; decide) (by rw [c6_5]; decide) (by decide) ?_
    refine lv_aload_n hx hb dX10_count_127 rfl (lv_at hl 0 rfl) ?_
    refine k_get (v := .ref (a 0)) (C := RX10) (T := TX10) (N := 23) hx hb hts inX10_count_X10 hown hK hP 0 (wM_a0 _ _ _ _) rfl 0 (by decide) lkX10_count_7 (mFs_0 _ _) dX10_count_128 ?_
    refine lv_iconst (v := 2) hx hb dX10_count_131 rfl ?_
    refine k_iald (k := 2) hx hb hK hP 1 (wM_a1 _ _ _ _) rfl rfl dX10_count_132 ?_
    exact kret_i hx hb hr hlocks hP hD hS h1 dX10_count_133
  replace h1 := Ok.neg c6_5 h1
  by_cases c6_6 : x1 = 6
  · replace h1 := Ok.pos c6_6 h1
    refine lv_tableIn (off := 128) (tgt := 134) hx hb dX10_count_6 (by rw [c6_6]; decide) (by rw [c6_6]; decide) (by rw [c6_6]; decide) (by decide) ?_
    refine lv_aload_n hx hb dX10_count_134 rfl (lv_at hl 0 rfl) ?_
    refine k_get (v := .ref (a 0)) (C := RX10) (T := TX10) (N := 23) hx hb hts inX10_count_X10 hown hK hP 0 (wM_a0 _ _ _ _) rfl 0 (by decide) lkX10_count_7 (mFs_0 _ _) dX10_count_135 ?_
    refine lv_iconst (v := 3) hx hb dX10_count_138 rfl ?_
    refine k_iald (k := 3) hx hb hK hP 1 (wM_a1 _ _ _ _) rfl rfl dX10_count_139 ?_
    exact kret_i hx hb hr hlocks hP hD hS h1 dX10_count_140
  replace h1 := Ok.neg c6_6 h1
  by_cases c6_7 : x1 = 7
  · replace h1 := Ok.pos c6_7 h1
    refine lv_tableIn (off := 135) (tgt := 141) hx hb dX10_count_6 (by rw [c6_7]; decide) (by rw [c6_7]; decide) (by rw [c6_7]; decide) (by decide) ?_
    refine lv_aload_n hx hb dX10_count_141 rfl (lv_at hl 0 rfl) ?_
    refine kc_rV (b := h) (As := []) (rest := []) h1 ⟨hx, hb, hml, hown, hts⟩ (cX10_weightOnDeckM l D cy h (a 0) (mRest a (nTh u 0)) H.size (mSt (nTh u 0))) (cwV 0 hts gX10_count_X10_weightOnDeck rfl rfl rfl hdX10_weightOnDeck ⟨Nat.le_of_ble_eq_true rfl, Nat.le_of_ble_eq_true rfl⟩) hK (wM_split _ _ _ _) hP hD hS hA (q0 := 0) rfl rfl rfl hl.1 rfl (Nat.le_of_ble_eq_true rfl) dX10_count_142 ⟨Nat.zero_le _, Nat.zero_le _⟩ (fun r142 H locs h1 hP hS => ?_)
    exact kret_i hx hb hr hlocks hP hD hS h1 dX10_count_145
  replace h1 := Ok.neg c6_7 h1
  by_cases c6_8 : x1 = 8
  · replace h1 := Ok.pos c6_8 h1
    refine lv_tableIn (off := 140) (tgt := 146) hx hb dX10_count_6 (by rw [c6_8]; decide) (by rw [c6_8]; decide) (by rw [c6_8]; decide) (by decide) ?_
    refine lv_aload_n hx hb dX10_count_146 rfl (lv_at hl 0 rfl) ?_
    refine k_get (v := .ref (a 0)) (C := RX10) (T := TX10) (N := 23) hx hb hts inX10_count_X10 hown hK hP 0 (wM_a0 _ _ _ _) rfl 0 (by decide) lkX10_count_7 (mFs_0 _ _) dX10_count_147 ?_
    refine lv_iconst (v := 4) hx hb dX10_count_150 rfl ?_
    refine k_iald (k := 4) hx hb hK hP 1 (wM_a1 _ _ _ _) rfl rfl dX10_count_151 ?_
    exact kret_i hx hb hr hlocks hP hD hS h1 dX10_count_152
  replace h1 := Ok.neg c6_8 h1
  by_cases c6_9 : x1 = 9
  · replace h1 := Ok.pos c6_9 h1
    refine lv_tableIn (off := 147) (tgt := 153) hx hb dX10_count_6 (by rw [c6_9]; decide) (by rw [c6_9]; decide) (by rw [c6_9]; decide) (by decide) ?_
    refine lv_aload_n hx hb dX10_count_153 rfl (lv_at hl 0 rfl) ?_
    refine k_get (v := .ref (a 0)) (C := RX10) (T := TX10) (N := 23) hx hb hts inX10_count_X10 hown hK hP 0 (wM_a0 _ _ _ _) rfl 0 (by decide) lkX10_count_7 (mFs_0 _ _) dX10_count_154 ?_
    refine lv_iconst (v := 5) hx hb dX10_count_157 rfl ?_
    refine k_iald (k := 5) hx hb hK hP 1 (wM_a1 _ _ _ _) rfl rfl dX10_count_158 ?_
    exact kret_i hx hb hr hlocks hP hD hS h1 dX10_count_159
  replace h1 := Ok.neg c6_9 h1
  by_cases c6_10 : x1 = 10
  · replace h1 := Ok.pos c6_10 h1
    refine lv_tableIn (off := 154) (tgt := 160) hx hb dX10_count_6 (by rw [c6_10]; decide) (by rw [c6_10]; decide) (by rw [c6_10]; decide) (by decide) ?_
    refine lv_aload_n hx hb dX10_count_160 rfl (lv_at hl 0 rfl) ?_
    refine k_get (v := .ref (a 0)) (C := RX10) (T := TX10) (N := 23) hx hb hts inX10_count_X10 hown hK hP 0 (wM_a0 _ _ _ _) rfl 0 (by decide) lkX10_count_7 (mFs_0 _ _) dX10_count_161 ?_
    refine lv_bipush (v := 6) hx hb dX10_count_164 rfl ?_
    refine k_iald (k := 6) hx hb hK hP 1 (wM_a1 _ _ _ _) rfl rfl dX10_count_166 ?_
    exact kret_i hx hb hr hlocks hP hD hS h1 dX10_count_167
  replace h1 := Ok.neg c6_10 h1
  by_cases c6_11 : x1 = 11
  · replace h1 := Ok.pos c6_11 h1
    refine lv_tableIn (off := 167) (tgt := 173) hx hb dX10_count_6 (by rw [c6_11]; decide) (by rw [c6_11]; decide) (by rw [c6_11]; decide) (by decide) ?_
    refine lv_aload_n hx hb dX10_count_173 rfl (lv_at hl 0 rfl) ?_
    refine lv_iload_n hx hb dX10_count_174 rfl (lv_at hl 1 rfl) ?_
    refine kc_iV0 (b := h) (As := [.int x1]) (rest := []) h1 ⟨hx, hb, hml, hown, hts⟩ (cX10_countMoreM l D cy h a H.size (nTh u 0) x1) (cwV 1 hts gX10_count_X10_countMore rfl rfl rfl hdX10_countMore ⟨Nat.le_of_ble_eq_true rfl, Nat.le_of_ble_eq_true rfl⟩) hK hP hD hS hA (q0 := 0) rfl rfl rfl hl.1 rfl (Nat.le_of_ble_eq_true rfl) dX10_count_175 ⟨Nat.zero_le _, Nat.zero_le _⟩ (fun r175 u175 H locs h1 hP hD hS => ?_)
    exact kret_i hx hb hr hlocks hP hD hS h1 dX10_count_178
  replace h1 := Ok.neg c6_11 h1
  by_cases c6_12 : x1 = 12
  · replace h1 := Ok.pos c6_12 h1
    refine lv_tableIn (off := 167) (tgt := 173) hx hb dX10_count_6 (by rw [c6_12]; decide) (by rw [c6_12]; decide) (by rw [c6_12]; decide) (by decide) ?_
    refine lv_aload_n hx hb dX10_count_173 rfl (lv_at hl 0 rfl) ?_
    refine lv_iload_n hx hb dX10_count_174 rfl (lv_at hl 1 rfl) ?_
    refine kc_iV0 (b := h) (As := [.int x1]) (rest := []) h1 ⟨hx, hb, hml, hown, hts⟩ (cX10_countMoreM l D cy h a H.size (nTh u 0) x1) (cwV 1 hts gX10_count_X10_countMore rfl rfl rfl hdX10_countMore ⟨Nat.le_of_ble_eq_true rfl, Nat.le_of_ble_eq_true rfl⟩) hK hP hD hS hA (q0 := 0) rfl rfl rfl hl.1 rfl (Nat.le_of_ble_eq_true rfl) dX10_count_175 ⟨Nat.zero_le _, Nat.zero_le _⟩ (fun r175 u175 H locs h1 hP hD hS => ?_)
    exact kret_i hx hb hr hlocks hP hD hS h1 dX10_count_178
  replace h1 := Ok.neg c6_12 h1
  by_cases c6_13 : x1 = 13
  · replace h1 := Ok.pos c6_13 h1
    refine lv_tableIn (off := 167) (tgt := 173) hx hb dX10_count_6 (by rw [c6_13]; decide) (by rw [c6_13]; decide) (by rw [c6_13]; decide) (by decide) ?_
    refine lv_aload_n hx hb dX10_count_173 rfl (lv_at hl 0 rfl) ?_
    refine lv_iload_n hx hb dX10_count_174 rfl (lv_at hl 1 rfl) ?_
    refine kc_iV0 (b := h) (As := [.int x1]) (rest := []) h1 ⟨hx, hb, hml, hown, hts⟩ (cX10_countMoreM l D cy h a H.size (nTh u 0) x1) (cwV 1 hts gX10_count_X10_countMore rfl rfl rfl hdX10_countMore ⟨Nat.le_of_ble_eq_true rfl, Nat.le_of_ble_eq_true rfl⟩) hK hP hD hS hA (q0 := 0) rfl rfl rfl hl.1 rfl (Nat.le_of_ble_eq_true rfl) dX10_count_175 ⟨Nat.zero_le _, Nat.zero_le _⟩ (fun r175 u175 H locs h1 hP hD hS => ?_)
    exact kret_i hx hb hr hlocks hP hD hS h1 dX10_count_178
  replace h1 := Ok.neg c6_13 h1
  by_cases c6_14 : x1 = 14
  · replace h1 := Ok.pos c6_14 h1
    refine lv_tableIn (off := 167) (tgt := 173) hx hb dX10_count_6 (by rw [c6_14]; decide) (by rw [c6_14]; decide) (by rw [c6_14]; decide) (by decide) ?_
    refine lv_aload_n hx hb dX10_count_173 rfl (lv_at hl 0 rfl) ?_
    refine lv_iload_n hx hb dX10_count_174 rfl (lv_at hl 1 rfl) ?_
    refine kc_iV0 (b := h) (As := [.int x1]) (rest := []) h1 ⟨hx, hb, hml, hown, hts⟩ (cX10_countMoreM l D cy h a H.size (nTh u 0) x1) (cwV 1 hts gX10_count_X10_countMore rfl rfl rfl hdX10_countMore ⟨Nat.le_of_ble_eq_true rfl, Nat.le_of_ble_eq_true rfl⟩) hK hP hD hS hA (q0 := 0) rfl rfl rfl hl.1 rfl (Nat.le_of_ble_eq_true rfl) dX10_count_175 ⟨Nat.zero_le _, Nat.zero_le _⟩ (fun r175 u175 H locs h1 hP hD hS => ?_)
    exact kret_i hx hb hr hlocks hP hD hS h1 dX10_count_178
  replace h1 := Ok.neg c6_14 h1
  by_cases c6_15 : x1 = 15
  · replace h1 := Ok.pos c6_15 h1
    refine lv_tableIn (off := 167) (tgt := 173) hx hb dX10_count_6 (by rw [c6_15]; decide) (by rw [c6_15]; decide) (by rw [c6_15]; decide) (by decide) ?_
    refine lv_aload_n hx hb dX10_count_173 rfl (lv_at hl 0 rfl) ?_
    refine lv_iload_n hx hb dX10_count_174 rfl (lv_at hl 1 rfl) ?_
    refine kc_iV0 (b := h) (As := [.int x1]) (rest := []) h1 ⟨hx, hb, hml, hown, hts⟩ (cX10_countMoreM l D cy h a H.size (nTh u 0) x1) (cwV 1 hts gX10_count_X10_countMore rfl rfl rfl hdX10_countMore ⟨Nat.le_of_ble_eq_true rfl, Nat.le_of_ble_eq_true rfl⟩) hK hP hD hS hA (q0 := 0) rfl rfl rfl hl.1 rfl (Nat.le_of_ble_eq_true rfl) dX10_count_175 ⟨Nat.zero_le _, Nat.zero_le _⟩ (fun r175 u175 H locs h1 hP hD hS => ?_)
    exact kret_i hx hb hr hlocks hP hD hS h1 dX10_count_178
  replace h1 := Ok.neg c6_15 h1
  by_cases c6_16 : x1 = 16
  · replace h1 := Ok.pos c6_16 h1
    refine lv_tableIn (off := 167) (tgt := 173) hx hb dX10_count_6 (by rw [c6_16]; decide) (by rw [c6_16]; decide) (by rw [c6_16]; decide) (by decide) ?_
    refine lv_aload_n hx hb dX10_count_173 rfl (lv_at hl 0 rfl) ?_
    refine lv_iload_n hx hb dX10_count_174 rfl (lv_at hl 1 rfl) ?_
    refine kc_iV0 (b := h) (As := [.int x1]) (rest := []) h1 ⟨hx, hb, hml, hown, hts⟩ (cX10_countMoreM l D cy h a H.size (nTh u 0) x1) (cwV 1 hts gX10_count_X10_countMore rfl rfl rfl hdX10_countMore ⟨Nat.le_of_ble_eq_true rfl, Nat.le_of_ble_eq_true rfl⟩) hK hP hD hS hA (q0 := 0) rfl rfl rfl hl.1 rfl (Nat.le_of_ble_eq_true rfl) dX10_count_175 ⟨Nat.zero_le _, Nat.zero_le _⟩ (fun r175 u175 H locs h1 hP hD hS => ?_)
    exact kret_i hx hb hr hlocks hP hD hS h1 dX10_count_178
  replace h1 := Ok.neg c6_16 h1
  by_cases c6_17 : x1 = 17
  · replace h1 := Ok.pos c6_17 h1
    refine lv_tableIn (off := 162) (tgt := 168) hx hb dX10_count_6 (by rw [c6_17]; decide) (by rw [c6_17]; decide) (by rw [c6_17]; decide) (by decide) ?_
    refine lv_aload_n hx hb dX10_count_168 rfl (lv_at hl 0 rfl) ?_
    refine k_get (v := .int (mAc (nTh u 0))) (C := RX10) (T := TX10) (N := 23) hx hb hts inX10_count_X10 hown hK hP 0 (wM_a0 _ _ _ _) rfl 7 (by decide) lkX10_count_313 (mFs_7 _ _) dX10_count_169 ?_
    exact kret_i hx hb hr hlocks hP hD hS h1 dX10_count_172
  replace h1 := Ok.neg c6_17 h1
  refine lv_tableOut (tgt := 173) hx hb dX10_count_6 (k_tout (x := x1) [0, 1, 2, 3, 4, 5, 6, 7, 8, 9, 10, 11, 12, 13, 14, 15, 16, 17] (by decide) ⟨c6_0, c6_1, c6_2, c6_3, c6_4, c6_5, c6_6, c6_7, c6_8, c6_9, c6_10, c6_11, c6_12, c6_13, c6_14, c6_15, c6_16, c6_17, trivial⟩) (by decide) ?_
  refine lv_aload_n hx hb dX10_count_173 rfl (lv_at hl 0 rfl) ?_
  refine lv_iload_n hx hb dX10_count_174 rfl (lv_at hl 1 rfl) ?_
  refine kc_iV0 (b := h) (As := [.int x1]) (rest := []) h1 ⟨hx, hb, hml, hown, hts⟩ (cX10_countMoreM l D cy h a H.size (nTh u 0) x1) (cwV 1 hts gX10_count_X10_countMore rfl rfl rfl hdX10_countMore ⟨Nat.le_of_ble_eq_true rfl, Nat.le_of_ble_eq_true rfl⟩) hK hP hD hS hA (q0 := 0) rfl rfl rfl hl.1 rfl (Nat.le_of_ble_eq_true rfl) dX10_count_175 ⟨Nat.zero_le _, Nat.zero_le _⟩ (fun r175 u175 H locs h1 hP hD hS => ?_)
  exact kret_i hx hb hr hlocks hP hD hS h1 dX10_count_178
def fX10_count (p1 : Int32) (u : RS) : Option (Int32 × RS) := fX10_count_b0 p1 u
set_option maxHeartbeats 4000000 in
set_option maxRecDepth 100000 in
theorem cX10_countM (l : Launch) (D : va_G) (cy : Nat → ClassId) (h : Nat) (a : Nat → Nat) (sz : Nat) (u : RS) (p1 : Int32) : ∀ (K : Int32 → RS → Prop), Ok (fX10_count p1 u) (fun q => K q.1 q.2) → Met l yX10_count wsX10_count rmX10_count (va_Pc [.ref h, .int p1] (kPre D cy sz (wM cy h a u))) (va_Qi K (fun q => kPost D (va_A (wM cy h a u) sz) (wM cy h a q)) (va_A (wM cy h a u) sz)) 0 0 (va_A (wM cy h a u) sz) := by
  intro K h1
  refine Met.ofW (cc := cX10_count) (maxL := 2) (ret := (some .int)) (by decide) rfl ?_
  intro p e s m args below meth c s₁ B hml hv
  obtain ⟨rfl, hsz, hP, hK, hD0⟩ := hv
  subst hsz
  have E : mE D cy RX10 cX10_count 2 (some .int) wsX10_count (va_A (wM cy h a u) s.heap.size) p s m _ meth c := ⟨B.exec, B.bytes, B.returns, hml, findClass_of_methodNamed B.named, atoms_spec (ws := wsX10_count) B.pre, B.notSynchronized, hK, fun q h => Or.inr h⟩
  have hl := lv_entry ([.ref h, .int p1]) (n := 2) (Nat.le_of_ble_eq_true rfl)
  rw [lg_entry_eq]
  generalize (lg_sl ([.ref h, .int p1]) ++ List.replicate (2 - (lg_sl ([.ref h, .int p1])).length) Slot.unset).toArray = ls at hl ⊢
  exact tX10_count_b0 (fun q => K q.1 q.2) E p1 u _ _ _ hl hP hD0.self va_S.rf h1
-- X10_setting
theorem inX10_setting_X10 : ∀ w ∈ u_ws RX10 TX10 23, w ∈ wsX10_setting := k_lays 11 rfl
theorem lkX10_setting_48 : Cond.fieldLink RX10 48 "FerryRampModel" "thrown" "I" ∈ wsX10_setting := List.mem_of_getElem? (i := 1) rfl
theorem lkX10_setting_7 : Cond.fieldLink RX10 7 "FerryRampModel" "state" "[I" ∈ wsX10_setting := List.mem_of_getElem? (i := 2) rfl
abbrev rmX10_setting : Room := { frames := 1, cells := 0, slots := 0, locals := 22 }
def fX10_setting_b0 (x1 : Int32) (u : RS) : Option (Int32 × RS) :=
  bnd (fX10_isBetween x1 0 13) (fun r9 => (if r9 = 0 then bnd2 (fX10_fail 1 (nTh u 0)) (fun r29 u29 => some (r29, u29)) else grd (inb (15 + x1) 561) (some (mSt (nTh u 0) (ix (15 + x1)), nTh u 0))))
set_option maxHeartbeats 4000000 in
set_option maxRecDepth 100000 in
theorem tX10_setting_b0 {p : Program} {l : Launch} {e : Env} {s : State} {m : MethodId} {args : Array Value} {below : List Frame} {meth : Method} {c : Code} {D : va_G} {cy : Nat → ClassId} {A : Nat → Prop} {h : Nat} {a : Nat → Nat} (K : Int32 × RS → Prop) (E : mE D cy RX10 cX10_setting 2 (some .int) wsX10_setting A p s m args meth c)
     (x1 : Int32) (u : RS) (H : Heap) (locs : List Loc) (ls : Array Slot) (hl : lv_has ls 2 [(0, .ref h), (1, .int x1)]) (hP : va_P D vwCl (wM cy h a u) H) (hD : va_D A (wM cy h a u)) (hS : va_S A s.heap H locs) (h1 : Ok (fX10_setting_b0 x1 u) K) :
    kW p l e rmX10_setting s m args below meth c H locs (va_Qi (fun r q => K (r, q)) (fun q => kPost D A (wM cy h a q)) A) A 0 ls [] := by
  obtain ⟨hx, hb, hr, hml, hown, hts, hlocks, hK, hA⟩ := id E
  unfold fX10_setting_b0 at h1
  refine lv_aload_n hx hb dX10_setting_0 rfl (lv_at hl 0 rfl) ?_
  refine lv_iconst (v := 0) hx hb dX10_setting_1 rfl ?_
  refine k_put (v := .int 0) (ty := .int) (C := RX10) (T := TX10) (N := 23) hx hb hts inX10_setting_X10 tyX10 tyX10_ok nmX10 hown hK hP hD hS 0 (wM_a0 _ _ _ _) rfl 8 (by decide) lkX10_setting_48 rfl (by decide +kernel) rfl rfl (Nat.le_of_ble_eq_true rfl) (ws' := wM cy h a (nTh u 0)) (wM_nTh _ _ _ _ _) dX10_setting_2 (fun H locs hP hD hS => ?_)
  refine lv_iload_n hx hb dX10_setting_5 rfl (lv_at hl 1 rfl) ?_
  refine lv_iconst (v := 0) hx hb dX10_setting_6 rfl ?_
  refine lv_bipush (v := 13) hx hb dX10_setting_7 rfl ?_
  refine kc_rS (As := [.int x1, .int 0, .int 13]) (rest := []) (wc := []) (wr := _) h1 ⟨hx, hb, hml, hown, hts⟩ (cX10_isBetweenM l D cy H.size x1 0 13) (va_cwS 3 hts gX10_setting_X10_isBetween rfl rfl rfl heX10_isBetween ⟨Nat.le_of_ble_eq_true rfl, Nat.le_of_ble_eq_true rfl⟩) hK (List.Perm.refl _) hP hD hS hA rfl hl.1 rfl (Nat.le_of_ble_eq_true rfl) dX10_setting_9 ⟨Nat.zero_le _, Nat.zero_le _⟩ (fun r9 H locs h1 hP hS => ?_)
  refine lv_if_eq (tgt := 27) hx hb dX10_setting_12 (by decide) (fun c12 => ?_) (fun c12 => ?_)
  · replace h1 := Ok.pos c12 h1
    refine lv_aload_n hx hb dX10_setting_27 rfl (lv_at hl 0 rfl) ?_
    refine lv_iconst (v := 1) hx hb dX10_setting_28 rfl ?_
    refine kc_iV0 (b := h) (As := [.int 1]) (rest := []) h1 ⟨hx, hb, hml, hown, hts⟩ (cX10_failM l D cy h a H.size (nTh u 0) 1) (cwV 1 hts gX10_setting_X10_fail rfl rfl rfl hdX10_fail ⟨Nat.le_of_ble_eq_true rfl, Nat.le_of_ble_eq_true rfl⟩) hK hP hD hS hA (q0 := 0) rfl rfl rfl hl.1 rfl (Nat.le_of_ble_eq_true rfl) dX10_setting_29 ⟨Nat.zero_le _, Nat.zero_le _⟩ (fun r29 u29 H locs h1 hP hD hS => ?_)
    exact kret_i hx hb hr hlocks hP hD hS h1 dX10_setting_32
  · replace h1 := Ok.neg c12 h1
    refine lv_aload_n hx hb dX10_setting_15 rfl (lv_at hl 0 rfl) ?_
    refine k_get (v := .ref (a 0)) (C := RX10) (T := TX10) (N := 23) hx hb hts inX10_setting_X10 hown hK hP 0 (wM_a0 _ _ _ _) rfl 0 (by decide) lkX10_setting_7 (mFs_0 _ _) dX10_setting_16 ?_
    refine lv_bipush (v := 15) hx hb dX10_setting_19 rfl ?_
    refine lv_iload_n hx hb dX10_setting_21 rfl (lv_at hl 1 rfl) ?_
    refine lv_iadd hx hb dX10_setting_22 ?_
    have g23 := h1.grd1
    replace h1 := h1.grd2
    refine k_iald (k := (ix (15 + x1))) hx hb hK hP 1 (wM_a1 _ _ _ _) g23 rfl dX10_setting_23 ?_
    refine lv_goto (tgt := 32) hx hb dX10_setting_24 (by decide) ?_
    exact kret_i hx hb hr hlocks hP hD hS h1 dX10_setting_32
def fX10_setting (p1 : Int32) (u : RS) : Option (Int32 × RS) := fX10_setting_b0 p1 u
set_option maxHeartbeats 4000000 in
set_option maxRecDepth 100000 in
theorem cX10_settingM (l : Launch) (D : va_G) (cy : Nat → ClassId) (h : Nat) (a : Nat → Nat) (sz : Nat) (u : RS) (p1 : Int32) : ∀ (K : Int32 → RS → Prop), Ok (fX10_setting p1 u) (fun q => K q.1 q.2) → Met l yX10_setting wsX10_setting rmX10_setting (va_Pc [.ref h, .int p1] (kPre D cy sz (wM cy h a u))) (va_Qi K (fun q => kPost D (va_A (wM cy h a u) sz) (wM cy h a q)) (va_A (wM cy h a u) sz)) 0 0 (va_A (wM cy h a u) sz) := by
  intro K h1
  refine Met.ofW (cc := cX10_setting) (maxL := 2) (ret := (some .int)) (by decide) rfl ?_
  intro p e s m args below meth c s₁ B hml hv
  obtain ⟨rfl, hsz, hP, hK, hD0⟩ := hv
  subst hsz
  have E : mE D cy RX10 cX10_setting 2 (some .int) wsX10_setting (va_A (wM cy h a u) s.heap.size) p s m _ meth c := ⟨B.exec, B.bytes, B.returns, hml, findClass_of_methodNamed B.named, atoms_spec (ws := wsX10_setting) B.pre, B.notSynchronized, hK, fun q h => Or.inr h⟩
  have hl := lv_entry ([.ref h, .int p1]) (n := 2) (Nat.le_of_ble_eq_true rfl)
  rw [lg_entry_eq]
  generalize (lg_sl ([.ref h, .int p1]) ++ List.replicate (2 - (lg_sl ([.ref h, .int p1])).length) Slot.unset).toArray = ls at hl ⊢
  exact tX10_setting_b0 (fun q => K q.1 q.2) E p1 u _ _ _ hl hP hD0.self va_S.rf h1
-- X10_kind
theorem inX10_kind_X10 : ∀ w ∈ u_ws RX10 TX10 23, w ∈ wsX10_kind := k_lays 18 rfl
theorem lkX10_kind_48 : Cond.fieldLink RX10 48 "FerryRampModel" "thrown" "I" ∈ wsX10_kind := List.mem_of_getElem? (i := 1) rfl
abbrev rmX10_kind : Room := { frames := 2, cells := 0, slots := 0, locals := 42 }
def fX10_kind_b0 (x1 : Int32) (x2 : Int32) (u : RS) : Option (Int32 × RS) :=
  bnd (fX10_isKind x1) (fun r6 => (if r6 = 0 then bnd2 (fX10_fail 1 (nTh u 0)) (fun r14 u14 => some (r14, u14)) else bnd (fX10_isBetween x2 0 2) (fun r21 => (if r21 = 0 then bnd2 (fX10_fail 2 (nTh u 0)) (fun r38 u38 => some (r38, u38)) else bnd (fX10_ofKind x1 x2 (mSt (nTh u 0))) (fun r30 => some (r30, nTh u 0))))))
set_option maxHeartbeats 4000000 in
set_option maxRecDepth 100000 in
theorem tX10_kind_b0 {p : Program} {l : Launch} {e : Env} {s : State} {m : MethodId} {args : Array Value} {below : List Frame} {meth : Method} {c : Code} {D : va_G} {cy : Nat → ClassId} {A : Nat → Prop} {h : Nat} {a : Nat → Nat} (K : Int32 × RS → Prop) (E : mE D cy RX10 cX10_kind 3 (some .int) wsX10_kind A p s m args meth c)
     (x1 : Int32) (x2 : Int32) (u : RS) (H : Heap) (locs : List Loc) (ls : Array Slot) (hl : lv_has ls 3 [(0, .ref h), (1, .int x1), (2, .int x2)]) (hP : va_P D vwCl (wM cy h a u) H) (hD : va_D A (wM cy h a u)) (hS : va_S A s.heap H locs) (h1 : Ok (fX10_kind_b0 x1 x2 u) K) :
    kW p l e rmX10_kind s m args below meth c H locs (va_Qi (fun r q => K (r, q)) (fun q => kPost D A (wM cy h a q)) A) A 0 ls [] := by
  obtain ⟨hx, hb, hr, hml, hown, hts, hlocks, hK, hA⟩ := id E
  unfold fX10_kind_b0 at h1
  refine lv_aload_n hx hb dX10_kind_0 rfl (lv_at hl 0 rfl) ?_
  refine lv_iconst (v := 0) hx hb dX10_kind_1 rfl ?_
  refine k_put (v := .int 0) (ty := .int) (C := RX10) (T := TX10) (N := 23) hx hb hts inX10_kind_X10 tyX10 tyX10_ok nmX10 hown hK hP hD hS 0 (wM_a0 _ _ _ _) rfl 8 (by decide) lkX10_kind_48 rfl (by decide +kernel) rfl rfl (Nat.le_of_ble_eq_true rfl) (ws' := wM cy h a (nTh u 0)) (wM_nTh _ _ _ _ _) dX10_kind_2 (fun H locs hP hD hS => ?_)
  refine lv_iload_n hx hb dX10_kind_5 rfl (lv_at hl 1 rfl) ?_
  refine kc_rS (As := [.int x1]) (rest := []) (wc := []) (wr := _) h1 ⟨hx, hb, hml, hown, hts⟩ (cX10_isKindM l D cy H.size x1) (va_cwS 1 hts gX10_kind_X10_isKind rfl rfl rfl heX10_isKind ⟨Nat.le_of_ble_eq_true rfl, Nat.le_of_ble_eq_true rfl⟩) hK (List.Perm.refl _) hP hD hS hA rfl hl.1 rfl (Nat.le_of_ble_eq_true rfl) dX10_kind_6 ⟨Nat.zero_le _, Nat.zero_le _⟩ (fun r6 H locs h1 hP hS => ?_)
  refine lv_if_ne (tgt := 18) hx hb dX10_kind_9 (by decide) (fun c9 => ?_) (fun c9 => ?_)
  · replace h1 := Ok.neg c9 h1
    refine lv_iload_n hx hb dX10_kind_18 rfl (lv_at hl 2 rfl) ?_
    refine lv_iconst (v := 0) hx hb dX10_kind_19 rfl ?_
    refine lv_iconst (v := 2) hx hb dX10_kind_20 rfl ?_
    refine kc_rS (As := [.int x2, .int 0, .int 2]) (rest := []) (wc := []) (wr := _) h1 ⟨hx, hb, hml, hown, hts⟩ (cX10_isBetweenM l D cy H.size x2 0 2) (va_cwS 3 hts gX10_kind_X10_isBetween rfl rfl rfl heX10_isBetween ⟨Nat.le_of_ble_eq_true rfl, Nat.le_of_ble_eq_true rfl⟩) hK (List.Perm.refl _) hP hD hS hA rfl hl.1 rfl (Nat.le_of_ble_eq_true rfl) dX10_kind_21 ⟨Nat.zero_le _, Nat.zero_le _⟩ (fun r21 H locs h1 hP hS => ?_)
    refine lv_if_eq (tgt := 36) hx hb dX10_kind_24 (by decide) (fun c24 => ?_) (fun c24 => ?_)
    · replace h1 := Ok.pos c24 h1
      refine lv_aload_n hx hb dX10_kind_36 rfl (lv_at hl 0 rfl) ?_
      refine lv_iconst (v := 2) hx hb dX10_kind_37 rfl ?_
      refine kc_iV0 (b := h) (As := [.int 2]) (rest := []) h1 ⟨hx, hb, hml, hown, hts⟩ (cX10_failM l D cy h a H.size (nTh u 0) 2) (cwV 1 hts gX10_kind_X10_fail rfl rfl rfl hdX10_fail ⟨Nat.le_of_ble_eq_true rfl, Nat.le_of_ble_eq_true rfl⟩) hK hP hD hS hA (q0 := 0) rfl rfl rfl hl.1 rfl (Nat.le_of_ble_eq_true rfl) dX10_kind_38 ⟨Nat.zero_le _, Nat.zero_le _⟩ (fun r38 u38 H locs h1 hP hD hS => ?_)
      exact kret_i hx hb hr hlocks hP hD hS h1 dX10_kind_41
    · replace h1 := Ok.neg c24 h1
      refine lv_aload_n hx hb dX10_kind_27 rfl (lv_at hl 0 rfl) ?_
      refine lv_iload_n hx hb dX10_kind_28 rfl (lv_at hl 1 rfl) ?_
      refine lv_iload_n hx hb dX10_kind_29 rfl (lv_at hl 2 rfl) ?_
      refine kc_rV (b := h) (As := [.int x1, .int x2]) (rest := []) h1 ⟨hx, hb, hml, hown, hts⟩ (cX10_ofKindM l D cy h (a 0) (mRest a (nTh u 0)) H.size (mSt (nTh u 0)) x1 x2) (cwV 2 hts gX10_kind_X10_ofKind rfl rfl rfl hdX10_ofKind ⟨Nat.le_of_ble_eq_true rfl, Nat.le_of_ble_eq_true rfl⟩) hK (wM_split _ _ _ _) hP hD hS hA (q0 := 0) rfl rfl rfl hl.1 rfl (Nat.le_of_ble_eq_true rfl) dX10_kind_30 ⟨Nat.zero_le _, Nat.zero_le _⟩ (fun r30 H locs h1 hP hS => ?_)
      refine lv_goto (tgt := 41) hx hb dX10_kind_33 (by decide) ?_
      exact kret_i hx hb hr hlocks hP hD hS h1 dX10_kind_41
  · replace h1 := Ok.pos c9 h1
    refine lv_aload_n hx hb dX10_kind_12 rfl (lv_at hl 0 rfl) ?_
    refine lv_iconst (v := 1) hx hb dX10_kind_13 rfl ?_
    refine kc_iV0 (b := h) (As := [.int 1]) (rest := []) h1 ⟨hx, hb, hml, hown, hts⟩ (cX10_failM l D cy h a H.size (nTh u 0) 1) (cwV 1 hts gX10_kind_X10_fail rfl rfl rfl hdX10_fail ⟨Nat.le_of_ble_eq_true rfl, Nat.le_of_ble_eq_true rfl⟩) hK hP hD hS hA (q0 := 0) rfl rfl rfl hl.1 rfl (Nat.le_of_ble_eq_true rfl) dX10_kind_14 ⟨Nat.zero_le _, Nat.zero_le _⟩ (fun r14 u14 H locs h1 hP hD hS => ?_)
    exact kret_i hx hb hr hlocks hP hD hS h1 dX10_kind_17
def fX10_kind (p1 : Int32) (p2 : Int32) (u : RS) : Option (Int32 × RS) := fX10_kind_b0 p1 p2 u
set_option maxHeartbeats 4000000 in
set_option maxRecDepth 100000 in
theorem cX10_kindM (l : Launch) (D : va_G) (cy : Nat → ClassId) (h : Nat) (a : Nat → Nat) (sz : Nat) (u : RS) (p1 : Int32) (p2 : Int32) : ∀ (K : Int32 → RS → Prop), Ok (fX10_kind p1 p2 u) (fun q => K q.1 q.2) → Met l yX10_kind wsX10_kind rmX10_kind (va_Pc [.ref h, .int p1, .int p2] (kPre D cy sz (wM cy h a u))) (va_Qi K (fun q => kPost D (va_A (wM cy h a u) sz) (wM cy h a q)) (va_A (wM cy h a u) sz)) 0 0 (va_A (wM cy h a u) sz) := by
  intro K h1
  refine Met.ofW (cc := cX10_kind) (maxL := 3) (ret := (some .int)) (by decide) rfl ?_
  intro p e s m args below meth c s₁ B hml hv
  obtain ⟨rfl, hsz, hP, hK, hD0⟩ := hv
  subst hsz
  have E : mE D cy RX10 cX10_kind 3 (some .int) wsX10_kind (va_A (wM cy h a u) s.heap.size) p s m _ meth c := ⟨B.exec, B.bytes, B.returns, hml, findClass_of_methodNamed B.named, atoms_spec (ws := wsX10_kind) B.pre, B.notSynchronized, hK, fun q h => Or.inr h⟩
  have hl := lv_entry ([.ref h, .int p1, .int p2]) (n := 3) (Nat.le_of_ble_eq_true rfl)
  rw [lg_entry_eq]
  generalize (lg_sl ([.ref h, .int p1, .int p2]) ++ List.replicate (3 - (lg_sl ([.ref h, .int p1, .int p2])).length) Slot.unset).toArray = ls at hl ⊢
  exact tX10_kind_b0 (fun q => K q.1 q.2) E p1 p2 u _ _ _ hl hP hD0.self va_S.rf h1
-- X10_car
theorem inX10_car_X10 : ∀ w ∈ u_ws RX10 TX10 23, w ∈ wsX10_car := k_lays 19 rfl
theorem lkX10_car_48 : Cond.fieldLink RX10 48 "FerryRampModel" "thrown" "I" ∈ wsX10_car := List.mem_of_getElem? (i := 1) rfl
abbrev rmX10_car : Room := { frames := 2, cells := 0, slots := 0, locals := 43 }
def fX10_car_b0 (x1 : Int32) (x2 : Int32) (u : RS) : Option (Int32 × RS) :=
  bnd (fX10_isCar x1 (mSt (nTh u 0))) (fun r7 => (if r7 = 0 then bnd2 (fX10_fail 1 (nTh u 0)) (fun r15 u15 => some (r15, u15)) else bnd (fX10_isBetween x2 0 6) (fun r23 => (if r23 = 0 then bnd2 (fX10_fail 2 (nTh u 0)) (fun r40 u40 => some (r40, u40)) else bnd (fX10_ofCar x1 x2 (mSt (nTh u 0))) (fun r32 => some (r32, nTh u 0))))))
set_option maxHeartbeats 4000000 in
set_option maxRecDepth 100000 in
theorem tX10_car_b0 {p : Program} {l : Launch} {e : Env} {s : State} {m : MethodId} {args : Array Value} {below : List Frame} {meth : Method} {c : Code} {D : va_G} {cy : Nat → ClassId} {A : Nat → Prop} {h : Nat} {a : Nat → Nat} (K : Int32 × RS → Prop) (E : mE D cy RX10 cX10_car 3 (some .int) wsX10_car A p s m args meth c)
     (x1 : Int32) (x2 : Int32) (u : RS) (H : Heap) (locs : List Loc) (ls : Array Slot) (hl : lv_has ls 3 [(0, .ref h), (1, .int x1), (2, .int x2)]) (hP : va_P D vwCl (wM cy h a u) H) (hD : va_D A (wM cy h a u)) (hS : va_S A s.heap H locs) (h1 : Ok (fX10_car_b0 x1 x2 u) K) :
    kW p l e rmX10_car s m args below meth c H locs (va_Qi (fun r q => K (r, q)) (fun q => kPost D A (wM cy h a q)) A) A 0 ls [] := by
  obtain ⟨hx, hb, hr, hml, hown, hts, hlocks, hK, hA⟩ := id E
  unfold fX10_car_b0 at h1
  refine lv_aload_n hx hb dX10_car_0 rfl (lv_at hl 0 rfl) ?_
  refine lv_iconst (v := 0) hx hb dX10_car_1 rfl ?_
  refine k_put (v := .int 0) (ty := .int) (C := RX10) (T := TX10) (N := 23) hx hb hts inX10_car_X10 tyX10 tyX10_ok nmX10 hown hK hP hD hS 0 (wM_a0 _ _ _ _) rfl 8 (by decide) lkX10_car_48 rfl (by decide +kernel) rfl rfl (Nat.le_of_ble_eq_true rfl) (ws' := wM cy h a (nTh u 0)) (wM_nTh _ _ _ _ _) dX10_car_2 (fun H locs hP hD hS => ?_)
  refine lv_aload_n hx hb dX10_car_5 rfl (lv_at hl 0 rfl) ?_
  refine lv_iload_n hx hb dX10_car_6 rfl (lv_at hl 1 rfl) ?_
  refine kc_rV (b := h) (As := [.int x1]) (rest := []) h1 ⟨hx, hb, hml, hown, hts⟩ (cX10_isCarM l D cy h (a 0) (mRest a (nTh u 0)) H.size (mSt (nTh u 0)) x1) (cwV 1 hts gX10_car_X10_isCar rfl rfl rfl hdX10_isCar ⟨Nat.le_of_ble_eq_true rfl, Nat.le_of_ble_eq_true rfl⟩) hK (wM_split _ _ _ _) hP hD hS hA (q0 := 0) rfl rfl rfl hl.1 rfl (Nat.le_of_ble_eq_true rfl) dX10_car_7 ⟨Nat.zero_le _, Nat.zero_le _⟩ (fun r7 H locs h1 hP hS => ?_)
  refine lv_if_ne (tgt := 19) hx hb dX10_car_10 (by decide) (fun c10 => ?_) (fun c10 => ?_)
  · replace h1 := Ok.neg c10 h1
    refine lv_iload_n hx hb dX10_car_19 rfl (lv_at hl 2 rfl) ?_
    refine lv_iconst (v := 0) hx hb dX10_car_20 rfl ?_
    refine lv_bipush (v := 6) hx hb dX10_car_21 rfl ?_
    refine kc_rS (As := [.int x2, .int 0, .int 6]) (rest := []) (wc := []) (wr := _) h1 ⟨hx, hb, hml, hown, hts⟩ (cX10_isBetweenM l D cy H.size x2 0 6) (va_cwS 3 hts gX10_car_X10_isBetween rfl rfl rfl heX10_isBetween ⟨Nat.le_of_ble_eq_true rfl, Nat.le_of_ble_eq_true rfl⟩) hK (List.Perm.refl _) hP hD hS hA rfl hl.1 rfl (Nat.le_of_ble_eq_true rfl) dX10_car_23 ⟨Nat.zero_le _, Nat.zero_le _⟩ (fun r23 H locs h1 hP hS => ?_)
    refine lv_if_eq (tgt := 38) hx hb dX10_car_26 (by decide) (fun c26 => ?_) (fun c26 => ?_)
    · replace h1 := Ok.pos c26 h1
      refine lv_aload_n hx hb dX10_car_38 rfl (lv_at hl 0 rfl) ?_
      refine lv_iconst (v := 2) hx hb dX10_car_39 rfl ?_
      refine kc_iV0 (b := h) (As := [.int 2]) (rest := []) h1 ⟨hx, hb, hml, hown, hts⟩ (cX10_failM l D cy h a H.size (nTh u 0) 2) (cwV 1 hts gX10_car_X10_fail rfl rfl rfl hdX10_fail ⟨Nat.le_of_ble_eq_true rfl, Nat.le_of_ble_eq_true rfl⟩) hK hP hD hS hA (q0 := 0) rfl rfl rfl hl.1 rfl (Nat.le_of_ble_eq_true rfl) dX10_car_40 ⟨Nat.zero_le _, Nat.zero_le _⟩ (fun r40 u40 H locs h1 hP hD hS => ?_)
      exact kret_i hx hb hr hlocks hP hD hS h1 dX10_car_43
    · replace h1 := Ok.neg c26 h1
      refine lv_aload_n hx hb dX10_car_29 rfl (lv_at hl 0 rfl) ?_
      refine lv_iload_n hx hb dX10_car_30 rfl (lv_at hl 1 rfl) ?_
      refine lv_iload_n hx hb dX10_car_31 rfl (lv_at hl 2 rfl) ?_
      refine kc_rV (b := h) (As := [.int x1, .int x2]) (rest := []) h1 ⟨hx, hb, hml, hown, hts⟩ (cX10_ofCarM l D cy h (a 0) (mRest a (nTh u 0)) H.size (mSt (nTh u 0)) x1 x2) (cwV 2 hts gX10_car_X10_ofCar rfl rfl rfl hdX10_ofCar ⟨Nat.le_of_ble_eq_true rfl, Nat.le_of_ble_eq_true rfl⟩) hK (wM_split _ _ _ _) hP hD hS hA (q0 := 0) rfl rfl rfl hl.1 rfl (Nat.le_of_ble_eq_true rfl) dX10_car_32 ⟨Nat.zero_le _, Nat.zero_le _⟩ (fun r32 H locs h1 hP hS => ?_)
      refine lv_goto (tgt := 43) hx hb dX10_car_35 (by decide) ?_
      exact kret_i hx hb hr hlocks hP hD hS h1 dX10_car_43
  · replace h1 := Ok.pos c10 h1
    refine lv_aload_n hx hb dX10_car_13 rfl (lv_at hl 0 rfl) ?_
    refine lv_iconst (v := 1) hx hb dX10_car_14 rfl ?_
    refine kc_iV0 (b := h) (As := [.int 1]) (rest := []) h1 ⟨hx, hb, hml, hown, hts⟩ (cX10_failM l D cy h a H.size (nTh u 0) 1) (cwV 1 hts gX10_car_X10_fail rfl rfl rfl hdX10_fail ⟨Nat.le_of_ble_eq_true rfl, Nat.le_of_ble_eq_true rfl⟩) hK hP hD hS hA (q0 := 0) rfl rfl rfl hl.1 rfl (Nat.le_of_ble_eq_true rfl) dX10_car_15 ⟨Nat.zero_le _, Nat.zero_le _⟩ (fun r15 u15 H locs h1 hP hD hS => ?_)
    exact kret_i hx hb hr hlocks hP hD hS h1 dX10_car_18
def fX10_car (p1 : Int32) (p2 : Int32) (u : RS) : Option (Int32 × RS) := fX10_car_b0 p1 p2 u
set_option maxHeartbeats 4000000 in
set_option maxRecDepth 100000 in
theorem cX10_carM (l : Launch) (D : va_G) (cy : Nat → ClassId) (h : Nat) (a : Nat → Nat) (sz : Nat) (u : RS) (p1 : Int32) (p2 : Int32) : ∀ (K : Int32 → RS → Prop), Ok (fX10_car p1 p2 u) (fun q => K q.1 q.2) → Met l yX10_car wsX10_car rmX10_car (va_Pc [.ref h, .int p1, .int p2] (kPre D cy sz (wM cy h a u))) (va_Qi K (fun q => kPost D (va_A (wM cy h a u) sz) (wM cy h a q)) (va_A (wM cy h a u) sz)) 0 0 (va_A (wM cy h a u) sz) := by
  intro K h1
  refine Met.ofW (cc := cX10_car) (maxL := 3) (ret := (some .int)) (by decide) rfl ?_
  intro p e s m args below meth c s₁ B hml hv
  obtain ⟨rfl, hsz, hP, hK, hD0⟩ := hv
  subst hsz
  have E : mE D cy RX10 cX10_car 3 (some .int) wsX10_car (va_A (wM cy h a u) s.heap.size) p s m _ meth c := ⟨B.exec, B.bytes, B.returns, hml, findClass_of_methodNamed B.named, atoms_spec (ws := wsX10_car) B.pre, B.notSynchronized, hK, fun q h => Or.inr h⟩
  have hl := lv_entry ([.ref h, .int p1, .int p2]) (n := 3) (Nat.le_of_ble_eq_true rfl)
  rw [lg_entry_eq]
  generalize (lg_sl ([.ref h, .int p1, .int p2]) ++ List.replicate (3 - (lg_sl ([.ref h, .int p1, .int p2])).length) Slot.unset).toArray = ls at hl ⊢
  exact tX10_car_b0 (fun q => K q.1 q.2) E p1 p2 u _ _ _ hl hP hD0.self va_S.rf h1
-- X10_queued
theorem inX10_queued_X10 : ∀ w ∈ u_ws RX10 TX10 23, w ∈ wsX10_queued := k_lays 7 rfl
theorem lkX10_queued_48 : Cond.fieldLink RX10 48 "FerryRampModel" "thrown" "I" ∈ wsX10_queued := List.mem_of_getElem? (i := 1) rfl
theorem lkX10_queued_7 : Cond.fieldLink RX10 7 "FerryRampModel" "state" "[I" ∈ wsX10_queued := List.mem_of_getElem? (i := 2) rfl
abbrev rmX10_queued : Room := { frames := 1, cells := 0, slots := 0, locals := 22 }
def fX10_queued_b0 (x1 : Int32) (u : RS) : Option (Int32 × RS) :=
  bnd (fX10_isBetween x1 0 ((mSt (nTh u 0) 14) - 1)) (fun r16 => (if r16 = 0 then some ((-1), nTh u 0) else grd (inb (41 + x1) 561) (some (mSt (nTh u 0) (ix (41 + x1)), nTh u 0))))
set_option maxHeartbeats 4000000 in
set_option maxRecDepth 100000 in
theorem tX10_queued_b0 {p : Program} {l : Launch} {e : Env} {s : State} {m : MethodId} {args : Array Value} {below : List Frame} {meth : Method} {c : Code} {D : va_G} {cy : Nat → ClassId} {A : Nat → Prop} {h : Nat} {a : Nat → Nat} (K : Int32 × RS → Prop) (E : mE D cy RX10 cX10_queued 2 (some .int) wsX10_queued A p s m args meth c)
     (x1 : Int32) (u : RS) (H : Heap) (locs : List Loc) (ls : Array Slot) (hl : lv_has ls 2 [(0, .ref h), (1, .int x1)]) (hP : va_P D vwCl (wM cy h a u) H) (hD : va_D A (wM cy h a u)) (hS : va_S A s.heap H locs) (h1 : Ok (fX10_queued_b0 x1 u) K) :
    kW p l e rmX10_queued s m args below meth c H locs (va_Qi (fun r q => K (r, q)) (fun q => kPost D A (wM cy h a q)) A) A 0 ls [] := by
  obtain ⟨hx, hb, hr, hml, hown, hts, hlocks, hK, hA⟩ := id E
  unfold fX10_queued_b0 at h1
  refine lv_aload_n hx hb dX10_queued_0 rfl (lv_at hl 0 rfl) ?_
  refine lv_iconst (v := 0) hx hb dX10_queued_1 rfl ?_
  refine k_put (v := .int 0) (ty := .int) (C := RX10) (T := TX10) (N := 23) hx hb hts inX10_queued_X10 tyX10 tyX10_ok nmX10 hown hK hP hD hS 0 (wM_a0 _ _ _ _) rfl 8 (by decide) lkX10_queued_48 rfl (by decide +kernel) rfl rfl (Nat.le_of_ble_eq_true rfl) (ws' := wM cy h a (nTh u 0)) (wM_nTh _ _ _ _ _) dX10_queued_2 (fun H locs hP hD hS => ?_)
  refine lv_iload_n hx hb dX10_queued_5 rfl (lv_at hl 1 rfl) ?_
  refine lv_iconst (v := 0) hx hb dX10_queued_6 rfl ?_
  refine lv_aload_n hx hb dX10_queued_7 rfl (lv_at hl 0 rfl) ?_
  refine k_get (v := .ref (a 0)) (C := RX10) (T := TX10) (N := 23) hx hb hts inX10_queued_X10 hown hK hP 0 (wM_a0 _ _ _ _) rfl 0 (by decide) lkX10_queued_7 (mFs_0 _ _) dX10_queued_8 ?_
  refine lv_bipush (v := 14) hx hb dX10_queued_11 rfl ?_
  refine k_iald (k := 14) hx hb hK hP 1 (wM_a1 _ _ _ _) rfl rfl dX10_queued_13 ?_
  refine lv_iconst (v := 1) hx hb dX10_queued_14 rfl ?_
  refine lv_isub hx hb dX10_queued_15 ?_
  refine kc_rS (As := [.int x1, .int 0, .int ((mSt (nTh u 0) 14) - 1)]) (rest := []) (wc := []) (wr := _) h1 ⟨hx, hb, hml, hown, hts⟩ (cX10_isBetweenM l D cy H.size x1 0 ((mSt (nTh u 0) 14) - 1)) (va_cwS 3 hts gX10_queued_X10_isBetween rfl rfl rfl heX10_isBetween ⟨Nat.le_of_ble_eq_true rfl, Nat.le_of_ble_eq_true rfl⟩) hK (List.Perm.refl _) hP hD hS hA rfl hl.1 rfl (Nat.le_of_ble_eq_true rfl) dX10_queued_16 ⟨Nat.zero_le _, Nat.zero_le _⟩ (fun r16 H locs h1 hP hS => ?_)
  refine lv_if_eq (tgt := 34) hx hb dX10_queued_19 (by decide) (fun c19 => ?_) (fun c19 => ?_)
  · replace h1 := Ok.pos c19 h1
    refine lv_iconst (v := (-1)) hx hb dX10_queued_34 rfl ?_
    exact kret_i hx hb hr hlocks hP hD hS h1 dX10_queued_35
  · replace h1 := Ok.neg c19 h1
    refine lv_aload_n hx hb dX10_queued_22 rfl (lv_at hl 0 rfl) ?_
    refine k_get (v := .ref (a 0)) (C := RX10) (T := TX10) (N := 23) hx hb hts inX10_queued_X10 hown hK hP 0 (wM_a0 _ _ _ _) rfl 0 (by decide) lkX10_queued_7 (mFs_0 _ _) dX10_queued_23 ?_
    refine lv_bipush (v := 41) hx hb dX10_queued_26 rfl ?_
    refine lv_iload_n hx hb dX10_queued_28 rfl (lv_at hl 1 rfl) ?_
    refine lv_iadd hx hb dX10_queued_29 ?_
    have g30 := h1.grd1
    replace h1 := h1.grd2
    refine k_iald (k := (ix (41 + x1))) hx hb hK hP 1 (wM_a1 _ _ _ _) g30 rfl dX10_queued_30 ?_
    refine lv_goto (tgt := 35) hx hb dX10_queued_31 (by decide) ?_
    exact kret_i hx hb hr hlocks hP hD hS h1 dX10_queued_35
def fX10_queued (p1 : Int32) (u : RS) : Option (Int32 × RS) := fX10_queued_b0 p1 u
set_option maxHeartbeats 4000000 in
set_option maxRecDepth 100000 in
theorem cX10_queuedM (l : Launch) (D : va_G) (cy : Nat → ClassId) (h : Nat) (a : Nat → Nat) (sz : Nat) (u : RS) (p1 : Int32) : ∀ (K : Int32 → RS → Prop), Ok (fX10_queued p1 u) (fun q => K q.1 q.2) → Met l yX10_queued wsX10_queued rmX10_queued (va_Pc [.ref h, .int p1] (kPre D cy sz (wM cy h a u))) (va_Qi K (fun q => kPost D (va_A (wM cy h a u) sz) (wM cy h a q)) (va_A (wM cy h a u) sz)) 0 0 (va_A (wM cy h a u) sz) := by
  intro K h1
  refine Met.ofW (cc := cX10_queued) (maxL := 2) (ret := (some .int)) (by decide) rfl ?_
  intro p e s m args below meth c s₁ B hml hv
  obtain ⟨rfl, hsz, hP, hK, hD0⟩ := hv
  subst hsz
  have E : mE D cy RX10 cX10_queued 2 (some .int) wsX10_queued (va_A (wM cy h a u) s.heap.size) p s m _ meth c := ⟨B.exec, B.bytes, B.returns, hml, findClass_of_methodNamed B.named, atoms_spec (ws := wsX10_queued) B.pre, B.notSynchronized, hK, fun q h => Or.inr h⟩
  have hl := lv_entry ([.ref h, .int p1]) (n := 2) (Nat.le_of_ble_eq_true rfl)
  rw [lg_entry_eq]
  generalize (lg_sl ([.ref h, .int p1]) ++ List.replicate (2 - (lg_sl ([.ref h, .int p1])).length) Slot.unset).toArray = ls at hl ⊢
  exact tX10_queued_b0 (fun q => K q.1 q.2) E p1 u _ _ _ hl hP hD0.self va_S.rf h1
-- X10_standing
theorem inX10_standing_X10 : ∀ w ∈ u_ws RX10 TX10 23, w ∈ wsX10_standing := k_lays 26 rfl
theorem lkX10_standing_48 : Cond.fieldLink RX10 48 "FerryRampModel" "thrown" "I" ∈ wsX10_standing := List.mem_of_getElem? (i := 1) rfl
abbrev rmX10_standing : Room := { frames := 3, cells := 0, slots := 0, locals := 71 }
def fX10_standing_b0 (x1 : Int32) (x2 : Int32) (u : RS) : Option (Int32 × RS) :=
  bnd (fX10_isLane x1) (fun r6 => (if r6 = 0 then bnd2 (fX10_fail 1 (nTh u 0)) (fun r23 u23 => some (r23, u23)) else bnd (fX10_standingAt x1 x2 (mSt (nTh u 0))) (fun r15 => some (r15, nTh u 0))))
set_option maxHeartbeats 4000000 in
set_option maxRecDepth 100000 in
theorem tX10_standing_b0 {p : Program} {l : Launch} {e : Env} {s : State} {m : MethodId} {args : Array Value} {below : List Frame} {meth : Method} {c : Code} {D : va_G} {cy : Nat → ClassId} {A : Nat → Prop} {h : Nat} {a : Nat → Nat} (K : Int32 × RS → Prop) (E : mE D cy RX10 cX10_standing 3 (some .int) wsX10_standing A p s m args meth c)
     (x1 : Int32) (x2 : Int32) (u : RS) (H : Heap) (locs : List Loc) (ls : Array Slot) (hl : lv_has ls 3 [(0, .ref h), (1, .int x1), (2, .int x2)]) (hP : va_P D vwCl (wM cy h a u) H) (hD : va_D A (wM cy h a u)) (hS : va_S A s.heap H locs) (h1 : Ok (fX10_standing_b0 x1 x2 u) K) :
    kW p l e rmX10_standing s m args below meth c H locs (va_Qi (fun r q => K (r, q)) (fun q => kPost D A (wM cy h a q)) A) A 0 ls [] := by
  obtain ⟨hx, hb, hr, hml, hown, hts, hlocks, hK, hA⟩ := id E
  unfold fX10_standing_b0 at h1
  refine lv_aload_n hx hb dX10_standing_0 rfl (lv_at hl 0 rfl) ?_
  refine lv_iconst (v := 0) hx hb dX10_standing_1 rfl ?_
  refine k_put (v := .int 0) (ty := .int) (C := RX10) (T := TX10) (N := 23) hx hb hts inX10_standing_X10 tyX10 tyX10_ok nmX10 hown hK hP hD hS 0 (wM_a0 _ _ _ _) rfl 8 (by decide) lkX10_standing_48 rfl (by decide +kernel) rfl rfl (Nat.le_of_ble_eq_true rfl) (ws' := wM cy h a (nTh u 0)) (wM_nTh _ _ _ _ _) dX10_standing_2 (fun H locs hP hD hS => ?_)
  refine lv_iload_n hx hb dX10_standing_5 rfl (lv_at hl 1 rfl) ?_
  refine kc_rS (As := [.int x1]) (rest := []) (wc := []) (wr := _) h1 ⟨hx, hb, hml, hown, hts⟩ (cX10_isLaneM l D cy H.size x1) (va_cwS 1 hts gX10_standing_X10_isLane rfl rfl rfl heX10_isLane ⟨Nat.le_of_ble_eq_true rfl, Nat.le_of_ble_eq_true rfl⟩) hK (List.Perm.refl _) hP hD hS hA rfl hl.1 rfl (Nat.le_of_ble_eq_true rfl) dX10_standing_6 ⟨Nat.zero_le _, Nat.zero_le _⟩ (fun r6 H locs h1 hP hS => ?_)
  refine lv_if_eq (tgt := 21) hx hb dX10_standing_9 (by decide) (fun c9 => ?_) (fun c9 => ?_)
  · replace h1 := Ok.pos c9 h1
    refine lv_aload_n hx hb dX10_standing_21 rfl (lv_at hl 0 rfl) ?_
    refine lv_iconst (v := 1) hx hb dX10_standing_22 rfl ?_
    refine kc_iV0 (b := h) (As := [.int 1]) (rest := []) h1 ⟨hx, hb, hml, hown, hts⟩ (cX10_failM l D cy h a H.size (nTh u 0) 1) (cwV 1 hts gX10_standing_X10_fail rfl rfl rfl hdX10_fail ⟨Nat.le_of_ble_eq_true rfl, Nat.le_of_ble_eq_true rfl⟩) hK hP hD hS hA (q0 := 0) rfl rfl rfl hl.1 rfl (Nat.le_of_ble_eq_true rfl) dX10_standing_23 ⟨Nat.zero_le _, Nat.zero_le _⟩ (fun r23 u23 H locs h1 hP hD hS => ?_)
    exact kret_i hx hb hr hlocks hP hD hS h1 dX10_standing_26
  · replace h1 := Ok.neg c9 h1
    refine lv_aload_n hx hb dX10_standing_12 rfl (lv_at hl 0 rfl) ?_
    refine lv_iload_n hx hb dX10_standing_13 rfl (lv_at hl 1 rfl) ?_
    refine lv_iload_n hx hb dX10_standing_14 rfl (lv_at hl 2 rfl) ?_
    refine kc_rV (b := h) (As := [.int x1, .int x2]) (rest := []) h1 ⟨hx, hb, hml, hown, hts⟩ (cX10_standingAtM l D cy h (a 0) (mRest a (nTh u 0)) H.size (mSt (nTh u 0)) x1 x2) (cwV 2 hts gX10_standing_X10_standingAt rfl rfl rfl hdX10_standingAt ⟨Nat.le_of_ble_eq_true rfl, Nat.le_of_ble_eq_true rfl⟩) hK (wM_split _ _ _ _) hP hD hS hA (q0 := 0) rfl rfl rfl hl.1 rfl (Nat.le_of_ble_eq_true rfl) dX10_standing_15 ⟨Nat.zero_le _, Nat.zero_le _⟩ (fun r15 H locs h1 hP hS => ?_)
    refine lv_goto (tgt := 26) hx hb dX10_standing_18 (by decide) ?_
    exact kret_i hx hb hr hlocks hP hD hS h1 dX10_standing_26
def fX10_standing (p1 : Int32) (p2 : Int32) (u : RS) : Option (Int32 × RS) := fX10_standing_b0 p1 p2 u
set_option maxHeartbeats 4000000 in
set_option maxRecDepth 100000 in
theorem cX10_standingM (l : Launch) (D : va_G) (cy : Nat → ClassId) (h : Nat) (a : Nat → Nat) (sz : Nat) (u : RS) (p1 : Int32) (p2 : Int32) : ∀ (K : Int32 → RS → Prop), Ok (fX10_standing p1 p2 u) (fun q => K q.1 q.2) → Met l yX10_standing wsX10_standing rmX10_standing (va_Pc [.ref h, .int p1, .int p2] (kPre D cy sz (wM cy h a u))) (va_Qi K (fun q => kPost D (va_A (wM cy h a u) sz) (wM cy h a q)) (va_A (wM cy h a u) sz)) 0 0 (va_A (wM cy h a u) sz) := by
  intro K h1
  refine Met.ofW (cc := cX10_standing) (maxL := 3) (ret := (some .int)) (by decide) rfl ?_
  intro p e s m args below meth c s₁ B hml hv
  obtain ⟨rfl, hsz, hP, hK, hD0⟩ := hv
  subst hsz
  have E : mE D cy RX10 cX10_standing 3 (some .int) wsX10_standing (va_A (wM cy h a u) s.heap.size) p s m _ meth c := ⟨B.exec, B.bytes, B.returns, hml, findClass_of_methodNamed B.named, atoms_spec (ws := wsX10_standing) B.pre, B.notSynchronized, hK, fun q h => Or.inr h⟩
  have hl := lv_entry ([.ref h, .int p1, .int p2]) (n := 3) (Nat.le_of_ble_eq_true rfl)
  rw [lg_entry_eq]
  generalize (lg_sl ([.ref h, .int p1, .int p2]) ++ List.replicate (3 - (lg_sl ([.ref h, .int p1, .int p2])).length) Slot.unset).toArray = ls at hl ⊢
  exact tX10_standing_b0 (fun q => K q.1 q.2) E p1 p2 u _ _ _ hl hP hD0.self va_S.rf h1
-- X10_lane
theorem inX10_lane_X10 : ∀ w ∈ u_ws RX10 TX10 23, w ∈ wsX10_lane := k_lays 38 rfl
theorem lkX10_lane_48 : Cond.fieldLink RX10 48 "FerryRampModel" "thrown" "I" ∈ wsX10_lane := List.mem_of_getElem? (i := 1) rfl
abbrev rmX10_lane : Room := { frames := 3, cells := 0, slots := 0, locals := 68 }
def fX10_lane_b0 (x1 : Int32) (x2 : Int32) (u : RS) : Option (Int32 × RS) :=
  bnd (fX10_isLane x1) (fun r6 => (if r6 = 0 then bnd2 (fX10_fail 1 (nTh u 0)) (fun r14 u14 => some (r14, u14)) else (if x2 = 0 then bnd (fX10_weightOf x1 (mSt (nTh u 0))) (fun r32 => some (r32, nTh u 0)) else bnd (fX10_freeOf x1 (mSt (nTh u 0))) (fun r24 => some (r24, nTh u 0)))))
set_option maxHeartbeats 4000000 in
set_option maxRecDepth 100000 in
theorem tX10_lane_b0 {p : Program} {l : Launch} {e : Env} {s : State} {m : MethodId} {args : Array Value} {below : List Frame} {meth : Method} {c : Code} {D : va_G} {cy : Nat → ClassId} {A : Nat → Prop} {h : Nat} {a : Nat → Nat} (K : Int32 × RS → Prop) (E : mE D cy RX10 cX10_lane 3 (some .int) wsX10_lane A p s m args meth c)
     (x1 : Int32) (x2 : Int32) (u : RS) (H : Heap) (locs : List Loc) (ls : Array Slot) (hl : lv_has ls 3 [(0, .ref h), (1, .int x1), (2, .int x2)]) (hP : va_P D vwCl (wM cy h a u) H) (hD : va_D A (wM cy h a u)) (hS : va_S A s.heap H locs) (h1 : Ok (fX10_lane_b0 x1 x2 u) K) :
    kW p l e rmX10_lane s m args below meth c H locs (va_Qi (fun r q => K (r, q)) (fun q => kPost D A (wM cy h a q)) A) A 0 ls [] := by
  obtain ⟨hx, hb, hr, hml, hown, hts, hlocks, hK, hA⟩ := id E
  unfold fX10_lane_b0 at h1
  refine lv_aload_n hx hb dX10_lane_0 rfl (lv_at hl 0 rfl) ?_
  refine lv_iconst (v := 0) hx hb dX10_lane_1 rfl ?_
  refine k_put (v := .int 0) (ty := .int) (C := RX10) (T := TX10) (N := 23) hx hb hts inX10_lane_X10 tyX10 tyX10_ok nmX10 hown hK hP hD hS 0 (wM_a0 _ _ _ _) rfl 8 (by decide) lkX10_lane_48 rfl (by decide +kernel) rfl rfl (Nat.le_of_ble_eq_true rfl) (ws' := wM cy h a (nTh u 0)) (wM_nTh _ _ _ _ _) dX10_lane_2 (fun H locs hP hD hS => ?_)
  refine lv_iload_n hx hb dX10_lane_5 rfl (lv_at hl 1 rfl) ?_
  refine kc_rS (As := [.int x1]) (rest := []) (wc := []) (wr := _) h1 ⟨hx, hb, hml, hown, hts⟩ (cX10_isLaneM l D cy H.size x1) (va_cwS 1 hts gX10_lane_X10_isLane rfl rfl rfl heX10_isLane ⟨Nat.le_of_ble_eq_true rfl, Nat.le_of_ble_eq_true rfl⟩) hK (List.Perm.refl _) hP hD hS hA rfl hl.1 rfl (Nat.le_of_ble_eq_true rfl) dX10_lane_6 ⟨Nat.zero_le _, Nat.zero_le _⟩ (fun r6 H locs h1 hP hS => ?_)
  refine lv_if_ne (tgt := 18) hx hb dX10_lane_9 (by decide) (fun c9 => ?_) (fun c9 => ?_)
  · replace h1 := Ok.neg c9 h1
    refine lv_iload_n hx hb dX10_lane_18 rfl (lv_at hl 2 rfl) ?_
    refine lv_if_eq (tgt := 30) hx hb dX10_lane_19 (by decide) (fun c19 => ?_) (fun c19 => ?_)
    · replace h1 := Ok.pos c19 h1
      refine lv_aload_n hx hb dX10_lane_30 rfl (lv_at hl 0 rfl) ?_
      refine lv_iload_n hx hb dX10_lane_31 rfl (lv_at hl 1 rfl) ?_
      refine kc_rV (b := h) (As := [.int x1]) (rest := []) h1 ⟨hx, hb, hml, hown, hts⟩ (cX10_weightOfM l D cy h (a 0) (mRest a (nTh u 0)) H.size (mSt (nTh u 0)) x1) (cwV 1 hts gX10_lane_X10_weightOf rfl rfl rfl hdX10_weightOf ⟨Nat.le_of_ble_eq_true rfl, Nat.le_of_ble_eq_true rfl⟩) hK (wM_split _ _ _ _) hP hD hS hA (q0 := 0) rfl rfl rfl hl.1 rfl (Nat.le_of_ble_eq_true rfl) dX10_lane_32 ⟨Nat.zero_le _, Nat.zero_le _⟩ (fun r32 H locs h1 hP hS => ?_)
      exact kret_i hx hb hr hlocks hP hD hS h1 dX10_lane_35
    · replace h1 := Ok.neg c19 h1
      refine lv_aload_n hx hb dX10_lane_22 rfl (lv_at hl 0 rfl) ?_
      refine lv_iload_n hx hb dX10_lane_23 rfl (lv_at hl 1 rfl) ?_
      refine kc_rV (b := h) (As := [.int x1]) (rest := []) h1 ⟨hx, hb, hml, hown, hts⟩ (cX10_freeOfM l D cy h (a 0) (mRest a (nTh u 0)) H.size (mSt (nTh u 0)) x1) (cwV 1 hts gX10_lane_X10_freeOf rfl rfl rfl hdX10_freeOf ⟨Nat.le_of_ble_eq_true rfl, Nat.le_of_ble_eq_true rfl⟩) hK (wM_split _ _ _ _) hP hD hS hA (q0 := 0) rfl rfl rfl hl.1 rfl (Nat.le_of_ble_eq_true rfl) dX10_lane_24 ⟨Nat.zero_le _, Nat.zero_le _⟩ (fun r24 H locs h1 hP hS => ?_)
      refine lv_goto (tgt := 35) hx hb dX10_lane_27 (by decide) ?_
      exact kret_i hx hb hr hlocks hP hD hS h1 dX10_lane_35
  · replace h1 := Ok.pos c9 h1
    refine lv_aload_n hx hb dX10_lane_12 rfl (lv_at hl 0 rfl) ?_
    refine lv_iconst (v := 1) hx hb dX10_lane_13 rfl ?_
    refine kc_iV0 (b := h) (As := [.int 1]) (rest := []) h1 ⟨hx, hb, hml, hown, hts⟩ (cX10_failM l D cy h a H.size (nTh u 0) 1) (cwV 1 hts gX10_lane_X10_fail rfl rfl rfl hdX10_fail ⟨Nat.le_of_ble_eq_true rfl, Nat.le_of_ble_eq_true rfl⟩) hK hP hD hS hA (q0 := 0) rfl rfl rfl hl.1 rfl (Nat.le_of_ble_eq_true rfl) dX10_lane_14 ⟨Nat.zero_le _, Nat.zero_le _⟩ (fun r14 u14 H locs h1 hP hD hS => ?_)
    exact kret_i hx hb hr hlocks hP hD hS h1 dX10_lane_17
def fX10_lane (p1 : Int32) (p2 : Int32) (u : RS) : Option (Int32 × RS) := fX10_lane_b0 p1 p2 u
set_option maxHeartbeats 4000000 in
set_option maxRecDepth 100000 in
theorem cX10_laneM (l : Launch) (D : va_G) (cy : Nat → ClassId) (h : Nat) (a : Nat → Nat) (sz : Nat) (u : RS) (p1 : Int32) (p2 : Int32) : ∀ (K : Int32 → RS → Prop), Ok (fX10_lane p1 p2 u) (fun q => K q.1 q.2) → Met l yX10_lane wsX10_lane rmX10_lane (va_Pc [.ref h, .int p1, .int p2] (kPre D cy sz (wM cy h a u))) (va_Qi K (fun q => kPost D (va_A (wM cy h a u) sz) (wM cy h a q)) (va_A (wM cy h a u) sz)) 0 0 (va_A (wM cy h a u) sz) := by
  intro K h1
  refine Met.ofW (cc := cX10_lane) (maxL := 3) (ret := (some .int)) (by decide) rfl ?_
  intro p e s m args below meth c s₁ B hml hv
  obtain ⟨rfl, hsz, hP, hK, hD0⟩ := hv
  subst hsz
  have E : mE D cy RX10 cX10_lane 3 (some .int) wsX10_lane (va_A (wM cy h a u) s.heap.size) p s m _ meth c := ⟨B.exec, B.bytes, B.returns, hml, findClass_of_methodNamed B.named, atoms_spec (ws := wsX10_lane) B.pre, B.notSynchronized, hK, fun q h => Or.inr h⟩
  have hl := lv_entry ([.ref h, .int p1, .int p2]) (n := 3) (Nat.le_of_ble_eq_true rfl)
  rw [lg_entry_eq]
  generalize (lg_sl ([.ref h, .int p1, .int p2]) ++ List.replicate (3 - (lg_sl ([.ref h, .int p1, .int p2])).length) Slot.unset).toArray = ls at hl ⊢
  exact tX10_lane_b0 (fun q => K q.1 q.2) E p1 p2 u _ _ _ hl hP hD0.self va_S.rf h1
-- X10_call
theorem inX10_call_X10 : ∀ w ∈ u_ws RX10 TX10 23, w ∈ wsX10_call := k_lays 15 rfl
theorem lkX10_call_48 : Cond.fieldLink RX10 48 "FerryRampModel" "thrown" "I" ∈ wsX10_call := List.mem_of_getElem? (i := 1) rfl
theorem lkX10_call_7 : Cond.fieldLink RX10 7 "FerryRampModel" "state" "[I" ∈ wsX10_call := List.mem_of_getElem? (i := 2) rfl
abbrev rmX10_call : Room := { frames := 1, cells := 0, slots := 0, locals := 40 }
def fX10_call_b0 (x1 : Int32) (x2 : Int32) (u : RS) : Option (Int32 × RS) :=
  bnd (fX10_isBetween x1 0 ((if (mSt (nTh u 0) 8) < 20 then (mSt (nTh u 0) 8) else 20) - 1)) (fun r21 => (if r21 = 0 then bnd2 (fX10_fail 1 (nTh u 0)) (fun r29 u29 => some (r29, u29)) else bnd (fX10_isBetween x2 0 3) (fun r36 => (if r36 = 0 then bnd2 (fX10_fail 2 (nTh u 0)) (fun r44 u44 => some (r44, u44)) else grd (inb ((481 + (4 * ((((mSt (nTh u 0) 8) - 1) - x1) - (((mSt (nTh u 0) 8) - 1) - x1) / 20 * 20))) + x2) 561) (some (mSt (nTh u 0) (ix ((481 + (4 * ((((mSt (nTh u 0) 8) - 1) - x1) - (((mSt (nTh u 0) 8) - 1) - x1) / 20 * 20))) + x2)), nTh u 0))))))
set_option maxHeartbeats 4000000 in
set_option maxRecDepth 100000 in
theorem tX10_call_b0 {p : Program} {l : Launch} {e : Env} {s : State} {m : MethodId} {args : Array Value} {below : List Frame} {meth : Method} {c : Code} {D : va_G} {cy : Nat → ClassId} {A : Nat → Prop} {h : Nat} {a : Nat → Nat} (K : Int32 × RS → Prop) (E : mE D cy RX10 cX10_call 3 (some .int) wsX10_call A p s m args meth c)
     (x1 : Int32) (x2 : Int32) (u : RS) (H : Heap) (locs : List Loc) (ls : Array Slot) (hl : lv_has ls 3 [(0, .ref h), (1, .int x1), (2, .int x2)]) (hP : va_P D vwCl (wM cy h a u) H) (hD : va_D A (wM cy h a u)) (hS : va_S A s.heap H locs) (h1 : Ok (fX10_call_b0 x1 x2 u) K) :
    kW p l e rmX10_call s m args below meth c H locs (va_Qi (fun r q => K (r, q)) (fun q => kPost D A (wM cy h a q)) A) A 0 ls [] := by
  obtain ⟨hx, hb, hr, hml, hown, hts, hlocks, hK, hA⟩ := id E
  unfold fX10_call_b0 at h1
  refine lv_aload_n hx hb dX10_call_0 rfl (lv_at hl 0 rfl) ?_
  refine lv_iconst (v := 0) hx hb dX10_call_1 rfl ?_
  refine k_put (v := .int 0) (ty := .int) (C := RX10) (T := TX10) (N := 23) hx hb hts inX10_call_X10 tyX10 tyX10_ok nmX10 hown hK hP hD hS 0 (wM_a0 _ _ _ _) rfl 8 (by decide) lkX10_call_48 rfl (by decide +kernel) rfl rfl (Nat.le_of_ble_eq_true rfl) (ws' := wM cy h a (nTh u 0)) (wM_nTh _ _ _ _ _) dX10_call_2 (fun H locs hP hD hS => ?_)
  refine lv_iload_n hx hb dX10_call_5 rfl (lv_at hl 1 rfl) ?_
  refine lv_iconst (v := 0) hx hb dX10_call_6 rfl ?_
  refine lv_bipush (v := 20) hx hb dX10_call_7 rfl ?_
  refine lv_aload_n hx hb dX10_call_9 rfl (lv_at hl 0 rfl) ?_
  refine k_get (v := .ref (a 0)) (C := RX10) (T := TX10) (N := 23) hx hb hts inX10_call_X10 hown hK hP 0 (wM_a0 _ _ _ _) rfl 0 (by decide) lkX10_call_7 (mFs_0 _ _) dX10_call_10 ?_
  refine lv_bipush (v := 8) hx hb dX10_call_13 rfl ?_
  refine k_iald (k := 8) hx hb hK hP 1 (wM_a1 _ _ _ _) rfl rfl dX10_call_15 ?_
  refine va_mmin hx hb (hml.trans hl.1.symm) hown (hts _ (List.mem_of_getElem? (i := 3) rfl)) (hts _ (List.mem_of_getElem? (i := 4) rfl)) (hts _ (List.mem_of_getElem? (i := 5) rfl)) (hts _ (List.mem_of_getElem? (i := 6) rfl)) (Nat.le_of_ble_eq_true rfl) (Nat.le_of_ble_eq_true rfl) (Nat.zero_le _) (Nat.zero_le _) dX10_call_16 ?_
  refine lv_iconst (v := 1) hx hb dX10_call_19 rfl ?_
  refine lv_isub hx hb dX10_call_20 ?_
  refine kc_rS (As := [.int x1, .int 0, .int ((if (mSt (nTh u 0) 8) < 20 then (mSt (nTh u 0) 8) else 20) - 1)]) (rest := []) (wc := []) (wr := _) h1 ⟨hx, hb, hml, hown, hts⟩ (cX10_isBetweenM l D cy H.size x1 0 ((if (mSt (nTh u 0) 8) < 20 then (mSt (nTh u 0) 8) else 20) - 1)) (va_cwS 3 hts gX10_call_X10_isBetween rfl rfl rfl heX10_isBetween ⟨Nat.le_of_ble_eq_true rfl, Nat.le_of_ble_eq_true rfl⟩) hK (List.Perm.refl _) hP hD hS hA rfl hl.1 rfl (Nat.le_of_ble_eq_true rfl) dX10_call_21 ⟨Nat.zero_le _, Nat.zero_le _⟩ (fun r21 H locs h1 hP hS => ?_)
  refine lv_if_ne (tgt := 33) hx hb dX10_call_24 (by decide) (fun c24 => ?_) (fun c24 => ?_)
  · replace h1 := Ok.neg c24 h1
    refine lv_iload_n hx hb dX10_call_33 rfl (lv_at hl 2 rfl) ?_
    refine lv_iconst (v := 0) hx hb dX10_call_34 rfl ?_
    refine lv_iconst (v := 3) hx hb dX10_call_35 rfl ?_
    refine kc_rS (As := [.int x2, .int 0, .int 3]) (rest := []) (wc := []) (wr := _) h1 ⟨hx, hb, hml, hown, hts⟩ (cX10_isBetweenM l D cy H.size x2 0 3) (va_cwS 3 hts gX10_call_X10_isBetween rfl rfl rfl heX10_isBetween ⟨Nat.le_of_ble_eq_true rfl, Nat.le_of_ble_eq_true rfl⟩) hK (List.Perm.refl _) hP hD hS hA rfl hl.1 rfl (Nat.le_of_ble_eq_true rfl) dX10_call_36 ⟨Nat.zero_le _, Nat.zero_le _⟩ (fun r36 H locs h1 hP hS => ?_)
    refine lv_if_ne (tgt := 48) hx hb dX10_call_39 (by decide) (fun c39 => ?_) (fun c39 => ?_)
    · replace h1 := Ok.neg c39 h1
      refine lv_aload_n hx hb dX10_call_48 rfl (lv_at hl 0 rfl) ?_
      refine k_get (v := .ref (a 0)) (C := RX10) (T := TX10) (N := 23) hx hb hts inX10_call_X10 hown hK hP 0 (wM_a0 _ _ _ _) rfl 0 (by decide) lkX10_call_7 (mFs_0 _ _) dX10_call_49 ?_
      refine lv_sipush (v := 481) hx hb dX10_call_52 rfl ?_
      refine lv_iconst (v := 4) hx hb dX10_call_55 rfl ?_
      refine lv_aload_n hx hb dX10_call_56 rfl (lv_at hl 0 rfl) ?_
      refine k_get (v := .ref (a 0)) (C := RX10) (T := TX10) (N := 23) hx hb hts inX10_call_X10 hown hK hP 0 (wM_a0 _ _ _ _) rfl 0 (by decide) lkX10_call_7 (mFs_0 _ _) dX10_call_57 ?_
      refine lv_bipush (v := 8) hx hb dX10_call_60 rfl ?_
      refine k_iald (k := 8) hx hb hK hP 1 (wM_a1 _ _ _ _) rfl rfl dX10_call_62 ?_
      refine lv_iconst (v := 1) hx hb dX10_call_63 rfl ?_
      refine lv_isub hx hb dX10_call_64 ?_
      refine lv_iload_n hx hb dX10_call_65 rfl (lv_at hl 1 rfl) ?_
      refine lv_isub hx hb dX10_call_66 ?_
      refine lv_bipush (v := 20) hx hb dX10_call_67 rfl ?_
      refine lv_irem hx hb dX10_call_69 (by decide) ?_
      refine lv_imul hx hb dX10_call_70 ?_
      refine lv_iadd hx hb dX10_call_71 ?_
      refine lv_iload_n hx hb dX10_call_72 rfl (lv_at hl 2 rfl) ?_
      refine lv_iadd hx hb dX10_call_73 ?_
      have g74 := h1.grd1
      replace h1 := h1.grd2
      refine k_iald (k := (ix ((481 + (4 * ((((mSt (nTh u 0) 8) - 1) - x1) - (((mSt (nTh u 0) 8) - 1) - x1) / 20 * 20))) + x2))) hx hb hK hP 1 (wM_a1 _ _ _ _) g74 rfl dX10_call_74 ?_
      exact kret_i hx hb hr hlocks hP hD hS h1 dX10_call_75
    · replace h1 := Ok.pos c39 h1
      refine lv_aload_n hx hb dX10_call_42 rfl (lv_at hl 0 rfl) ?_
      refine lv_iconst (v := 2) hx hb dX10_call_43 rfl ?_
      refine kc_iV0 (b := h) (As := [.int 2]) (rest := []) h1 ⟨hx, hb, hml, hown, hts⟩ (cX10_failM l D cy h a H.size (nTh u 0) 2) (cwV 1 hts gX10_call_X10_fail rfl rfl rfl hdX10_fail ⟨Nat.le_of_ble_eq_true rfl, Nat.le_of_ble_eq_true rfl⟩) hK hP hD hS hA (q0 := 0) rfl rfl rfl hl.1 rfl (Nat.le_of_ble_eq_true rfl) dX10_call_44 ⟨Nat.zero_le _, Nat.zero_le _⟩ (fun r44 u44 H locs h1 hP hD hS => ?_)
      exact kret_i hx hb hr hlocks hP hD hS h1 dX10_call_47
  · replace h1 := Ok.pos c24 h1
    refine lv_aload_n hx hb dX10_call_27 rfl (lv_at hl 0 rfl) ?_
    refine lv_iconst (v := 1) hx hb dX10_call_28 rfl ?_
    refine kc_iV0 (b := h) (As := [.int 1]) (rest := []) h1 ⟨hx, hb, hml, hown, hts⟩ (cX10_failM l D cy h a H.size (nTh u 0) 1) (cwV 1 hts gX10_call_X10_fail rfl rfl rfl hdX10_fail ⟨Nat.le_of_ble_eq_true rfl, Nat.le_of_ble_eq_true rfl⟩) hK hP hD hS hA (q0 := 0) rfl rfl rfl hl.1 rfl (Nat.le_of_ble_eq_true rfl) dX10_call_29 ⟨Nat.zero_le _, Nat.zero_le _⟩ (fun r29 u29 H locs h1 hP hD hS => ?_)
    exact kret_i hx hb hr hlocks hP hD hS h1 dX10_call_32
def fX10_call (p1 : Int32) (p2 : Int32) (u : RS) : Option (Int32 × RS) := fX10_call_b0 p1 p2 u
set_option maxHeartbeats 4000000 in
set_option maxRecDepth 100000 in
theorem cX10_callM (l : Launch) (D : va_G) (cy : Nat → ClassId) (h : Nat) (a : Nat → Nat) (sz : Nat) (u : RS) (p1 : Int32) (p2 : Int32) : ∀ (K : Int32 → RS → Prop), Ok (fX10_call p1 p2 u) (fun q => K q.1 q.2) → Met l yX10_call wsX10_call rmX10_call (va_Pc [.ref h, .int p1, .int p2] (kPre D cy sz (wM cy h a u))) (va_Qi K (fun q => kPost D (va_A (wM cy h a u) sz) (wM cy h a q)) (va_A (wM cy h a u) sz)) 0 0 (va_A (wM cy h a u) sz) := by
  intro K h1
  refine Met.ofW (cc := cX10_call) (maxL := 3) (ret := (some .int)) (by decide) rfl ?_
  intro p e s m args below meth c s₁ B hml hv
  obtain ⟨rfl, hsz, hP, hK, hD0⟩ := hv
  subst hsz
  have E : mE D cy RX10 cX10_call 3 (some .int) wsX10_call (va_A (wM cy h a u) s.heap.size) p s m _ meth c := ⟨B.exec, B.bytes, B.returns, hml, findClass_of_methodNamed B.named, atoms_spec (ws := wsX10_call) B.pre, B.notSynchronized, hK, fun q h => Or.inr h⟩
  have hl := lv_entry ([.ref h, .int p1, .int p2]) (n := 3) (Nat.le_of_ble_eq_true rfl)
  rw [lg_entry_eq]
  generalize (lg_sl ([.ref h, .int p1, .int p2]) ++ List.replicate (3 - (lg_sl ([.ref h, .int p1, .int p2])).length) Slot.unset).toArray = ls at hl ⊢
  exact tX10_call_b0 (fun q => K q.1 q.2) E p1 p2 u _ _ _ hl hP hD0.self va_S.rf h1
-- X10_account
theorem inX10_account_X10 : ∀ w ∈ u_ws RX10 TX10 23, w ∈ wsX10_account := k_lays 11 rfl
theorem lkX10_account_48 : Cond.fieldLink RX10 48 "FerryRampModel" "thrown" "I" ∈ wsX10_account := List.mem_of_getElem? (i := 1) rfl
theorem lkX10_account_29 : Cond.fieldLink RX10 29 "FerryRampModel" "accounts" "[I" ∈ wsX10_account := List.mem_of_getElem? (i := 2) rfl
abbrev rmX10_account : Room := { frames := 1, cells := 0, slots := 0, locals := 22 }
def fX10_account_b0 (x1 : Int32) (u : RS) : Option (Int32 × RS) :=
  bnd (fX10_isBetween x1 0 4) (fun r8 => (if r8 = 0 then bnd2 (fX10_fail 1 (nTh u 0)) (fun r25 u25 => some (r25, u25)) else grd (inb x1 5) (some (mAo (nTh u 0) (ix x1), nTh u 0))))
set_option maxHeartbeats 4000000 in
set_option maxRecDepth 100000 in
theorem tX10_account_b0 {p : Program} {l : Launch} {e : Env} {s : State} {m : MethodId} {args : Array Value} {below : List Frame} {meth : Method} {c : Code} {D : va_G} {cy : Nat → ClassId} {A : Nat → Prop} {h : Nat} {a : Nat → Nat} (K : Int32 × RS → Prop) (E : mE D cy RX10 cX10_account 2 (some .int) wsX10_account A p s m args meth c)
     (x1 : Int32) (u : RS) (H : Heap) (locs : List Loc) (ls : Array Slot) (hl : lv_has ls 2 [(0, .ref h), (1, .int x1)]) (hP : va_P D vwCl (wM cy h a u) H) (hD : va_D A (wM cy h a u)) (hS : va_S A s.heap H locs) (h1 : Ok (fX10_account_b0 x1 u) K) :
    kW p l e rmX10_account s m args below meth c H locs (va_Qi (fun r q => K (r, q)) (fun q => kPost D A (wM cy h a q)) A) A 0 ls [] := by
  obtain ⟨hx, hb, hr, hml, hown, hts, hlocks, hK, hA⟩ := id E
  unfold fX10_account_b0 at h1
  refine lv_aload_n hx hb dX10_account_0 rfl (lv_at hl 0 rfl) ?_
  refine lv_iconst (v := 0) hx hb dX10_account_1 rfl ?_
  refine k_put (v := .int 0) (ty := .int) (C := RX10) (T := TX10) (N := 23) hx hb hts inX10_account_X10 tyX10 tyX10_ok nmX10 hown hK hP hD hS 0 (wM_a0 _ _ _ _) rfl 8 (by decide) lkX10_account_48 rfl (by decide +kernel) rfl rfl (Nat.le_of_ble_eq_true rfl) (ws' := wM cy h a (nTh u 0)) (wM_nTh _ _ _ _ _) dX10_account_2 (fun H locs hP hD hS => ?_)
  refine lv_iload_n hx hb dX10_account_5 rfl (lv_at hl 1 rfl) ?_
  refine lv_iconst (v := 0) hx hb dX10_account_6 rfl ?_
  refine lv_iconst (v := 4) hx hb dX10_account_7 rfl ?_
  refine kc_rS (As := [.int x1, .int 0, .int 4]) (rest := []) (wc := []) (wr := _) h1 ⟨hx, hb, hml, hown, hts⟩ (cX10_isBetweenM l D cy H.size x1 0 4) (va_cwS 3 hts gX10_account_X10_isBetween rfl rfl rfl heX10_isBetween ⟨Nat.le_of_ble_eq_true rfl, Nat.le_of_ble_eq_true rfl⟩) hK (List.Perm.refl _) hP hD hS hA rfl hl.1 rfl (Nat.le_of_ble_eq_true rfl) dX10_account_8 ⟨Nat.zero_le _, Nat.zero_le _⟩ (fun r8 H locs h1 hP hS => ?_)
  refine lv_if_eq (tgt := 23) hx hb dX10_account_11 (by decide) (fun c11 => ?_) (fun c11 => ?_)
  · replace h1 := Ok.pos c11 h1
    refine lv_aload_n hx hb dX10_account_23 rfl (lv_at hl 0 rfl) ?_
    refine lv_iconst (v := 1) hx hb dX10_account_24 rfl ?_
    refine kc_iV0 (b := h) (As := [.int 1]) (rest := []) h1 ⟨hx, hb, hml, hown, hts⟩ (cX10_failM l D cy h a H.size (nTh u 0) 1) (cwV 1 hts gX10_account_X10_fail rfl rfl rfl hdX10_fail ⟨Nat.le_of_ble_eq_true rfl, Nat.le_of_ble_eq_true rfl⟩) hK hP hD hS hA (q0 := 0) rfl rfl rfl hl.1 rfl (Nat.le_of_ble_eq_true rfl) dX10_account_25 ⟨Nat.zero_le _, Nat.zero_le _⟩ (fun r25 u25 H locs h1 hP hD hS => ?_)
    exact kret_i hx hb hr hlocks hP hD hS h1 dX10_account_28
  · replace h1 := Ok.neg c11 h1
    refine lv_aload_n hx hb dX10_account_14 rfl (lv_at hl 0 rfl) ?_
    refine k_get (v := .ref (a 6)) (C := RX10) (T := TX10) (N := 23) hx hb hts inX10_account_X10 hown hK hP 0 (wM_a0 _ _ _ _) rfl 6 (by decide) lkX10_account_29 (mFs_6 _ _) dX10_account_15 ?_
    refine lv_iload_n hx hb dX10_account_18 rfl (lv_at hl 1 rfl) ?_
    have g19 := h1.grd1
    replace h1 := h1.grd2
    refine k_iald (k := (ix x1)) hx hb hK hP 7 (wM_a7 _ _ _ _) g19 rfl dX10_account_19 ?_
    refine lv_goto (tgt := 28) hx hb dX10_account_20 (by decide) ?_
    exact kret_i hx hb hr hlocks hP hD hS h1 dX10_account_28
def fX10_account (p1 : Int32) (u : RS) : Option (Int32 × RS) := fX10_account_b0 p1 u
set_option maxHeartbeats 4000000 in
set_option maxRecDepth 100000 in
theorem cX10_accountM (l : Launch) (D : va_G) (cy : Nat → ClassId) (h : Nat) (a : Nat → Nat) (sz : Nat) (u : RS) (p1 : Int32) : ∀ (K : Int32 → RS → Prop), Ok (fX10_account p1 u) (fun q => K q.1 q.2) → Met l yX10_account wsX10_account rmX10_account (va_Pc [.ref h, .int p1] (kPre D cy sz (wM cy h a u))) (va_Qi K (fun q => kPost D (va_A (wM cy h a u) sz) (wM cy h a q)) (va_A (wM cy h a u) sz)) 0 0 (va_A (wM cy h a u) sz) := by
  intro K h1
  refine Met.ofW (cc := cX10_account) (maxL := 2) (ret := (some .int)) (by decide) rfl ?_
  intro p e s m args below meth c s₁ B hml hv
  obtain ⟨rfl, hsz, hP, hK, hD0⟩ := hv
  subst hsz
  have E : mE D cy RX10 cX10_account 2 (some .int) wsX10_account (va_A (wM cy h a u) s.heap.size) p s m _ meth c := ⟨B.exec, B.bytes, B.returns, hml, findClass_of_methodNamed B.named, atoms_spec (ws := wsX10_account) B.pre, B.notSynchronized, hK, fun q h => Or.inr h⟩
  have hl := lv_entry ([.ref h, .int p1]) (n := 2) (Nat.le_of_ble_eq_true rfl)
  rw [lg_entry_eq]
  generalize (lg_sl ([.ref h, .int p1]) ++ List.replicate (2 - (lg_sl ([.ref h, .int p1])).length) Slot.unset).toArray = ls at hl ⊢
  exact tX10_account_b0 (fun q => K q.1 q.2) E p1 u _ _ _ hl hP hD0.self va_S.rf h1
-- X10_tide
theorem inX10_tide_X10 : ∀ w ∈ u_ws RX10 TX10 23, w ∈ wsX10_tide := k_lays 12 rfl
theorem lkX10_tide_48 : Cond.fieldLink RX10 48 "FerryRampModel" "thrown" "I" ∈ wsX10_tide := List.mem_of_getElem? (i := 1) rfl
abbrev rmX10_tide : Room := { frames := 1, cells := 0, slots := 0, locals := 24 }
def fX10_tide_b0 (x1 : Int32) (u : RS) : Option (Int32 × RS) :=
  (if x1 < 0 then bnd2 (fX10_fail 1 (nTh u 0)) (fun r19 u19 => some (r19, u19)) else bnd (fX10_tideAt x1 (mSt (nTh u 0))) (fun r11 => some (r11, nTh u 0)))
set_option maxHeartbeats 4000000 in
set_option maxRecDepth 100000 in
theorem tX10_tide_b0 {p : Program} {l : Launch} {e : Env} {s : State} {m : MethodId} {args : Array Value} {below : List Frame} {meth : Method} {c : Code} {D : va_G} {cy : Nat → ClassId} {A : Nat → Prop} {h : Nat} {a : Nat → Nat} (K : Int32 × RS → Prop) (E : mE D cy RX10 cX10_tide 2 (some .int) wsX10_tide A p s m args meth c)
     (x1 : Int32) (u : RS) (H : Heap) (locs : List Loc) (ls : Array Slot) (hl : lv_has ls 2 [(0, .ref h), (1, .int x1)]) (hP : va_P D vwCl (wM cy h a u) H) (hD : va_D A (wM cy h a u)) (hS : va_S A s.heap H locs) (h1 : Ok (fX10_tide_b0 x1 u) K) :
    kW p l e rmX10_tide s m args below meth c H locs (va_Qi (fun r q => K (r, q)) (fun q => kPost D A (wM cy h a q)) A) A 0 ls [] := by
  obtain ⟨hx, hb, hr, hml, hown, hts, hlocks, hK, hA⟩ := id E
  unfold fX10_tide_b0 at h1
  refine lv_aload_n hx hb dX10_tide_0 rfl (lv_at hl 0 rfl) ?_
  refine lv_iconst (v := 0) hx hb dX10_tide_1 rfl ?_
  refine k_put (v := .int 0) (ty := .int) (C := RX10) (T := TX10) (N := 23) hx hb hts inX10_tide_X10 tyX10 tyX10_ok nmX10 hown hK hP hD hS 0 (wM_a0 _ _ _ _) rfl 8 (by decide) lkX10_tide_48 rfl (by decide +kernel) rfl rfl (Nat.le_of_ble_eq_true rfl) (ws' := wM cy h a (nTh u 0)) (wM_nTh _ _ _ _ _) dX10_tide_2 (fun H locs hP hD hS => ?_)
  refine lv_iload_n hx hb dX10_tide_5 rfl (lv_at hl 1 rfl) ?_
  refine lv_if_lt (tgt := 17) hx hb dX10_tide_6 (by decide) (fun c6 => ?_) (fun c6 => ?_)
  · replace h1 := Ok.pos c6 h1
    refine lv_aload_n hx hb dX10_tide_17 rfl (lv_at hl 0 rfl) ?_
    refine lv_iconst (v := 1) hx hb dX10_tide_18 rfl ?_
    refine kc_iV0 (b := h) (As := [.int 1]) (rest := []) h1 ⟨hx, hb, hml, hown, hts⟩ (cX10_failM l D cy h a H.size (nTh u 0) 1) (cwV 1 hts gX10_tide_X10_fail rfl rfl rfl hdX10_fail ⟨Nat.le_of_ble_eq_true rfl, Nat.le_of_ble_eq_true rfl⟩) hK hP hD hS hA (q0 := 0) rfl rfl rfl hl.1 rfl (Nat.le_of_ble_eq_true rfl) dX10_tide_19 ⟨Nat.zero_le _, Nat.zero_le _⟩ (fun r19 u19 H locs h1 hP hD hS => ?_)
    exact kret_i hx hb hr hlocks hP hD hS h1 dX10_tide_22
  · replace h1 := Ok.neg c6 h1
    refine lv_aload_n hx hb dX10_tide_9 rfl (lv_at hl 0 rfl) ?_
    refine lv_iload_n hx hb dX10_tide_10 rfl (lv_at hl 1 rfl) ?_
    refine kc_rV (b := h) (As := [.int x1]) (rest := []) h1 ⟨hx, hb, hml, hown, hts⟩ (cX10_tideAtM l D cy h (a 0) (mRest a (nTh u 0)) H.size (mSt (nTh u 0)) x1) (cwV 1 hts gX10_tide_X10_tideAt rfl rfl rfl hdX10_tideAt ⟨Nat.le_of_ble_eq_true rfl, Nat.le_of_ble_eq_true rfl⟩) hK (wM_split _ _ _ _) hP hD hS hA (q0 := 0) rfl rfl rfl hl.1 rfl (Nat.le_of_ble_eq_true rfl) dX10_tide_11 ⟨Nat.zero_le _, Nat.zero_le _⟩ (fun r11 H locs h1 hP hS => ?_)
    refine lv_goto (tgt := 22) hx hb dX10_tide_14 (by decide) ?_
    exact kret_i hx hb hr hlocks hP hD hS h1 dX10_tide_22
def fX10_tide (p1 : Int32) (u : RS) : Option (Int32 × RS) := fX10_tide_b0 p1 u
set_option maxHeartbeats 4000000 in
set_option maxRecDepth 100000 in
theorem cX10_tideM (l : Launch) (D : va_G) (cy : Nat → ClassId) (h : Nat) (a : Nat → Nat) (sz : Nat) (u : RS) (p1 : Int32) : ∀ (K : Int32 → RS → Prop), Ok (fX10_tide p1 u) (fun q => K q.1 q.2) → Met l yX10_tide wsX10_tide rmX10_tide (va_Pc [.ref h, .int p1] (kPre D cy sz (wM cy h a u))) (va_Qi K (fun q => kPost D (va_A (wM cy h a u) sz) (wM cy h a q)) (va_A (wM cy h a u) sz)) 0 0 (va_A (wM cy h a u) sz) := by
  intro K h1
  refine Met.ofW (cc := cX10_tide) (maxL := 2) (ret := (some .int)) (by decide) rfl ?_
  intro p e s m args below meth c s₁ B hml hv
  obtain ⟨rfl, hsz, hP, hK, hD0⟩ := hv
  subst hsz
  have E : mE D cy RX10 cX10_tide 2 (some .int) wsX10_tide (va_A (wM cy h a u) s.heap.size) p s m _ meth c := ⟨B.exec, B.bytes, B.returns, hml, findClass_of_methodNamed B.named, atoms_spec (ws := wsX10_tide) B.pre, B.notSynchronized, hK, fun q h => Or.inr h⟩
  have hl := lv_entry ([.ref h, .int p1]) (n := 2) (Nat.le_of_ble_eq_true rfl)
  rw [lg_entry_eq]
  generalize (lg_sl ([.ref h, .int p1]) ++ List.replicate (2 - (lg_sl ([.ref h, .int p1])).length) Slot.unset).toArray = ls at hl ⊢
  exact tX10_tide_b0 (fun q => K q.1 q.2) E p1 u _ _ _ hl hP hD0.self va_S.rf h1
-- X10_deck
theorem inX10_deck_X10 : ∀ w ∈ u_ws RX10 TX10 23, w ∈ wsX10_deck := k_lays 24 rfl
theorem lkX10_deck_48 : Cond.fieldLink RX10 48 "FerryRampModel" "thrown" "I" ∈ wsX10_deck := List.mem_of_getElem? (i := 1) rfl
abbrev rmX10_deck : Room := { frames := 3, cells := 0, slots := 0, locals := 65 }
def fX10_deck_b0 (x1 : Int32) (u : RS) : Option (Int32 × RS) :=
  (if x1 < 0 then bnd2 (fX10_fail 1 (nTh u 0)) (fun r19 u19 => some (r19, u19)) else bnd (fX10_deckAt x1 (mSt (nTh u 0))) (fun r11 => some (r11, nTh u 0)))
set_option maxHeartbeats 4000000 in
set_option maxRecDepth 100000 in
theorem tX10_deck_b0 {p : Program} {l : Launch} {e : Env} {s : State} {m : MethodId} {args : Array Value} {below : List Frame} {meth : Method} {c : Code} {D : va_G} {cy : Nat → ClassId} {A : Nat → Prop} {h : Nat} {a : Nat → Nat} (K : Int32 × RS → Prop) (E : mE D cy RX10 cX10_deck 2 (some .int) wsX10_deck A p s m args meth c)
     (x1 : Int32) (u : RS) (H : Heap) (locs : List Loc) (ls : Array Slot) (hl : lv_has ls 2 [(0, .ref h), (1, .int x1)]) (hP : va_P D vwCl (wM cy h a u) H) (hD : va_D A (wM cy h a u)) (hS : va_S A s.heap H locs) (h1 : Ok (fX10_deck_b0 x1 u) K) :
    kW p l e rmX10_deck s m args below meth c H locs (va_Qi (fun r q => K (r, q)) (fun q => kPost D A (wM cy h a q)) A) A 0 ls [] := by
  obtain ⟨hx, hb, hr, hml, hown, hts, hlocks, hK, hA⟩ := id E
  unfold fX10_deck_b0 at h1
  refine lv_aload_n hx hb dX10_deck_0 rfl (lv_at hl 0 rfl) ?_
  refine lv_iconst (v := 0) hx hb dX10_deck_1 rfl ?_
  refine k_put (v := .int 0) (ty := .int) (C := RX10) (T := TX10) (N := 23) hx hb hts inX10_deck_X10 tyX10 tyX10_ok nmX10 hown hK hP hD hS 0 (wM_a0 _ _ _ _) rfl 8 (by decide) lkX10_deck_48 rfl (by decide +kernel) rfl rfl (Nat.le_of_ble_eq_true rfl) (ws' := wM cy h a (nTh u 0)) (wM_nTh _ _ _ _ _) dX10_deck_2 (fun H locs hP hD hS => ?_)
  refine lv_iload_n hx hb dX10_deck_5 rfl (lv_at hl 1 rfl) ?_
  refine lv_if_lt (tgt := 17) hx hb dX10_deck_6 (by decide) (fun c6 => ?_) (fun c6 => ?_)
  · replace h1 := Ok.pos c6 h1
    refine lv_aload_n hx hb dX10_deck_17 rfl (lv_at hl 0 rfl) ?_
    refine lv_iconst (v := 1) hx hb dX10_deck_18 rfl ?_
    refine kc_iV0 (b := h) (As := [.int 1]) (rest := []) h1 ⟨hx, hb, hml, hown, hts⟩ (cX10_failM l D cy h a H.size (nTh u 0) 1) (cwV 1 hts gX10_deck_X10_fail rfl rfl rfl hdX10_fail ⟨Nat.le_of_ble_eq_true rfl, Nat.le_of_ble_eq_true rfl⟩) hK hP hD hS hA (q0 := 0) rfl rfl rfl hl.1 rfl (Nat.le_of_ble_eq_true rfl) dX10_deck_19 ⟨Nat.zero_le _, Nat.zero_le _⟩ (fun r19 u19 H locs h1 hP hD hS => ?_)
    exact kret_i hx hb hr hlocks hP hD hS h1 dX10_deck_22
  · replace h1 := Ok.neg c6 h1
    refine lv_aload_n hx hb dX10_deck_9 rfl (lv_at hl 0 rfl) ?_
    refine lv_iload_n hx hb dX10_deck_10 rfl (lv_at hl 1 rfl) ?_
    refine kc_rV (b := h) (As := [.int x1]) (rest := []) h1 ⟨hx, hb, hml, hown, hts⟩ (cX10_deckAtM l D cy h (a 0) (mRest a (nTh u 0)) H.size (mSt (nTh u 0)) x1) (cwV 1 hts gX10_deck_X10_deckAt rfl rfl rfl hdX10_deckAt ⟨Nat.le_of_ble_eq_true rfl, Nat.le_of_ble_eq_true rfl⟩) hK (wM_split _ _ _ _) hP hD hS hA (q0 := 0) rfl rfl rfl hl.1 rfl (Nat.le_of_ble_eq_true rfl) dX10_deck_11 ⟨Nat.zero_le _, Nat.zero_le _⟩ (fun r11 H locs h1 hP hS => ?_)
    refine lv_goto (tgt := 22) hx hb dX10_deck_14 (by decide) ?_
    exact kret_i hx hb hr hlocks hP hD hS h1 dX10_deck_22
def fX10_deck (p1 : Int32) (u : RS) : Option (Int32 × RS) := fX10_deck_b0 p1 u
set_option maxHeartbeats 4000000 in
set_option maxRecDepth 100000 in
theorem cX10_deckM (l : Launch) (D : va_G) (cy : Nat → ClassId) (h : Nat) (a : Nat → Nat) (sz : Nat) (u : RS) (p1 : Int32) : ∀ (K : Int32 → RS → Prop), Ok (fX10_deck p1 u) (fun q => K q.1 q.2) → Met l yX10_deck wsX10_deck rmX10_deck (va_Pc [.ref h, .int p1] (kPre D cy sz (wM cy h a u))) (va_Qi K (fun q => kPost D (va_A (wM cy h a u) sz) (wM cy h a q)) (va_A (wM cy h a u) sz)) 0 0 (va_A (wM cy h a u) sz) := by
  intro K h1
  refine Met.ofW (cc := cX10_deck) (maxL := 2) (ret := (some .int)) (by decide) rfl ?_
  intro p e s m args below meth c s₁ B hml hv
  obtain ⟨rfl, hsz, hP, hK, hD0⟩ := hv
  subst hsz
  have E : mE D cy RX10 cX10_deck 2 (some .int) wsX10_deck (va_A (wM cy h a u) s.heap.size) p s m _ meth c := ⟨B.exec, B.bytes, B.returns, hml, findClass_of_methodNamed B.named, atoms_spec (ws := wsX10_deck) B.pre, B.notSynchronized, hK, fun q h => Or.inr h⟩
  have hl := lv_entry ([.ref h, .int p1]) (n := 2) (Nat.le_of_ble_eq_true rfl)
  rw [lg_entry_eq]
  generalize (lg_sl ([.ref h, .int p1]) ++ List.replicate (2 - (lg_sl ([.ref h, .int p1])).length) Slot.unset).toArray = ls at hl ⊢
  exact tX10_deck_b0 (fun q => K q.1 q.2) E p1 u _ _ _ hl hP hD0.self va_S.rf h1
-- X10_slope
theorem inX10_slope_X10 : ∀ w ∈ u_ws RX10 TX10 23, w ∈ wsX10_slope := k_lays 12 rfl
theorem lkX10_slope_48 : Cond.fieldLink RX10 48 "FerryRampModel" "thrown" "I" ∈ wsX10_slope := List.mem_of_getElem? (i := 1) rfl
abbrev rmX10_slope : Room := { frames := 2, cells := 0, slots := 0, locals := 60 }
def fX10_slope_b0 (u : RS) : Option (Int32 × RS) :=
  bnd (fX10_slopeNow (mSt (nTh u 0))) (fun r6 => some (r6, nTh u 0))
set_option maxHeartbeats 4000000 in
set_option maxRecDepth 100000 in
theorem tX10_slope_b0 {p : Program} {l : Launch} {e : Env} {s : State} {m : MethodId} {args : Array Value} {below : List Frame} {meth : Method} {c : Code} {D : va_G} {cy : Nat → ClassId} {A : Nat → Prop} {h : Nat} {a : Nat → Nat} (K : Int32 × RS → Prop) (E : mE D cy RX10 cX10_slope 1 (some .int) wsX10_slope A p s m args meth c)
     (u : RS) (H : Heap) (locs : List Loc) (ls : Array Slot) (hl : lv_has ls 1 [(0, .ref h)]) (hP : va_P D vwCl (wM cy h a u) H) (hD : va_D A (wM cy h a u)) (hS : va_S A s.heap H locs) (h1 : Ok (fX10_slope_b0 u) K) :
    kW p l e rmX10_slope s m args below meth c H locs (va_Qi (fun r q => K (r, q)) (fun q => kPost D A (wM cy h a q)) A) A 0 ls [] := by
  obtain ⟨hx, hb, hr, hml, hown, hts, hlocks, hK, hA⟩ := id E
  unfold fX10_slope_b0 at h1
  refine lv_aload_n hx hb dX10_slope_0 rfl (lv_at hl 0 rfl) ?_
  refine lv_iconst (v := 0) hx hb dX10_slope_1 rfl ?_
  refine k_put (v := .int 0) (ty := .int) (C := RX10) (T := TX10) (N := 23) hx hb hts inX10_slope_X10 tyX10 tyX10_ok nmX10 hown hK hP hD hS 0 (wM_a0 _ _ _ _) rfl 8 (by decide) lkX10_slope_48 rfl (by decide +kernel) rfl rfl (Nat.le_of_ble_eq_true rfl) (ws' := wM cy h a (nTh u 0)) (wM_nTh _ _ _ _ _) dX10_slope_2 (fun H locs hP hD hS => ?_)
  refine lv_aload_n hx hb dX10_slope_5 rfl (lv_at hl 0 rfl) ?_
  refine kc_rV (b := h) (As := []) (rest := []) h1 ⟨hx, hb, hml, hown, hts⟩ (cX10_slopeNowM l D cy h (a 0) (mRest a (nTh u 0)) H.size (mSt (nTh u 0))) (cwV 0 hts gX10_slope_X10_slopeNow rfl rfl rfl hdX10_slopeNow ⟨Nat.le_of_ble_eq_true rfl, Nat.le_of_ble_eq_true rfl⟩) hK (wM_split _ _ _ _) hP hD hS hA (q0 := 0) rfl rfl rfl hl.1 rfl (Nat.le_of_ble_eq_true rfl) dX10_slope_6 ⟨Nat.zero_le _, Nat.zero_le _⟩ (fun r6 H locs h1 hP hS => ?_)
  exact kret_i hx hb hr hlocks hP hD hS h1 dX10_slope_9
def fX10_slope (u : RS) : Option (Int32 × RS) := fX10_slope_b0 u
set_option maxHeartbeats 4000000 in
set_option maxRecDepth 100000 in
theorem cX10_slopeM (l : Launch) (D : va_G) (cy : Nat → ClassId) (h : Nat) (a : Nat → Nat) (sz : Nat) (u : RS) : ∀ (K : Int32 → RS → Prop), Ok (fX10_slope u) (fun q => K q.1 q.2) → Met l yX10_slope wsX10_slope rmX10_slope (va_Pc [.ref h] (kPre D cy sz (wM cy h a u))) (va_Qi K (fun q => kPost D (va_A (wM cy h a u) sz) (wM cy h a q)) (va_A (wM cy h a u) sz)) 0 0 (va_A (wM cy h a u) sz) := by
  intro K h1
  refine Met.ofW (cc := cX10_slope) (maxL := 1) (ret := (some .int)) (by decide) rfl ?_
  intro p e s m args below meth c s₁ B hml hv
  obtain ⟨rfl, hsz, hP, hK, hD0⟩ := hv
  subst hsz
  have E : mE D cy RX10 cX10_slope 1 (some .int) wsX10_slope (va_A (wM cy h a u) s.heap.size) p s m _ meth c := ⟨B.exec, B.bytes, B.returns, hml, findClass_of_methodNamed B.named, atoms_spec (ws := wsX10_slope) B.pre, B.notSynchronized, hK, fun q h => Or.inr h⟩
  have hl := lv_entry ([.ref h]) (n := 1) (Nat.le_of_ble_eq_true rfl)
  rw [lg_entry_eq]
  generalize (lg_sl ([.ref h]) ++ List.replicate (1 - (lg_sl ([.ref h])).length) Slot.unset).toArray = ls at hl ⊢
  exact tX10_slope_b0 (fun q => K q.1 q.2) E u _ _ _ hl hP hD0.self va_S.rf h1
-- X10_lip
theorem inX10_lip_X10 : ∀ w ∈ u_ws RX10 TX10 23, w ∈ wsX10_lip := k_lays 28 rfl
theorem lkX10_lip_48 : Cond.fieldLink RX10 48 "FerryRampModel" "thrown" "I" ∈ wsX10_lip := List.mem_of_getElem? (i := 1) rfl
abbrev rmX10_lip : Room := { frames := 4, cells := 0, slots := 0, locals := 85 }
def fX10_lip_b0 (u : RS) : Option (Int32 × RS) :=
  bnd (fX10_lipNow (mSt (nTh u 0))) (fun r6 => some (r6, nTh u 0))
set_option maxHeartbeats 4000000 in
set_option maxRecDepth 100000 in
theorem tX10_lip_b0 {p : Program} {l : Launch} {e : Env} {s : State} {m : MethodId} {args : Array Value} {below : List Frame} {meth : Method} {c : Code} {D : va_G} {cy : Nat → ClassId} {A : Nat → Prop} {h : Nat} {a : Nat → Nat} (K : Int32 × RS → Prop) (E : mE D cy RX10 cX10_lip 1 (some .int) wsX10_lip A p s m args meth c)
     (u : RS) (H : Heap) (locs : List Loc) (ls : Array Slot) (hl : lv_has ls 1 [(0, .ref h)]) (hP : va_P D vwCl (wM cy h a u) H) (hD : va_D A (wM cy h a u)) (hS : va_S A s.heap H locs) (h1 : Ok (fX10_lip_b0 u) K) :
    kW p l e rmX10_lip s m args below meth c H locs (va_Qi (fun r q => K (r, q)) (fun q => kPost D A (wM cy h a q)) A) A 0 ls [] := by
  obtain ⟨hx, hb, hr, hml, hown, hts, hlocks, hK, hA⟩ := id E
  unfold fX10_lip_b0 at h1
  refine lv_aload_n hx hb dX10_lip_0 rfl (lv_at hl 0 rfl) ?_
  refine lv_iconst (v := 0) hx hb dX10_lip_1 rfl ?_
  refine k_put (v := .int 0) (ty := .int) (C := RX10) (T := TX10) (N := 23) hx hb hts inX10_lip_X10 tyX10 tyX10_ok nmX10 hown hK hP hD hS 0 (wM_a0 _ _ _ _) rfl 8 (by decide) lkX10_lip_48 rfl (by decide +kernel) rfl rfl (Nat.le_of_ble_eq_true rfl) (ws' := wM cy h a (nTh u 0)) (wM_nTh _ _ _ _ _) dX10_lip_2 (fun H locs hP hD hS => ?_)
  refine lv_aload_n hx hb dX10_lip_5 rfl (lv_at hl 0 rfl) ?_
  refine kc_rV (b := h) (As := []) (rest := []) h1 ⟨hx, hb, hml, hown, hts⟩ (cX10_lipNowM l D cy h (a 0) (mRest a (nTh u 0)) H.size (mSt (nTh u 0))) (cwV 0 hts gX10_lip_X10_lipNow rfl rfl rfl hdX10_lipNow ⟨Nat.le_of_ble_eq_true rfl, Nat.le_of_ble_eq_true rfl⟩) hK (wM_split _ _ _ _) hP hD hS hA (q0 := 0) rfl rfl rfl hl.1 rfl (Nat.le_of_ble_eq_true rfl) dX10_lip_6 ⟨Nat.zero_le _, Nat.zero_le _⟩ (fun r6 H locs h1 hP hS => ?_)
  exact kret_i hx hb hr hlocks hP hD hS h1 dX10_lip_9
def fX10_lip (u : RS) : Option (Int32 × RS) := fX10_lip_b0 u
set_option maxHeartbeats 4000000 in
set_option maxRecDepth 100000 in
theorem cX10_lipM (l : Launch) (D : va_G) (cy : Nat → ClassId) (h : Nat) (a : Nat → Nat) (sz : Nat) (u : RS) : ∀ (K : Int32 → RS → Prop), Ok (fX10_lip u) (fun q => K q.1 q.2) → Met l yX10_lip wsX10_lip rmX10_lip (va_Pc [.ref h] (kPre D cy sz (wM cy h a u))) (va_Qi K (fun q => kPost D (va_A (wM cy h a u) sz) (wM cy h a q)) (va_A (wM cy h a u) sz)) 0 0 (va_A (wM cy h a u) sz) := by
  intro K h1
  refine Met.ofW (cc := cX10_lip) (maxL := 1) (ret := (some .int)) (by decide) rfl ?_
  intro p e s m args below meth c s₁ B hml hv
  obtain ⟨rfl, hsz, hP, hK, hD0⟩ := hv
  subst hsz
  have E : mE D cy RX10 cX10_lip 1 (some .int) wsX10_lip (va_A (wM cy h a u) s.heap.size) p s m _ meth c := ⟨B.exec, B.bytes, B.returns, hml, findClass_of_methodNamed B.named, atoms_spec (ws := wsX10_lip) B.pre, B.notSynchronized, hK, fun q h => Or.inr h⟩
  have hl := lv_entry ([.ref h]) (n := 1) (Nat.le_of_ble_eq_true rfl)
  rw [lg_entry_eq]
  generalize (lg_sl ([.ref h]) ++ List.replicate (1 - (lg_sl ([.ref h])).length) Slot.unset).toArray = ls at hl ⊢
  exact tX10_lip_b0 (fun q => K q.1 q.2) E u _ _ _ hl hP hD0.self va_S.rf h1
-- X10_waterIn
theorem inX10_waterIn_X10 : ∀ w ∈ u_ws RX10 TX10 23, w ∈ wsX10_waterIn := k_lays 3 rfl
theorem lkX10_waterIn_48 : Cond.fieldLink RX10 48 "FerryRampModel" "thrown" "I" ∈ wsX10_waterIn := List.mem_of_getElem? (i := 1) rfl
theorem lkX10_waterIn_7 : Cond.fieldLink RX10 7 "FerryRampModel" "state" "[I" ∈ wsX10_waterIn := List.mem_of_getElem? (i := 2) rfl
abbrev rmX10_waterIn : Room := { frames := 0, cells := 0, slots := 0, locals := 0 }
def fX10_waterIn_b39 (x2 : Int32) (x3 : Int32) (s0 : Int32) (u : RS) : Option (Int32 × RS) :=
  grd (nz x2) (some (((s0 - x3) + x2) - ((s0 - x3) + x2) / x2 * x2, u))
set_option maxHeartbeats 4000000 in
set_option maxRecDepth 100000 in
theorem tX10_waterIn_b39 {p : Program} {l : Launch} {e : Env} {s : State} {m : MethodId} {args : Array Value} {below : List Frame} {meth : Method} {c : Code} {D : va_G} {cy : Nat → ClassId} {A : Nat → Prop} {h : Nat} {a : Nat → Nat} (K : Int32 × RS → Prop) (E : mE D cy RX10 cX10_waterIn 4 (some .int) wsX10_waterIn A p s m args meth c)
     (x2 : Int32) (x3 : Int32) (s0 : Int32) (u : RS) (H : Heap) (locs : List Loc) (ls : Array Slot) (hl : lv_has ls 4 [(2, .int x2), (3, .int x3)]) (hP : va_P D vwCl (wM cy h a u) H) (hD : va_D A (wM cy h a u)) (hS : va_S A s.heap H locs) (h1 : Ok (fX10_waterIn_b39 x2 x3 s0 u) K) :
    kW p l e rmX10_waterIn s m args below meth c H locs (va_Qi (fun r q => K (r, q)) (fun q => kPost D A (wM cy h a q)) A) A 39 ls [.int s0] := by
  obtain ⟨hx, hb, hr, hml, hown, hts, hlocks, hK, hA⟩ := id E
  unfold fX10_waterIn_b39 at h1
  refine lv_iload_n hx hb dX10_waterIn_39 rfl (lv_at hl 1 rfl) ?_
  refine lv_isub hx hb dX10_waterIn_40 ?_
  refine lv_iload_n hx hb dX10_waterIn_41 rfl (lv_at hl 0 rfl) ?_
  refine lv_iadd hx hb dX10_waterIn_42 ?_
  refine lv_iload_n hx hb dX10_waterIn_43 rfl (lv_at hl 0 rfl) ?_
  have g44 := h1.grd1
  replace h1 := h1.grd2
  refine lv_irem hx hb dX10_waterIn_44 (nz_ne g44) ?_
  exact kret_i hx hb hr hlocks hP hD hS h1 dX10_waterIn_45
def fX10_waterIn_b0 (x1 : Int32) (u : RS) : Option (Int32 × RS) :=
  grd (nz (2 * (mSt (nTh u 0) 17))) ((if x1 = 0 then fX10_waterIn_b39 (2 * (mSt (nTh u 0) 17)) ((mSt (nTh u 0) 0) - (mSt (nTh u 0) 0) / (2 * (mSt (nTh u 0) 17)) * (2 * (mSt (nTh u 0) 17))) 0 (nTh u 0) else fX10_waterIn_b39 (2 * (mSt (nTh u 0) 17)) ((mSt (nTh u 0) 0) - (mSt (nTh u 0) 0) / (2 * (mSt (nTh u 0) 17)) * (2 * (mSt (nTh u 0) 17))) (mSt (nTh u 0) 17) (nTh u 0)))
set_option maxHeartbeats 4000000 in
set_option maxRecDepth 100000 in
theorem tX10_waterIn_b0 {p : Program} {l : Launch} {e : Env} {s : State} {m : MethodId} {args : Array Value} {below : List Frame} {meth : Method} {c : Code} {D : va_G} {cy : Nat → ClassId} {A : Nat → Prop} {h : Nat} {a : Nat → Nat} (K : Int32 × RS → Prop) (E : mE D cy RX10 cX10_waterIn 4 (some .int) wsX10_waterIn A p s m args meth c)
     (x1 : Int32) (u : RS) (H : Heap) (locs : List Loc) (ls : Array Slot) (hl : lv_has ls 4 [(0, .ref h), (1, .int x1)]) (hP : va_P D vwCl (wM cy h a u) H) (hD : va_D A (wM cy h a u)) (hS : va_S A s.heap H locs) (h1 : Ok (fX10_waterIn_b0 x1 u) K) :
    kW p l e rmX10_waterIn s m args below meth c H locs (va_Qi (fun r q => K (r, q)) (fun q => kPost D A (wM cy h a q)) A) A 0 ls [] := by
  obtain ⟨hx, hb, hr, hml, hown, hts, hlocks, hK, hA⟩ := id E
  unfold fX10_waterIn_b0 at h1
  refine lv_aload_n hx hb dX10_waterIn_0 rfl (lv_at hl 0 rfl) ?_
  refine lv_iconst (v := 0) hx hb dX10_waterIn_1 rfl ?_
  refine k_put (v := .int 0) (ty := .int) (C := RX10) (T := TX10) (N := 23) hx hb hts inX10_waterIn_X10 tyX10 tyX10_ok nmX10 hown hK hP hD hS 0 (wM_a0 _ _ _ _) rfl 8 (by decide) lkX10_waterIn_48 rfl (by decide +kernel) rfl rfl (Nat.le_of_ble_eq_true rfl) (ws' := wM cy h a (nTh u 0)) (wM_nTh _ _ _ _ _) dX10_waterIn_2 (fun H locs hP hD hS => ?_)
  refine lv_iconst (v := 2) hx hb dX10_waterIn_5 rfl ?_
  refine lv_aload_n hx hb dX10_waterIn_6 rfl (lv_at hl 0 rfl) ?_
  refine k_get (v := .ref (a 0)) (C := RX10) (T := TX10) (N := 23) hx hb hts inX10_waterIn_X10 hown hK hP 0 (wM_a0 _ _ _ _) rfl 0 (by decide) lkX10_waterIn_7 (mFs_0 _ _) dX10_waterIn_7 ?_
  refine lv_bipush (v := 17) hx hb dX10_waterIn_10 rfl ?_
  refine k_iald (k := 17) hx hb hK hP 1 (wM_a1 _ _ _ _) rfl rfl dX10_waterIn_12 ?_
  refine lv_imul hx hb dX10_waterIn_13 ?_
  refine lv_istore_n (lv' := [(2, .int (2 * (mSt (nTh u 0) 17))), (0, .ref h), (1, .int x1)]) hx hb dX10_waterIn_14 rfl hl (by decide) rfl (fun ls hl => ?_)
  refine lv_aload_n hx hb dX10_waterIn_15 rfl (lv_at hl 1 rfl) ?_
  refine k_get (v := .ref (a 0)) (C := RX10) (T := TX10) (N := 23) hx hb hts inX10_waterIn_X10 hown hK hP 0 (wM_a0 _ _ _ _) rfl 0 (by decide) lkX10_waterIn_7 (mFs_0 _ _) dX10_waterIn_16 ?_
  refine lv_iconst (v := 0) hx hb dX10_waterIn_19 rfl ?_
  refine k_iald (k := 0) hx hb hK hP 1 (wM_a1 _ _ _ _) rfl rfl dX10_waterIn_20 ?_
  refine lv_iload_n hx hb dX10_waterIn_21 rfl (lv_at hl 0 rfl) ?_
  have g22 := h1.grd1
  replace h1 := h1.grd2
  refine lv_irem hx hb dX10_waterIn_22 (nz_ne g22) ?_
  refine lv_istore_n (lv' := [(3, .int ((mSt (nTh u 0) 0) - (mSt (nTh u 0) 0) / (2 * (mSt (nTh u 0) 17)) * (2 * (mSt (nTh u 0) 17)))), (2, .int (2 * (mSt (nTh u 0) 17))), (0, .ref h), (1, .int x1)]) hx hb dX10_waterIn_23 rfl hl (by decide) rfl (fun ls hl => ?_)
  refine lv_iload_n hx hb dX10_waterIn_24 rfl (lv_at hl 3 rfl) ?_
  refine lv_if_eq (tgt := 38) hx hb dX10_waterIn_25 (by decide) (fun c25 => ?_) (fun c25 => ?_)
  · replace h1 := Ok.pos c25 h1
    refine lv_iconst (v := 0) hx hb dX10_waterIn_38 rfl ?_
    exact tX10_waterIn_b39 K E (2 * (mSt (nTh u 0) 17)) ((mSt (nTh u 0) 0) - (mSt (nTh u 0) 0) / (2 * (mSt (nTh u 0) 17)) * (2 * (mSt (nTh u 0) 17))) 0 (nTh u 0) H locs ls (lv_sub hl [1, 0] rfl) hP hD hS h1
  · replace h1 := Ok.neg c25 h1
    refine lv_aload_n hx hb dX10_waterIn_28 rfl (lv_at hl 2 rfl) ?_
    refine k_get (v := .ref (a 0)) (C := RX10) (T := TX10) (N := 23) hx hb hts inX10_waterIn_X10 hown hK hP 0 (wM_a0 _ _ _ _) rfl 0 (by decide) lkX10_waterIn_7 (mFs_0 _ _) dX10_waterIn_29 ?_
    refine lv_bipush (v := 17) hx hb dX10_waterIn_32 rfl ?_
    refine k_iald (k := 17) hx hb hK hP 1 (wM_a1 _ _ _ _) rfl rfl dX10_waterIn_34 ?_
    refine lv_goto (tgt := 39) hx hb dX10_waterIn_35 (by decide) ?_
    exact tX10_waterIn_b39 K E (2 * (mSt (nTh u 0) 17)) ((mSt (nTh u 0) 0) - (mSt (nTh u 0) 0) / (2 * (mSt (nTh u 0) 17)) * (2 * (mSt (nTh u 0) 17))) (mSt (nTh u 0) 17) (nTh u 0) H locs ls (lv_sub hl [1, 0] rfl) hP hD hS h1
def fX10_waterIn (p1 : Int32) (u : RS) : Option (Int32 × RS) := fX10_waterIn_b0 p1 u
set_option maxHeartbeats 4000000 in
set_option maxRecDepth 100000 in
theorem cX10_waterInM (l : Launch) (D : va_G) (cy : Nat → ClassId) (h : Nat) (a : Nat → Nat) (sz : Nat) (u : RS) (p1 : Int32) : ∀ (K : Int32 → RS → Prop), Ok (fX10_waterIn p1 u) (fun q => K q.1 q.2) → Met l yX10_waterIn wsX10_waterIn rmX10_waterIn (va_Pc [.ref h, .int p1] (kPre D cy sz (wM cy h a u))) (va_Qi K (fun q => kPost D (va_A (wM cy h a u) sz) (wM cy h a q)) (va_A (wM cy h a u) sz)) 0 0 (va_A (wM cy h a u) sz) := by
  intro K h1
  refine Met.ofW (cc := cX10_waterIn) (maxL := 4) (ret := (some .int)) (by decide) rfl ?_
  intro p e s m args below meth c s₁ B hml hv
  obtain ⟨rfl, hsz, hP, hK, hD0⟩ := hv
  subst hsz
  have E : mE D cy RX10 cX10_waterIn 4 (some .int) wsX10_waterIn (va_A (wM cy h a u) s.heap.size) p s m _ meth c := ⟨B.exec, B.bytes, B.returns, hml, findClass_of_methodNamed B.named, atoms_spec (ws := wsX10_waterIn) B.pre, B.notSynchronized, hK, fun q h => Or.inr h⟩
  have hl := lv_entry ([.ref h, .int p1]) (n := 4) (Nat.le_of_ble_eq_true rfl)
  rw [lg_entry_eq]
  generalize (lg_sl ([.ref h, .int p1]) ++ List.replicate (4 - (lg_sl ([.ref h, .int p1])).length) Slot.unset).toArray = ls at hl ⊢
  exact tX10_waterIn_b0 (fun q => K q.1 q.2) E p1 u _ _ _ hl hP hD0.self va_S.rf h1
-- X10_list
theorem inX10_list_X10 : ∀ w ∈ u_ws RX10 TX10 23, w ∈ wsX10_list := k_lays 20 rfl
theorem lkX10_list_48 : Cond.fieldLink RX10 48 "FerryRampModel" "thrown" "I" ∈ wsX10_list := List.mem_of_getElem? (i := 1) rfl
abbrev rmX10_list : Room := { frames := 4, cells := 0, slots := 0, locals := 88 }
def fX10_list_b0 (u : RS) : Option (Int32 × RS) :=
  bnd (fX10_listNow (mSt (nTh u 0))) (fun r6 => some (r6, nTh u 0))
set_option maxHeartbeats 4000000 in
set_option maxRecDepth 100000 in
theorem tX10_list_b0 {p : Program} {l : Launch} {e : Env} {s : State} {m : MethodId} {args : Array Value} {below : List Frame} {meth : Method} {c : Code} {D : va_G} {cy : Nat → ClassId} {A : Nat → Prop} {h : Nat} {a : Nat → Nat} (K : Int32 × RS → Prop) (E : mE D cy RX10 cX10_list 1 (some .int) wsX10_list A p s m args meth c)
     (u : RS) (H : Heap) (locs : List Loc) (ls : Array Slot) (hl : lv_has ls 1 [(0, .ref h)]) (hP : va_P D vwCl (wM cy h a u) H) (hD : va_D A (wM cy h a u)) (hS : va_S A s.heap H locs) (h1 : Ok (fX10_list_b0 u) K) :
    kW p l e rmX10_list s m args below meth c H locs (va_Qi (fun r q => K (r, q)) (fun q => kPost D A (wM cy h a q)) A) A 0 ls [] := by
  obtain ⟨hx, hb, hr, hml, hown, hts, hlocks, hK, hA⟩ := id E
  unfold fX10_list_b0 at h1
  refine lv_aload_n hx hb dX10_list_0 rfl (lv_at hl 0 rfl) ?_
  refine lv_iconst (v := 0) hx hb dX10_list_1 rfl ?_
  refine k_put (v := .int 0) (ty := .int) (C := RX10) (T := TX10) (N := 23) hx hb hts inX10_list_X10 tyX10 tyX10_ok nmX10 hown hK hP hD hS 0 (wM_a0 _ _ _ _) rfl 8 (by decide) lkX10_list_48 rfl (by decide +kernel) rfl rfl (Nat.le_of_ble_eq_true rfl) (ws' := wM cy h a (nTh u 0)) (wM_nTh _ _ _ _ _) dX10_list_2 (fun H locs hP hD hS => ?_)
  refine lv_aload_n hx hb dX10_list_5 rfl (lv_at hl 0 rfl) ?_
  refine kc_rV (b := h) (As := []) (rest := []) h1 ⟨hx, hb, hml, hown, hts⟩ (cX10_listNowM l D cy h (a 0) (mRest a (nTh u 0)) H.size (mSt (nTh u 0))) (cwV 0 hts gX10_list_X10_listNow rfl rfl rfl hdX10_listNow ⟨Nat.le_of_ble_eq_true rfl, Nat.le_of_ble_eq_true rfl⟩) hK (wM_split _ _ _ _) hP hD hS hA (q0 := 0) rfl rfl rfl hl.1 rfl (Nat.le_of_ble_eq_true rfl) dX10_list_6 ⟨Nat.zero_le _, Nat.zero_le _⟩ (fun r6 H locs h1 hP hS => ?_)
  exact kret_i hx hb hr hlocks hP hD hS h1 dX10_list_9
def fX10_list (u : RS) : Option (Int32 × RS) := fX10_list_b0 u
set_option maxHeartbeats 4000000 in
set_option maxRecDepth 100000 in
theorem cX10_listM (l : Launch) (D : va_G) (cy : Nat → ClassId) (h : Nat) (a : Nat → Nat) (sz : Nat) (u : RS) : ∀ (K : Int32 → RS → Prop), Ok (fX10_list u) (fun q => K q.1 q.2) → Met l yX10_list wsX10_list rmX10_list (va_Pc [.ref h] (kPre D cy sz (wM cy h a u))) (va_Qi K (fun q => kPost D (va_A (wM cy h a u) sz) (wM cy h a q)) (va_A (wM cy h a u) sz)) 0 0 (va_A (wM cy h a u) sz) := by
  intro K h1
  refine Met.ofW (cc := cX10_list) (maxL := 1) (ret := (some .int)) (by decide) rfl ?_
  intro p e s m args below meth c s₁ B hml hv
  obtain ⟨rfl, hsz, hP, hK, hD0⟩ := hv
  subst hsz
  have E : mE D cy RX10 cX10_list 1 (some .int) wsX10_list (va_A (wM cy h a u) s.heap.size) p s m _ meth c := ⟨B.exec, B.bytes, B.returns, hml, findClass_of_methodNamed B.named, atoms_spec (ws := wsX10_list) B.pre, B.notSynchronized, hK, fun q h => Or.inr h⟩
  have hl := lv_entry ([.ref h]) (n := 1) (Nat.le_of_ble_eq_true rfl)
  rw [lg_entry_eq]
  generalize (lg_sl ([.ref h]) ++ List.replicate (1 - (lg_sl ([.ref h])).length) Slot.unset).toArray = ls at hl ⊢
  exact tX10_list_b0 (fun q => K q.1 q.2) E u _ _ _ hl hP hD0.self va_S.rf h1
-- X10_heaviest
theorem inX10_heaviest_X10 : ∀ w ∈ u_ws RX10 TX10 23, w ∈ wsX10_heaviest := k_lays 8 rfl
theorem lkX10_heaviest_48 : Cond.fieldLink RX10 48 "FerryRampModel" "thrown" "I" ∈ wsX10_heaviest := List.mem_of_getElem? (i := 1) rfl
theorem lkX10_heaviest_7 : Cond.fieldLink RX10 7 "FerryRampModel" "state" "[I" ∈ wsX10_heaviest := List.mem_of_getElem? (i := 2) rfl
abbrev rmX10_heaviest : Room := { frames := 1, cells := 0, slots := 0, locals := 22 }
def fX10_heaviest_b56 (k9 : Int32 × Int32 × RS → Option (Int32 × RS)) (x1 : Int32) (x2 : Int32) (u : RS) : Option (Int32 × RS) :=
  k9 (x1, x2 + 1, u)
set_option maxHeartbeats 4000000 in
set_option maxRecDepth 100000 in
theorem tX10_heaviest_b56 {p : Program} {l : Launch} {e : Env} {s : State} {m : MethodId} {args : Array Value} {below : List Frame} {meth : Method} {c : Code} {D : va_G} {cy : Nat → ClassId} {A : Nat → Prop} {h : Nat} {a : Nat → Nat} (K : Int32 × RS → Prop) (E : mE D cy RX10 cX10_heaviest 3 (some .int) wsX10_heaviest A p s m args meth c)
    (k9 : Int32 × Int32 × RS → Option (Int32 × RS)) (hk9 : ∀ (x1 : Int32) (x2 : Int32) (u : RS) (H : Heap) (locs : List Loc) (ls : Array Slot), lv_has ls 3 [(0, .ref h), (1, .int x1), (2, .int x2)] → va_P D vwCl (wM cy h a u) H → va_D A (wM cy h a u) → va_S A s.heap H locs → Ok (k9 (x1, x2, u)) K → kW p l e rmX10_heaviest s m args below meth c H locs (va_Qi (fun r q => K (r, q)) (fun q => kPost D A (wM cy h a q)) A) A 9 ls [])
     (x1 : Int32) (x2 : Int32) (u : RS) (H : Heap) (locs : List Loc) (ls : Array Slot) (hl : lv_has ls 3 [(0, .ref h), (1, .int x1), (2, .int x2)]) (hP : va_P D vwCl (wM cy h a u) H) (hD : va_D A (wM cy h a u)) (hS : va_S A s.heap H locs) (h1 : Ok (fX10_heaviest_b56 k9 x1 x2 u) K) :
    kW p l e rmX10_heaviest s m args below meth c H locs (va_Qi (fun r q => K (r, q)) (fun q => kPost D A (wM cy h a q)) A) A 56 ls [] := by
  obtain ⟨hx, hb, hr, hml, hown, hts, hlocks, hK, hA⟩ := id E
  unfold fX10_heaviest_b56 at h1
  refine lv_iinc (v := x2 + 1) (lv' := [(2, .int (x2 + 1)), (0, .ref h), (1, .int x1)]) hx hb dX10_heaviest_56 hl (k := 2) rfl rfl (by decide) rfl (fun ls hl => ?_)
  refine lv_goto (tgt := 9) hx hb dX10_heaviest_59 (by decide) ?_
  exact hk9 x1 (x2 + 1) u H locs ls (lv_sub hl [1, 2, 0] rfl) hP hD hS h1
def fX10_heaviest_b55 (k9 : Int32 × Int32 × RS → Option (Int32 × RS)) (x2 : Int32) (s0 : Int32) (u : RS) : Option (Int32 × RS) :=
  fX10_heaviest_b56 k9 s0 x2 u
set_option maxHeartbeats 4000000 in
set_option maxRecDepth 100000 in
theorem tX10_heaviest_b55 {p : Program} {l : Launch} {e : Env} {s : State} {m : MethodId} {args : Array Value} {below : List Frame} {meth : Method} {c : Code} {D : va_G} {cy : Nat → ClassId} {A : Nat → Prop} {h : Nat} {a : Nat → Nat} (K : Int32 × RS → Prop) (E : mE D cy RX10 cX10_heaviest 3 (some .int) wsX10_heaviest A p s m args meth c)
    (k9 : Int32 × Int32 × RS → Option (Int32 × RS)) (hk9 : ∀ (x1 : Int32) (x2 : Int32) (u : RS) (H : Heap) (locs : List Loc) (ls : Array Slot), lv_has ls 3 [(0, .ref h), (1, .int x1), (2, .int x2)] → va_P D vwCl (wM cy h a u) H → va_D A (wM cy h a u) → va_S A s.heap H locs → Ok (k9 (x1, x2, u)) K → kW p l e rmX10_heaviest s m args below meth c H locs (va_Qi (fun r q => K (r, q)) (fun q => kPost D A (wM cy h a q)) A) A 9 ls [])
     (x2 : Int32) (s0 : Int32) (u : RS) (H : Heap) (locs : List Loc) (ls : Array Slot) (hl : lv_has ls 3 [(0, .ref h), (2, .int x2)]) (hP : va_P D vwCl (wM cy h a u) H) (hD : va_D A (wM cy h a u)) (hS : va_S A s.heap H locs) (h1 : Ok (fX10_heaviest_b55 k9 x2 s0 u) K) :
    kW p l e rmX10_heaviest s m args below meth c H locs (va_Qi (fun r q => K (r, q)) (fun q => kPost D A (wM cy h a q)) A) A 55 ls [.int s0] := by
  obtain ⟨hx, hb, hr, hml, hown, hts, hlocks, hK, hA⟩ := id E
  unfold fX10_heaviest_b55 at h1
  refine lv_istore_n (lv' := [(1, .int s0), (0, .ref h), (2, .int x2)]) hx hb dX10_heaviest_55 rfl hl (by decide) rfl (fun ls hl => ?_)
  exact tX10_heaviest_b56 K E k9 hk9 s0 x2 u H locs ls (lv_sub hl [1, 0, 2] rfl) hP hD hS h1
def fX10_heaviest_b50 (k9 : Int32 × Int32 × RS → Option (Int32 × RS)) (x2 : Int32) (u : RS) : Option (Int32 × RS) :=
  fX10_heaviest_b55 k9 x2 x2 u
set_option maxHeartbeats 4000000 in
set_option maxRecDepth 100000 in
theorem tX10_heaviest_b50 {p : Program} {l : Launch} {e : Env} {s : State} {m : MethodId} {args : Array Value} {below : List Frame} {meth : Method} {c : Code} {D : va_G} {cy : Nat → ClassId} {A : Nat → Prop} {h : Nat} {a : Nat → Nat} (K : Int32 × RS → Prop) (E : mE D cy RX10 cX10_heaviest 3 (some .int) wsX10_heaviest A p s m args meth c)
    (k9 : Int32 × Int32 × RS → Option (Int32 × RS)) (hk9 : ∀ (x1 : Int32) (x2 : Int32) (u : RS) (H : Heap) (locs : List Loc) (ls : Array Slot), lv_has ls 3 [(0, .ref h), (1, .int x1), (2, .int x2)] → va_P D vwCl (wM cy h a u) H → va_D A (wM cy h a u) → va_S A s.heap H locs → Ok (k9 (x1, x2, u)) K → kW p l e rmX10_heaviest s m args below meth c H locs (va_Qi (fun r q => K (r, q)) (fun q => kPost D A (wM cy h a q)) A) A 9 ls [])
     (x2 : Int32) (u : RS) (H : Heap) (locs : List Loc) (ls : Array Slot) (hl : lv_has ls 3 [(0, .ref h), (2, .int x2)]) (hP : va_P D vwCl (wM cy h a u) H) (hD : va_D A (wM cy h a u)) (hS : va_S A s.heap H locs) (h1 : Ok (fX10_heaviest_b50 k9 x2 u) K) :
    kW p l e rmX10_heaviest s m args below meth c H locs (va_Qi (fun r q => K (r, q)) (fun q => kPost D A (wM cy h a q)) A) A 50 ls [] := by
  obtain ⟨hx, hb, hr, hml, hown, hts, hlocks, hK, hA⟩ := id E
  unfold fX10_heaviest_b50 at h1
  refine lv_iload_n hx hb dX10_heaviest_50 rfl (lv_at hl 1 rfl) ?_
  refine lv_goto (tgt := 55) hx hb dX10_heaviest_51 (by decide) ?_
  exact tX10_heaviest_b55 K E k9 hk9 x2 x2 u H locs ls (lv_sub hl [0, 1] rfl) hP hD hS h1
def fX10_heaviest_b9 (k9 : Int32 × Int32 × RS → Option (Int32 × RS)) (x1 : Int32) (x2 : Int32) (u : RS) : Option (Int32 × RS) :=
  (if (mSt u 13) ≤ x2 then some (x1, u) else bnd (fX10_ofCar x2 2 (mSt u)) (fun r23 => (if r23 = 2 then (if x1 = (-1) then fX10_heaviest_b50 k9 x2 u else bnd (fX10_ofCar x2 1 (mSt u)) (fun r38 => bnd (fX10_ofCar x1 1 (mSt u)) (fun r44 => (if r38 ≤ r44 then fX10_heaviest_b55 k9 x2 x1 u else fX10_heaviest_b50 k9 x2 u)))) else fX10_heaviest_b56 k9 x1 x2 u)))
set_option maxHeartbeats 4000000 in
set_option maxRecDepth 100000 in
theorem tX10_heaviest_b9 {p : Program} {l : Launch} {e : Env} {s : State} {m : MethodId} {args : Array Value} {below : List Frame} {meth : Method} {c : Code} {D : va_G} {cy : Nat → ClassId} {A : Nat → Prop} {h : Nat} {a : Nat → Nat} (K : Int32 × RS → Prop) (E : mE D cy RX10 cX10_heaviest 3 (some .int) wsX10_heaviest A p s m args meth c)
    (k9 : Int32 × Int32 × RS → Option (Int32 × RS)) (hk9 : ∀ (x1 : Int32) (x2 : Int32) (u : RS) (H : Heap) (locs : List Loc) (ls : Array Slot), lv_has ls 3 [(0, .ref h), (1, .int x1), (2, .int x2)] → va_P D vwCl (wM cy h a u) H → va_D A (wM cy h a u) → va_S A s.heap H locs → Ok (k9 (x1, x2, u)) K → kW p l e rmX10_heaviest s m args below meth c H locs (va_Qi (fun r q => K (r, q)) (fun q => kPost D A (wM cy h a q)) A) A 9 ls [])
     (x1 : Int32) (x2 : Int32) (u : RS) (H : Heap) (locs : List Loc) (ls : Array Slot) (hl : lv_has ls 3 [(0, .ref h), (1, .int x1), (2, .int x2)]) (hP : va_P D vwCl (wM cy h a u) H) (hD : va_D A (wM cy h a u)) (hS : va_S A s.heap H locs) (h1 : Ok (fX10_heaviest_b9 k9 x1 x2 u) K) :
    kW p l e rmX10_heaviest s m args below meth c H locs (va_Qi (fun r q => K (r, q)) (fun q => kPost D A (wM cy h a q)) A) A 9 ls [] := by
  obtain ⟨hx, hb, hr, hml, hown, hts, hlocks, hK, hA⟩ := id E
  unfold fX10_heaviest_b9 at h1
  refine lv_iload_n hx hb dX10_heaviest_9 rfl (lv_at hl 2 rfl) ?_
  refine lv_aload_n hx hb dX10_heaviest_10 rfl (lv_at hl 0 rfl) ?_
  refine k_get (v := .ref (a 0)) (C := RX10) (T := TX10) (N := 23) hx hb hts inX10_heaviest_X10 hown hK hP 0 (wM_a0 _ _ _ _) rfl 0 (by decide) lkX10_heaviest_7 (mFs_0 _ _) dX10_heaviest_11 ?_
  refine lv_bipush (v := 13) hx hb dX10_heaviest_14 rfl ?_
  refine k_iald (k := 13) hx hb hK hP 1 (wM_a1 _ _ _ _) rfl rfl dX10_heaviest_16 ?_
  refine lv_icmp_ge (tgt := 62) hx hb dX10_heaviest_17 (by decide) (fun c17 => ?_) (fun c17 => ?_)
  · replace h1 := Ok.pos c17 h1
    refine lv_iload_n hx hb dX10_heaviest_62 rfl (lv_at hl 1 rfl) ?_
    exact kret_i hx hb hr hlocks hP hD hS h1 dX10_heaviest_63
  · replace h1 := Ok.neg c17 h1
    refine lv_aload_n hx hb dX10_heaviest_20 rfl (lv_at hl 0 rfl) ?_
    refine lv_iload_n hx hb dX10_heaviest_21 rfl (lv_at hl 2 rfl) ?_
    refine lv_iconst (v := 2) hx hb dX10_heaviest_22 rfl ?_
    refine kc_rV (b := h) (As := [.int x2, .int 2]) (rest := []) h1 ⟨hx, hb, hml, hown, hts⟩ (cX10_ofCarM l D cy h (a 0) (mRest a u) H.size (mSt u) x2 2) (cwV 2 hts gX10_heaviest_X10_ofCar rfl rfl rfl hdX10_ofCar ⟨Nat.le_of_ble_eq_true rfl, Nat.le_of_ble_eq_true rfl⟩) hK (wM_split _ _ _ _) hP hD hS hA (q0 := 0) rfl rfl rfl hl.1 rfl (Nat.le_of_ble_eq_true rfl) dX10_heaviest_23 ⟨Nat.zero_le _, Nat.zero_le _⟩ (fun r23 H locs h1 hP hS => ?_)
    refine lv_iconst (v := 2) hx hb dX10_heaviest_26 rfl ?_
    refine lv_icmp_ne (tgt := 56) hx hb dX10_heaviest_27 (by decide) (fun c27 => ?_) (fun c27 => ?_)
    · replace h1 := Ok.neg c27 h1
      exact tX10_heaviest_b56 K E k9 hk9 x1 x2 u H locs ls (lv_sub hl [0, 1, 2] rfl) hP hD hS h1
    · replace h1 := Ok.pos c27 h1
      refine lv_iload_n hx hb dX10_heaviest_30 rfl (lv_at hl 1 rfl) ?_
      refine lv_iconst (v := (-1)) hx hb dX10_heaviest_31 rfl ?_
      refine lv_icmp_eq (tgt := 50) hx hb dX10_heaviest_32 (by decide) (fun c32 => ?_) (fun c32 => ?_)
      · replace h1 := Ok.pos c32 h1
        exact tX10_heaviest_b50 K E k9 hk9 x2 u H locs ls (lv_sub hl [0, 2] rfl) hP hD hS h1
      · replace h1 := Ok.neg c32 h1
        refine lv_aload_n hx hb dX10_heaviest_35 rfl (lv_at hl 0 rfl) ?_
        refine lv_iload_n hx hb dX10_heaviest_36 rfl (lv_at hl 2 rfl) ?_
        refine lv_iconst (v := 1) hx hb dX10_heaviest_37 rfl ?_
        refine kc_rV (b := h) (As := [.int x2, .int 1]) (rest := []) h1 ⟨hx, hb, hml, hown, hts⟩ (cX10_ofCarM l D cy h (a 0) (mRest a u) H.size (mSt u) x2 1) (cwV 2 hts gX10_heaviest_X10_ofCar rfl rfl rfl hdX10_ofCar ⟨Nat.le_of_ble_eq_true rfl, Nat.le_of_ble_eq_true rfl⟩) hK (wM_split _ _ _ _) hP hD hS hA (q0 := 0) rfl rfl rfl hl.1 rfl (Nat.le_of_ble_eq_true rfl) dX10_heaviest_38 ⟨Nat.zero_le _, Nat.zero_le _⟩ (fun r38 H locs h1 hP hS => ?_)
        refine lv_aload_n hx hb dX10_heaviest_41 rfl (lv_at hl 0 rfl) ?_
        refine lv_iload_n hx hb dX10_heaviest_42 rfl (lv_at hl 1 rfl) ?_
        refine lv_iconst (v := 1) hx hb dX10_heaviest_43 rfl ?_
        refine kc_rV (b := h) (As := [.int x1, .int 1]) (rest := [.int r38]) h1 ⟨hx, hb, hml, hown, hts⟩ (cX10_ofCarM l D cy h (a 0) (mRest a u) H.size (mSt u) x1 1) (cwV 2 hts gX10_heaviest_X10_ofCar rfl rfl rfl hdX10_ofCar ⟨Nat.le_of_ble_eq_true rfl, Nat.le_of_ble_eq_true rfl⟩) hK (wM_split _ _ _ _) hP hD hS hA (q0 := 0) rfl rfl rfl hl.1 rfl (Nat.le_of_ble_eq_true rfl) dX10_heaviest_44 ⟨Nat.zero_le _, Nat.zero_le _⟩ (fun r44 H locs h1 hP hS => ?_)
        refine lv_icmp_le (tgt := 54) hx hb dX10_heaviest_47 (by decide) (fun c47 => ?_) (fun c47 => ?_)
        · replace h1 := Ok.pos c47 h1
          refine lv_iload_n hx hb dX10_heaviest_54 rfl (lv_at hl 1 rfl) ?_
          exact tX10_heaviest_b55 K E k9 hk9 x2 x1 u H locs ls (lv_sub hl [0, 2] rfl) hP hD hS h1
        · replace h1 := Ok.neg c47 h1
          exact tX10_heaviest_b50 K E k9 hk9 x2 u H locs ls (lv_sub hl [0, 2] rfl) hP hD hS h1
theorem tX10_heaviest_l9 {p : Program} {l : Launch} {e : Env} {s : State} {m : MethodId} {args : Array Value} {below : List Frame} {meth : Method} {c : Code} {D : va_G} {cy : Nat → ClassId} {A : Nat → Prop} {h : Nat} {a : Nat → Nat} (K : Int32 × RS → Prop) (E : mE D cy RX10 cX10_heaviest 3 (some .int) wsX10_heaviest A p s m args meth c) : ∀ (n9 : Nat) (x1 : Int32) (x2 : Int32) (u : RS) (H : Heap) (locs : List Loc) (ls : Array Slot), lv_has ls 3 [(0, .ref h), (1, .int x1), (2, .int x2)] → va_P D vwCl (wM cy h a u) H → va_D A (wM cy h a u) → va_S A s.heap H locs → Ok (lop (fun y z => fX10_heaviest_b9 y z.1 z.2.1 z.2.2) n9 (x1, x2, u)) K → kW p l e rmX10_heaviest s m args below meth c H locs (va_Qi (fun r q => K (r, q)) (fun q => kPost D A (wM cy h a q)) A) A 9 ls [] := by
  intro n9
  induction n9 with
  | zero =>
    intro x1 x2 u H locs ls hl hP hD hS h1
    exact h1.no
  | succ n9 ih =>
    intro x1 x2 u H locs ls hl hP hD hS h1
    exact tX10_heaviest_b9 K E (lop (fun y z => fX10_heaviest_b9 y z.1 z.2.1 z.2.2) n9) (fun x1 x2 u H locs ls hl hP hD hS h1 => ih x1 x2 u H locs ls hl hP hD hS h1) x1 x2 u H locs ls hl hP hD hS h1
def fX10_heaviest_b0 (u : RS) : Option (Int32 × RS) :=
  lop (fun y z => fX10_heaviest_b9 y z.1 z.2.1 z.2.2) LF ((-1), 0, nTh u 0)
set_option maxHeartbeats 4000000 in
set_option maxRecDepth 100000 in
theorem tX10_heaviest_b0 {p : Program} {l : Launch} {e : Env} {s : State} {m : MethodId} {args : Array Value} {below : List Frame} {meth : Method} {c : Code} {D : va_G} {cy : Nat → ClassId} {A : Nat → Prop} {h : Nat} {a : Nat → Nat} (K : Int32 × RS → Prop) (E : mE D cy RX10 cX10_heaviest 3 (some .int) wsX10_heaviest A p s m args meth c)
     (u : RS) (H : Heap) (locs : List Loc) (ls : Array Slot) (hl : lv_has ls 3 [(0, .ref h)]) (hP : va_P D vwCl (wM cy h a u) H) (hD : va_D A (wM cy h a u)) (hS : va_S A s.heap H locs) (h1 : Ok (fX10_heaviest_b0 u) K) :
    kW p l e rmX10_heaviest s m args below meth c H locs (va_Qi (fun r q => K (r, q)) (fun q => kPost D A (wM cy h a q)) A) A 0 ls [] := by
  obtain ⟨hx, hb, hr, hml, hown, hts, hlocks, hK, hA⟩ := id E
  unfold fX10_heaviest_b0 at h1
  refine lv_aload_n hx hb dX10_heaviest_0 rfl (lv_at hl 0 rfl) ?_
  refine lv_iconst (v := 0) hx hb dX10_heaviest_1 rfl ?_
  refine k_put (v := .int 0) (ty := .int) (C := RX10) (T := TX10) (N := 23) hx hb hts inX10_heaviest_X10 tyX10 tyX10_ok nmX10 hown hK hP hD hS 0 (wM_a0 _ _ _ _) rfl 8 (by decide) lkX10_heaviest_48 rfl (by decide +kernel) rfl rfl (Nat.le_of_ble_eq_true rfl) (ws' := wM cy h a (nTh u 0)) (wM_nTh _ _ _ _ _) dX10_heaviest_2 (fun H locs hP hD hS => ?_)
  refine lv_iconst (v := (-1)) hx hb dX10_heaviest_5 rfl ?_
  refine lv_istore_n (lv' := [(1, .int (-1)), (0, .ref h)]) hx hb dX10_heaviest_6 rfl hl (by decide) rfl (fun ls hl => ?_)
  refine lv_iconst (v := 0) hx hb dX10_heaviest_7 rfl ?_
  refine lv_istore_n (lv' := [(2, .int 0), (1, .int (-1)), (0, .ref h)]) hx hb dX10_heaviest_8 rfl hl (by decide) rfl (fun ls hl => ?_)
  exact tX10_heaviest_l9 K E LF (-1) 0 (nTh u 0) H locs ls (lv_sub hl [2, 1, 0] rfl) hP hD hS h1
def fX10_heaviest (u : RS) : Option (Int32 × RS) := fX10_heaviest_b0 u
set_option maxHeartbeats 4000000 in
set_option maxRecDepth 100000 in
theorem cX10_heaviestM (l : Launch) (D : va_G) (cy : Nat → ClassId) (h : Nat) (a : Nat → Nat) (sz : Nat) (u : RS) : ∀ (K : Int32 → RS → Prop), Ok (fX10_heaviest u) (fun q => K q.1 q.2) → Met l yX10_heaviest wsX10_heaviest rmX10_heaviest (va_Pc [.ref h] (kPre D cy sz (wM cy h a u))) (va_Qi K (fun q => kPost D (va_A (wM cy h a u) sz) (wM cy h a q)) (va_A (wM cy h a u) sz)) 0 0 (va_A (wM cy h a u) sz) := by
  intro K h1
  refine Met.ofW (cc := cX10_heaviest) (maxL := 3) (ret := (some .int)) (by decide) rfl ?_
  intro p e s m args below meth c s₁ B hml hv
  obtain ⟨rfl, hsz, hP, hK, hD0⟩ := hv
  subst hsz
  have E : mE D cy RX10 cX10_heaviest 3 (some .int) wsX10_heaviest (va_A (wM cy h a u) s.heap.size) p s m _ meth c := ⟨B.exec, B.bytes, B.returns, hml, findClass_of_methodNamed B.named, atoms_spec (ws := wsX10_heaviest) B.pre, B.notSynchronized, hK, fun q h => Or.inr h⟩
  have hl := lv_entry ([.ref h]) (n := 3) (Nat.le_of_ble_eq_true rfl)
  rw [lg_entry_eq]
  generalize (lg_sl ([.ref h]) ++ List.replicate (3 - (lg_sl ([.ref h])).length) Slot.unset).toArray = ls at hl ⊢
  exact tX10_heaviest_b0 (fun q => K q.1 q.2) E u _ _ _ hl hP hD0.self va_S.rf h1
-- X10_whyNot
theorem inX10_whyNot_X10 : ∀ w ∈ u_ws RX10 TX10 23, w ∈ wsX10_whyNot := k_lays 87 rfl
theorem lkX10_whyNot_48 : Cond.fieldLink RX10 48 "FerryRampModel" "thrown" "I" ∈ wsX10_whyNot := List.mem_of_getElem? (i := 1) rfl
abbrev rmX10_whyNot : Room := { frames := 7, cells := 0, slots := 0, locals := 158 }
def fX10_whyNot_b0 (x1 : Int32) (u : RS) : Option (Int32 × RS) :=
  bnd (fX10_isQueued x1 (mSt (nTh u 0))) (fun r7 => (if r7 = 0 then bnd2 (fX10_fail 1 (nTh u 0)) (fun r23 u23 => some (r23, u23)) else bnd (fX10_whyNotNow x1 (mSt (nTh u 0))) (fun r15 => some (r15, nTh u 0))))
set_option maxHeartbeats 4000000 in
set_option maxRecDepth 100000 in
theorem tX10_whyNot_b0 {p : Program} {l : Launch} {e : Env} {s : State} {m : MethodId} {args : Array Value} {below : List Frame} {meth : Method} {c : Code} {D : va_G} {cy : Nat → ClassId} {A : Nat → Prop} {h : Nat} {a : Nat → Nat} (K : Int32 × RS → Prop) (E : mE D cy RX10 cX10_whyNot 2 (some .int) wsX10_whyNot A p s m args meth c)
     (x1 : Int32) (u : RS) (H : Heap) (locs : List Loc) (ls : Array Slot) (hl : lv_has ls 2 [(0, .ref h), (1, .int x1)]) (hP : va_P D vwCl (wM cy h a u) H) (hD : va_D A (wM cy h a u)) (hS : va_S A s.heap H locs) (h1 : Ok (fX10_whyNot_b0 x1 u) K) :
    kW p l e rmX10_whyNot s m args below meth c H locs (va_Qi (fun r q => K (r, q)) (fun q => kPost D A (wM cy h a q)) A) A 0 ls [] := by
  obtain ⟨hx, hb, hr, hml, hown, hts, hlocks, hK, hA⟩ := id E
  unfold fX10_whyNot_b0 at h1
  refine lv_aload_n hx hb dX10_whyNot_0 rfl (lv_at hl 0 rfl) ?_
  refine lv_iconst (v := 0) hx hb dX10_whyNot_1 rfl ?_
  refine k_put (v := .int 0) (ty := .int) (C := RX10) (T := TX10) (N := 23) hx hb hts inX10_whyNot_X10 tyX10 tyX10_ok nmX10 hown hK hP hD hS 0 (wM_a0 _ _ _ _) rfl 8 (by decide) lkX10_whyNot_48 rfl (by decide +kernel) rfl rfl (Nat.le_of_ble_eq_true rfl) (ws' := wM cy h a (nTh u 0)) (wM_nTh _ _ _ _ _) dX10_whyNot_2 (fun H locs hP hD hS => ?_)
  refine lv_aload_n hx hb dX10_whyNot_5 rfl (lv_at hl 0 rfl) ?_
  refine lv_iload_n hx hb dX10_whyNot_6 rfl (lv_at hl 1 rfl) ?_
  refine kc_rV (b := h) (As := [.int x1]) (rest := []) h1 ⟨hx, hb, hml, hown, hts⟩ (cX10_isQueuedM l D cy h (a 0) (mRest a (nTh u 0)) H.size (mSt (nTh u 0)) x1) (cwV 1 hts gX10_whyNot_X10_isQueued rfl rfl rfl hdX10_isQueued ⟨Nat.le_of_ble_eq_true rfl, Nat.le_of_ble_eq_true rfl⟩) hK (wM_split _ _ _ _) hP hD hS hA (q0 := 0) rfl rfl rfl hl.1 rfl (Nat.le_of_ble_eq_true rfl) dX10_whyNot_7 ⟨Nat.zero_le _, Nat.zero_le _⟩ (fun r7 H locs h1 hP hS => ?_)
  refine lv_if_eq (tgt := 21) hx hb dX10_whyNot_10 (by decide) (fun c10 => ?_) (fun c10 => ?_)
  · replace h1 := Ok.pos c10 h1
    refine lv_aload_n hx hb dX10_whyNot_21 rfl (lv_at hl 0 rfl) ?_
    refine lv_iconst (v := 1) hx hb dX10_whyNot_22 rfl ?_
    refine kc_iV0 (b := h) (As := [.int 1]) (rest := []) h1 ⟨hx, hb, hml, hown, hts⟩ (cX10_failM l D cy h a H.size (nTh u 0) 1) (cwV 1 hts gX10_whyNot_X10_fail rfl rfl rfl hdX10_fail ⟨Nat.le_of_ble_eq_true rfl, Nat.le_of_ble_eq_true rfl⟩) hK hP hD hS hA (q0 := 0) rfl rfl rfl hl.1 rfl (Nat.le_of_ble_eq_true rfl) dX10_whyNot_23 ⟨Nat.zero_le _, Nat.zero_le _⟩ (fun r23 u23 H locs h1 hP hD hS => ?_)
    exact kret_i hx hb hr hlocks hP hD hS h1 dX10_whyNot_26
  · replace h1 := Ok.neg c10 h1
    refine lv_aload_n hx hb dX10_whyNot_13 rfl (lv_at hl 0 rfl) ?_
    refine lv_iload_n hx hb dX10_whyNot_14 rfl (lv_at hl 1 rfl) ?_
    refine kc_rV (b := h) (As := [.int x1]) (rest := []) h1 ⟨hx, hb, hml, hown, hts⟩ (cX10_whyNotNowM l D cy h (a 0) (mRest a (nTh u 0)) H.size (mSt (nTh u 0)) x1) (cwV 1 hts gX10_whyNot_X10_whyNotNow rfl rfl rfl hdX10_whyNotNow ⟨Nat.le_of_ble_eq_true rfl, Nat.le_of_ble_eq_true rfl⟩) hK (wM_split _ _ _ _) hP hD hS hA (q0 := 0) rfl rfl rfl hl.1 rfl (Nat.le_of_ble_eq_true rfl) dX10_whyNot_15 ⟨Nat.zero_le _, Nat.zero_le _⟩ (fun r15 H locs h1 hP hS => ?_)
    refine lv_goto (tgt := 26) hx hb dX10_whyNot_18 (by decide) ?_
    exact kret_i hx hb hr hlocks hP hD hS h1 dX10_whyNot_26
def fX10_whyNot (p1 : Int32) (u : RS) : Option (Int32 × RS) := fX10_whyNot_b0 p1 u
set_option maxHeartbeats 4000000 in
set_option maxRecDepth 100000 in
theorem cX10_whyNotM (l : Launch) (D : va_G) (cy : Nat → ClassId) (h : Nat) (a : Nat → Nat) (sz : Nat) (u : RS) (p1 : Int32) : ∀ (K : Int32 → RS → Prop), Ok (fX10_whyNot p1 u) (fun q => K q.1 q.2) → Met l yX10_whyNot wsX10_whyNot rmX10_whyNot (va_Pc [.ref h, .int p1] (kPre D cy sz (wM cy h a u))) (va_Qi K (fun q => kPost D (va_A (wM cy h a u) sz) (wM cy h a q)) (va_A (wM cy h a u) sz)) 0 0 (va_A (wM cy h a u) sz) := by
  intro K h1
  refine Met.ofW (cc := cX10_whyNot) (maxL := 2) (ret := (some .int)) (by decide) rfl ?_
  intro p e s m args below meth c s₁ B hml hv
  obtain ⟨rfl, hsz, hP, hK, hD0⟩ := hv
  subst hsz
  have E : mE D cy RX10 cX10_whyNot 2 (some .int) wsX10_whyNot (va_A (wM cy h a u) s.heap.size) p s m _ meth c := ⟨B.exec, B.bytes, B.returns, hml, findClass_of_methodNamed B.named, atoms_spec (ws := wsX10_whyNot) B.pre, B.notSynchronized, hK, fun q h => Or.inr h⟩
  have hl := lv_entry ([.ref h, .int p1]) (n := 2) (Nat.le_of_ble_eq_true rfl)
  rw [lg_entry_eq]
  generalize (lg_sl ([.ref h, .int p1]) ++ List.replicate (2 - (lg_sl ([.ref h, .int p1])).length) Slot.unset).toArray = ls at hl ⊢
  exact tX10_whyNot_b0 (fun q => K q.1 q.2) E p1 u _ _ _ hl hP hD0.self va_S.rf h1
-- X10_laneFor
theorem inX10_laneFor_X10 : ∀ w ∈ u_ws RX10 TX10 23, w ∈ wsX10_laneFor := k_lays 63 rfl
theorem lkX10_laneFor_48 : Cond.fieldLink RX10 48 "FerryRampModel" "thrown" "I" ∈ wsX10_laneFor := List.mem_of_getElem? (i := 1) rfl
abbrev rmX10_laneFor : Room := { frames := 6, cells := 0, slots := 0, locals := 137 }
def fX10_laneFor_b0 (x1 : Int32) (u : RS) : Option (Int32 × RS) :=
  bnd (fX10_isQueued x1 (mSt (nTh u 0))) (fun r7 => (if r7 = 0 then bnd2 (fX10_fail 1 (nTh u 0)) (fun r23 u23 => some (r23, u23)) else bnd (fX10_laneOf x1 (mSt (nTh u 0))) (fun r15 => some (r15, nTh u 0))))
set_option maxHeartbeats 4000000 in
set_option maxRecDepth 100000 in
theorem tX10_laneFor_b0 {p : Program} {l : Launch} {e : Env} {s : State} {m : MethodId} {args : Array Value} {below : List Frame} {meth : Method} {c : Code} {D : va_G} {cy : Nat → ClassId} {A : Nat → Prop} {h : Nat} {a : Nat → Nat} (K : Int32 × RS → Prop) (E : mE D cy RX10 cX10_laneFor 2 (some .int) wsX10_laneFor A p s m args meth c)
     (x1 : Int32) (u : RS) (H : Heap) (locs : List Loc) (ls : Array Slot) (hl : lv_has ls 2 [(0, .ref h), (1, .int x1)]) (hP : va_P D vwCl (wM cy h a u) H) (hD : va_D A (wM cy h a u)) (hS : va_S A s.heap H locs) (h1 : Ok (fX10_laneFor_b0 x1 u) K) :
    kW p l e rmX10_laneFor s m args below meth c H locs (va_Qi (fun r q => K (r, q)) (fun q => kPost D A (wM cy h a q)) A) A 0 ls [] := by
  obtain ⟨hx, hb, hr, hml, hown, hts, hlocks, hK, hA⟩ := id E
  unfold fX10_laneFor_b0 at h1
  refine lv_aload_n hx hb dX10_laneFor_0 rfl (lv_at hl 0 rfl) ?_
  refine lv_iconst (v := 0) hx hb dX10_laneFor_1 rfl ?_
  refine k_put (v := .int 0) (ty := .int) (C := RX10) (T := TX10) (N := 23) hx hb hts inX10_laneFor_X10 tyX10 tyX10_ok nmX10 hown hK hP hD hS 0 (wM_a0 _ _ _ _) rfl 8 (by decide) lkX10_laneFor_48 rfl (by decide +kernel) rfl rfl (Nat.le_of_ble_eq_true rfl) (ws' := wM cy h a (nTh u 0)) (wM_nTh _ _ _ _ _) dX10_laneFor_2 (fun H locs hP hD hS => ?_)
  refine lv_aload_n hx hb dX10_laneFor_5 rfl (lv_at hl 0 rfl) ?_
  refine lv_iload_n hx hb dX10_laneFor_6 rfl (lv_at hl 1 rfl) ?_
  refine kc_rV (b := h) (As := [.int x1]) (rest := []) h1 ⟨hx, hb, hml, hown, hts⟩ (cX10_isQueuedM l D cy h (a 0) (mRest a (nTh u 0)) H.size (mSt (nTh u 0)) x1) (cwV 1 hts gX10_laneFor_X10_isQueued rfl rfl rfl hdX10_isQueued ⟨Nat.le_of_ble_eq_true rfl, Nat.le_of_ble_eq_true rfl⟩) hK (wM_split _ _ _ _) hP hD hS hA (q0 := 0) rfl rfl rfl hl.1 rfl (Nat.le_of_ble_eq_true rfl) dX10_laneFor_7 ⟨Nat.zero_le _, Nat.zero_le _⟩ (fun r7 H locs h1 hP hS => ?_)
  refine lv_if_eq (tgt := 21) hx hb dX10_laneFor_10 (by decide) (fun c10 => ?_) (fun c10 => ?_)
  · replace h1 := Ok.pos c10 h1
    refine lv_aload_n hx hb dX10_laneFor_21 rfl (lv_at hl 0 rfl) ?_
    refine lv_iconst (v := 1) hx hb dX10_laneFor_22 rfl ?_
    refine kc_iV0 (b := h) (As := [.int 1]) (rest := []) h1 ⟨hx, hb, hml, hown, hts⟩ (cX10_failM l D cy h a H.size (nTh u 0) 1) (cwV 1 hts gX10_laneFor_X10_fail rfl rfl rfl hdX10_fail ⟨Nat.le_of_ble_eq_true rfl, Nat.le_of_ble_eq_true rfl⟩) hK hP hD hS hA (q0 := 0) rfl rfl rfl hl.1 rfl (Nat.le_of_ble_eq_true rfl) dX10_laneFor_23 ⟨Nat.zero_le _, Nat.zero_le _⟩ (fun r23 u23 H locs h1 hP hD hS => ?_)
    exact kret_i hx hb hr hlocks hP hD hS h1 dX10_laneFor_26
  · replace h1 := Ok.neg c10 h1
    refine lv_aload_n hx hb dX10_laneFor_13 rfl (lv_at hl 0 rfl) ?_
    refine lv_iload_n hx hb dX10_laneFor_14 rfl (lv_at hl 1 rfl) ?_
    refine kc_rV (b := h) (As := [.int x1]) (rest := []) h1 ⟨hx, hb, hml, hown, hts⟩ (cX10_laneOfM l D cy h (a 0) (mRest a (nTh u 0)) H.size (mSt (nTh u 0)) x1) (cwV 1 hts gX10_laneFor_X10_laneOf rfl rfl rfl hdX10_laneOf ⟨Nat.le_of_ble_eq_true rfl, Nat.le_of_ble_eq_true rfl⟩) hK (wM_split _ _ _ _) hP hD hS hA (q0 := 0) rfl rfl rfl hl.1 rfl (Nat.le_of_ble_eq_true rfl) dX10_laneFor_15 ⟨Nat.zero_le _, Nat.zero_le _⟩ (fun r15 H locs h1 hP hS => ?_)
    refine lv_goto (tgt := 26) hx hb dX10_laneFor_18 (by decide) ?_
    exact kret_i hx hb hr hlocks hP hD hS h1 dX10_laneFor_26
def fX10_laneFor (p1 : Int32) (u : RS) : Option (Int32 × RS) := fX10_laneFor_b0 p1 u
set_option maxHeartbeats 4000000 in
set_option maxRecDepth 100000 in
theorem cX10_laneForM (l : Launch) (D : va_G) (cy : Nat → ClassId) (h : Nat) (a : Nat → Nat) (sz : Nat) (u : RS) (p1 : Int32) : ∀ (K : Int32 → RS → Prop), Ok (fX10_laneFor p1 u) (fun q => K q.1 q.2) → Met l yX10_laneFor wsX10_laneFor rmX10_laneFor (va_Pc [.ref h, .int p1] (kPre D cy sz (wM cy h a u))) (va_Qi K (fun q => kPost D (va_A (wM cy h a u) sz) (wM cy h a q)) (va_A (wM cy h a u) sz)) 0 0 (va_A (wM cy h a u) sz) := by
  intro K h1
  refine Met.ofW (cc := cX10_laneFor) (maxL := 2) (ret := (some .int)) (by decide) rfl ?_
  intro p e s m args below meth c s₁ B hml hv
  obtain ⟨rfl, hsz, hP, hK, hD0⟩ := hv
  subst hsz
  have E : mE D cy RX10 cX10_laneFor 2 (some .int) wsX10_laneFor (va_A (wM cy h a u) s.heap.size) p s m _ meth c := ⟨B.exec, B.bytes, B.returns, hml, findClass_of_methodNamed B.named, atoms_spec (ws := wsX10_laneFor) B.pre, B.notSynchronized, hK, fun q h => Or.inr h⟩
  have hl := lv_entry ([.ref h, .int p1]) (n := 2) (Nat.le_of_ble_eq_true rfl)
  rw [lg_entry_eq]
  generalize (lg_sl ([.ref h, .int p1]) ++ List.replicate (2 - (lg_sl ([.ref h, .int p1])).length) Slot.unset).toArray = ls at hl ⊢
  exact tX10_laneFor_b0 (fun q => K q.1 q.2) E p1 u _ _ _ hl hP hD0.self va_S.rf h1
-- X10_startIn
theorem inX10_startIn_X10 : ∀ w ∈ u_ws RX10 TX10 23, w ∈ wsX10_startIn := k_lays 126 rfl
theorem lkX10_startIn_48 : Cond.fieldLink RX10 48 "FerryRampModel" "thrown" "I" ∈ wsX10_startIn := List.mem_of_getElem? (i := 1) rfl
theorem lkX10_startIn_7 : Cond.fieldLink RX10 7 "FerryRampModel" "state" "[I" ∈ wsX10_startIn := List.mem_of_getElem? (i := 2) rfl
theorem lkX10_startIn_13 : Cond.fieldLink RX10 13 "FerryRampModel" "aside" "[I" ∈ wsX10_startIn := List.mem_of_getElem? (i := 3) rfl
theorem hdX10_begun : yX10_begun.cls = RX10 ∧ yX10_begun.cls ≠ "java/lang/invoke/MethodHandle" ∧ yX10_begun.cls ≠ "java/lang/invoke/VarHandle" ∧ (parseMethodDescriptor yX10_begun.desc).map (fun d => d.parameters.length) = some 0 := by decide +kernel
abbrev rmX10_startIn : Room := { frames := 10, cells := 0, slots := 0, locals := 224 }
def fX10_startIn_b63 (x2 : Int32) (s0 : Int32) (u : RS) : Option (Int32 × RS) :=
  bnd (fX10_copy 0 0 561 (mAs u) 561 (mSt u)) (fun u74 => (if s0 = 0 then some ((-1), nStA u u74) else some (x2, nStA u u74)))
set_option maxHeartbeats 4000000 in
set_option maxRecDepth 100000 in
theorem tX10_startIn_b63 {p : Program} {l : Launch} {e : Env} {s : State} {m : MethodId} {args : Array Value} {below : List Frame} {meth : Method} {c : Code} {D : va_G} {cy : Nat → ClassId} {A : Nat → Prop} {h : Nat} {a : Nat → Nat} (K : Int32 × RS → Prop) (E : mE D cy RX10 cX10_startIn 4 (some .int) wsX10_startIn A p s m args meth c)
     (x2 : Int32) (s0 : Int32) (u : RS) (H : Heap) (locs : List Loc) (ls : Array Slot) (hl : lv_has ls 4 [(0, .ref h), (2, .int x2)]) (hP : va_P D vwCl (wM cy h a u) H) (hD : va_D A (wM cy h a u)) (hS : va_S A s.heap H locs) (h1 : Ok (fX10_startIn_b63 x2 s0 u) K) :
    kW p l e rmX10_startIn s m args below meth c H locs (va_Qi (fun r q => K (r, q)) (fun q => kPost D A (wM cy h a q)) A) A 63 ls [.int s0] := by
  obtain ⟨hx, hb, hr, hml, hown, hts, hlocks, hK, hA⟩ := id E
  unfold fX10_startIn_b63 at h1
  refine lv_istore_n (lv' := [(3, .int s0), (0, .ref h), (2, .int x2)]) hx hb dX10_startIn_63 rfl hl (by decide) rfl (fun ls hl => ?_)
  refine lv_aload_n hx hb dX10_startIn_64 rfl (lv_at hl 1 rfl) ?_
  refine k_get (v := .ref (a 1)) (C := RX10) (T := TX10) (N := 23) hx hb hts inX10_startIn_X10 hown hK hP 0 (wM_a0 _ _ _ _) rfl 1 (by decide) lkX10_startIn_13 (mFs_1 _ _) dX10_startIn_65 ?_
  refine lv_iconst (v := 0) hx hb dX10_startIn_68 rfl ?_
  refine lv_aload_n hx hb dX10_startIn_69 rfl (lv_at hl 1 rfl) ?_
  refine k_get (v := .ref (a 0)) (C := RX10) (T := TX10) (N := 23) hx hb hts inX10_startIn_X10 hown hK hP 0 (wM_a0 _ _ _ _) rfl 0 (by decide) lkX10_startIn_7 (mFs_0 _ _) dX10_startIn_70 ?_
  refine lv_iconst (v := 0) hx hb dX10_startIn_73 rfl ?_
  refine kc_vS (As := [.ref (a 1), .int 0, .ref (a 0), .int 0]) (rest := []) h1 ⟨hx, hb, hml, hown, hts⟩ (cX10_copyM l D cy (a 1) (a 0) H.size 561 (mAs u) 561 (mSt u) 0 0) (va_cwS 4 hts gX10_startIn_X10_copy rfl rfl rfl heX10_copy ⟨Nat.le_of_ble_eq_true rfl, Nat.le_of_ble_eq_true rfl⟩) hK (k_pick2 (i := 2) (j := 1) rfl rfl) hP hD hS hA rfl hl.1 rfl (Nat.le_of_ble_eq_true rfl) dX10_startIn_74 ⟨Nat.zero_le _, Nat.zero_le _⟩ (fun u74 H locs h1 hP hD hS => ?_)
  replace hP := kP_perm (k_pick2 (l := wM cy h a (nStA u u74)) (i := 2) (j := 1) rfl rfl).symm hP
  replace hD := kD_perm (k_pick2 (l := wM cy h a (nStA u u74)) (i := 2) (j := 1) rfl rfl).symm hD
  refine lv_iload_n hx hb dX10_startIn_77 rfl (lv_at hl 0 rfl) ?_
  refine lv_if_eq (tgt := 85) hx hb dX10_startIn_78 (by decide) (fun c78 => ?_) (fun c78 => ?_)
  · replace h1 := Ok.pos c78 h1
    refine lv_iconst (v := (-1)) hx hb dX10_startIn_85 rfl ?_
    exact kret_i hx hb hr hlocks hP hD hS h1 dX10_startIn_86
  · replace h1 := Ok.neg c78 h1
    refine lv_iload_n hx hb dX10_startIn_81 rfl (lv_at hl 2 rfl) ?_
    refine lv_goto (tgt := 86) hx hb dX10_startIn_82 (by decide) ?_
    exact kret_i hx hb hr hlocks hP hD hS h1 dX10_startIn_86
def fX10_startIn_b50 (x1 : Int32) (x2 : Int32) (u : RS) : Option (Int32 × RS) :=
  bnd (fX10_begun (mSt u)) (fun r51 => (if r51 ≤ x1 then fX10_startIn_b63 x2 0 u else fX10_startIn_b63 x2 1 u))
set_option maxHeartbeats 4000000 in
set_option maxRecDepth 100000 in
theorem tX10_startIn_b50 {p : Program} {l : Launch} {e : Env} {s : State} {m : MethodId} {args : Array Value} {below : List Frame} {meth : Method} {c : Code} {D : va_G} {cy : Nat → ClassId} {A : Nat → Prop} {h : Nat} {a : Nat → Nat} (K : Int32 × RS → Prop) (E : mE D cy RX10 cX10_startIn 4 (some .int) wsX10_startIn A p s m args meth c)
     (x1 : Int32) (x2 : Int32) (u : RS) (H : Heap) (locs : List Loc) (ls : Array Slot) (hl : lv_has ls 4 [(0, .ref h), (1, .int x1), (2, .int x2)]) (hP : va_P D vwCl (wM cy h a u) H) (hD : va_D A (wM cy h a u)) (hS : va_S A s.heap H locs) (h1 : Ok (fX10_startIn_b50 x1 x2 u) K) :
    kW p l e rmX10_startIn s m args below meth c H locs (va_Qi (fun r q => K (r, q)) (fun q => kPost D A (wM cy h a q)) A) A 50 ls [] := by
  obtain ⟨hx, hb, hr, hml, hown, hts, hlocks, hK, hA⟩ := id E
  unfold fX10_startIn_b50 at h1
  refine lv_aload_n hx hb dX10_startIn_50 rfl (lv_at hl 0 rfl) ?_
  refine kc_rV (b := h) (As := []) (rest := []) h1 ⟨hx, hb, hml, hown, hts⟩ (cX10_begunM l D cy h (a 0) (mRest a u) H.size (mSt u)) (cwV 0 hts gX10_startIn_X10_begun rfl rfl rfl hdX10_begun ⟨Nat.le_of_ble_eq_true rfl, Nat.le_of_ble_eq_true rfl⟩) hK (wM_split _ _ _ _) hP hD hS hA (q0 := 0) rfl rfl rfl hl.1 rfl (Nat.le_of_ble_eq_true rfl) dX10_startIn_51 ⟨Nat.zero_le _, Nat.zero_le _⟩ (fun r51 H locs h1 hP hS => ?_)
  refine lv_iload_n hx hb dX10_startIn_54 rfl (lv_at hl 1 rfl) ?_
  refine lv_icmp_le (tgt := 62) hx hb dX10_startIn_55 (by decide) (fun c55 => ?_) (fun c55 => ?_)
  · replace h1 := Ok.pos c55 h1
    refine lv_iconst (v := 0) hx hb dX10_startIn_62 rfl ?_
    exact tX10_startIn_b63 K E x2 0 u H locs ls (lv_sub hl [0, 2] rfl) hP hD hS h1
  · replace h1 := Ok.neg c55 h1
    refine lv_iconst (v := 1) hx hb dX10_startIn_58 rfl ?_
    refine lv_goto (tgt := 63) hx hb dX10_startIn_59 (by decide) ?_
    exact tX10_startIn_b63 K E x2 1 u H locs ls (lv_sub hl [0, 2] rfl) hP hD hS h1
def fX10_startIn_b25 (k25 : Int32 × Int32 × RS → Option (Int32 × RS)) (x1 : Int32) (x2 : Int32) (u : RS) : Option (Int32 × RS) :=
  (if 200 ≤ x2 then fX10_startIn_b50 x1 x2 u else bnd (fX10_begun (mSt u)) (fun r33 => (if r33 = x1 then bnd (fX10_tickOnce (mSt u)) (fun u41 => k25 (x1, x2 + 1, nStA u u41)) else fX10_startIn_b50 x1 x2 u)))
set_option maxHeartbeats 4000000 in
set_option maxRecDepth 100000 in
theorem tX10_startIn_b25 {p : Program} {l : Launch} {e : Env} {s : State} {m : MethodId} {args : Array Value} {below : List Frame} {meth : Method} {c : Code} {D : va_G} {cy : Nat → ClassId} {A : Nat → Prop} {h : Nat} {a : Nat → Nat} (K : Int32 × RS → Prop) (E : mE D cy RX10 cX10_startIn 4 (some .int) wsX10_startIn A p s m args meth c)
    (k25 : Int32 × Int32 × RS → Option (Int32 × RS)) (hk25 : ∀ (x1 : Int32) (x2 : Int32) (u : RS) (H : Heap) (locs : List Loc) (ls : Array Slot), lv_has ls 4 [(0, .ref h), (1, .int x1), (2, .int x2)] → va_P D vwCl (wM cy h a u) H → va_D A (wM cy h a u) → va_S A s.heap H locs → Ok (k25 (x1, x2, u)) K → kW p l e rmX10_startIn s m args below meth c H locs (va_Qi (fun r q => K (r, q)) (fun q => kPost D A (wM cy h a q)) A) A 25 ls [])
     (x1 : Int32) (x2 : Int32) (u : RS) (H : Heap) (locs : List Loc) (ls : Array Slot) (hl : lv_has ls 4 [(0, .ref h), (1, .int x1), (2, .int x2)]) (hP : va_P D vwCl (wM cy h a u) H) (hD : va_D A (wM cy h a u)) (hS : va_S A s.heap H locs) (h1 : Ok (fX10_startIn_b25 k25 x1 x2 u) K) :
    kW p l e rmX10_startIn s m args below meth c H locs (va_Qi (fun r q => K (r, q)) (fun q => kPost D A (wM cy h a q)) A) A 25 ls [] := by
  obtain ⟨hx, hb, hr, hml, hown, hts, hlocks, hK, hA⟩ := id E
  unfold fX10_startIn_b25 at h1
  refine lv_iload_n hx hb dX10_startIn_25 rfl (lv_at hl 2 rfl) ?_
  refine lv_sipush (v := 200) hx hb dX10_startIn_26 rfl ?_
  refine lv_icmp_ge (tgt := 50) hx hb dX10_startIn_29 (by decide) (fun c29 => ?_) (fun c29 => ?_)
  · replace h1 := Ok.pos c29 h1
    exact tX10_startIn_b50 K E x1 x2 u H locs ls (lv_sub hl [0, 1, 2] rfl) hP hD hS h1
  · replace h1 := Ok.neg c29 h1
    refine lv_aload_n hx hb dX10_startIn_32 rfl (lv_at hl 0 rfl) ?_
    refine kc_rV (b := h) (As := []) (rest := []) h1 ⟨hx, hb, hml, hown, hts⟩ (cX10_begunM l D cy h (a 0) (mRest a u) H.size (mSt u)) (cwV 0 hts gX10_startIn_X10_begun rfl rfl rfl hdX10_begun ⟨Nat.le_of_ble_eq_true rfl, Nat.le_of_ble_eq_true rfl⟩) hK (wM_split _ _ _ _) hP hD hS hA (q0 := 0) rfl rfl rfl hl.1 rfl (Nat.le_of_ble_eq_true rfl) dX10_startIn_33 ⟨Nat.zero_le _, Nat.zero_le _⟩ (fun r33 H locs h1 hP hS => ?_)
    refine lv_iload_n hx hb dX10_startIn_36 rfl (lv_at hl 1 rfl) ?_
    refine lv_icmp_ne (tgt := 50) hx hb dX10_startIn_37 (by decide) (fun c37 => ?_) (fun c37 => ?_)
    · replace h1 := Ok.neg c37 h1
      exact tX10_startIn_b50 K E x1 x2 u H locs ls (lv_sub hl [0, 1, 2] rfl) hP hD hS h1
    · replace h1 := Ok.pos c37 h1
      refine lv_aload_n hx hb dX10_startIn_40 rfl (lv_at hl 0 rfl) ?_
      refine kc_vV (b := h) (As := []) (rest := []) h1 ⟨hx, hb, hml, hown, hts⟩ (cX10_tickOnceM l D cy h (a 0) (mRest a u) H.size (mSt u)) (cwV 0 hts gX10_startIn_X10_tickOnce rfl rfl rfl hdX10_tickOnce ⟨Nat.le_of_ble_eq_true rfl, Nat.le_of_ble_eq_true rfl⟩) hK (wM_split _ _ _ _) hP hD hS hA (q0 := 0) rfl rfl rfl hl.1 rfl (Nat.le_of_ble_eq_true rfl) dX10_startIn_41 ⟨Nat.zero_le _, Nat.zero_le _⟩ (fun u41 H locs h1 hP hD hS => ?_)
      rw [wM_back] at hP hD
      refine lv_iinc (v := x2 + 1) (lv' := [(2, .int (x2 + 1)), (0, .ref h), (1, .int x1)]) hx hb dX10_startIn_44 hl (k := 2) rfl rfl (by decide) rfl (fun ls hl => ?_)
      refine lv_goto (tgt := 25) hx hb dX10_startIn_47 (by decide) ?_
      exact hk25 x1 (x2 + 1) (nStA u u41) H locs ls (lv_sub hl [1, 2, 0] rfl) hP hD hS h1
theorem tX10_startIn_l25 {p : Program} {l : Launch} {e : Env} {s : State} {m : MethodId} {args : Array Value} {below : List Frame} {meth : Method} {c : Code} {D : va_G} {cy : Nat → ClassId} {A : Nat → Prop} {h : Nat} {a : Nat → Nat} (K : Int32 × RS → Prop) (E : mE D cy RX10 cX10_startIn 4 (some .int) wsX10_startIn A p s m args meth c) : ∀ (n9 : Nat) (x1 : Int32) (x2 : Int32) (u : RS) (H : Heap) (locs : List Loc) (ls : Array Slot), lv_has ls 4 [(0, .ref h), (1, .int x1), (2, .int x2)] → va_P D vwCl (wM cy h a u) H → va_D A (wM cy h a u) → va_S A s.heap H locs → Ok (lop (fun y z => fX10_startIn_b25 y z.1 z.2.1 z.2.2) n9 (x1, x2, u)) K → kW p l e rmX10_startIn s m args below meth c H locs (va_Qi (fun r q => K (r, q)) (fun q => kPost D A (wM cy h a q)) A) A 25 ls [] := by
  intro n9
  induction n9 with
  | zero =>
    intro x1 x2 u H locs ls hl hP hD hS h1
    exact h1.no
  | succ n9 ih =>
    intro x1 x2 u H locs ls hl hP hD hS h1
    exact tX10_startIn_b25 K E (lop (fun y z => fX10_startIn_b25 y z.1 z.2.1 z.2.2) n9) (fun x1 x2 u H locs ls hl hP hD hS h1 => ih x1 x2 u H locs ls hl hP hD hS h1) x1 x2 u H locs ls hl hP hD hS h1
def fX10_startIn_b0 (u : RS) : Option (Int32 × RS) :=
  bnd (fX10_copy 0 0 561 (mSt (nTh u 0)) 561 (mAs (nTh u 0))) (fun u15 => bnd (fX10_begun (mSt (nAsA (nTh u 0) u15))) (fun r19 => lop (fun y z => fX10_startIn_b25 y z.1 z.2.1 z.2.2) LF (r19, 0, nAsA (nTh u 0) u15)))
set_option maxHeartbeats 4000000 in
set_option maxRecDepth 100000 in
theorem tX10_startIn_b0 {p : Program} {l : Launch} {e : Env} {s : State} {m : MethodId} {args : Array Value} {below : List Frame} {meth : Method} {c : Code} {D : va_G} {cy : Nat → ClassId} {A : Nat → Prop} {h : Nat} {a : Nat → Nat} (K : Int32 × RS → Prop) (E : mE D cy RX10 cX10_startIn 4 (some .int) wsX10_startIn A p s m args meth c)
     (u : RS) (H : Heap) (locs : List Loc) (ls : Array Slot) (hl : lv_has ls 4 [(0, .ref h)]) (hP : va_P D vwCl (wM cy h a u) H) (hD : va_D A (wM cy h a u)) (hS : va_S A s.heap H locs) (h1 : Ok (fX10_startIn_b0 u) K) :
    kW p l e rmX10_startIn s m args below meth c H locs (va_Qi (fun r q => K (r, q)) (fun q => kPost D A (wM cy h a q)) A) A 0 ls [] := by
  obtain ⟨hx, hb, hr, hml, hown, hts, hlocks, hK, hA⟩ := id E
  unfold fX10_startIn_b0 at h1
  refine lv_aload_n hx hb dX10_startIn_0 rfl (lv_at hl 0 rfl) ?_
  refine lv_iconst (v := 0) hx hb dX10_startIn_1 rfl ?_
  refine k_put (v := .int 0) (ty := .int) (C := RX10) (T := TX10) (N := 23) hx hb hts inX10_startIn_X10 tyX10 tyX10_ok nmX10 hown hK hP hD hS 0 (wM_a0 _ _ _ _) rfl 8 (by decide) lkX10_startIn_48 rfl (by decide +kernel) rfl rfl (Nat.le_of_ble_eq_true rfl) (ws' := wM cy h a (nTh u 0)) (wM_nTh _ _ _ _ _) dX10_startIn_2 (fun H locs hP hD hS => ?_)
  refine lv_aload_n hx hb dX10_startIn_5 rfl (lv_at hl 0 rfl) ?_
  refine k_get (v := .ref (a 0)) (C := RX10) (T := TX10) (N := 23) hx hb hts inX10_startIn_X10 hown hK hP 0 (wM_a0 _ _ _ _) rfl 0 (by decide) lkX10_startIn_7 (mFs_0 _ _) dX10_startIn_6 ?_
  refine lv_iconst (v := 0) hx hb dX10_startIn_9 rfl ?_
  refine lv_aload_n hx hb dX10_startIn_10 rfl (lv_at hl 0 rfl) ?_
  refine k_get (v := .ref (a 1)) (C := RX10) (T := TX10) (N := 23) hx hb hts inX10_startIn_X10 hown hK hP 0 (wM_a0 _ _ _ _) rfl 1 (by decide) lkX10_startIn_13 (mFs_1 _ _) dX10_startIn_11 ?_
  refine lv_iconst (v := 0) hx hb dX10_startIn_14 rfl ?_
  refine kc_vS (As := [.ref (a 0), .int 0, .ref (a 1), .int 0]) (rest := []) h1 ⟨hx, hb, hml, hown, hts⟩ (cX10_copyM l D cy (a 0) (a 1) H.size 561 (mSt (nTh u 0)) 561 (mAs (nTh u 0)) 0 0) (va_cwS 4 hts gX10_startIn_X10_copy rfl rfl rfl heX10_copy ⟨Nat.le_of_ble_eq_true rfl, Nat.le_of_ble_eq_true rfl⟩) hK (k_pick2 (i := 1) (j := 1) rfl rfl) hP hD hS hA rfl hl.1 rfl (Nat.le_of_ble_eq_true rfl) dX10_startIn_15 ⟨Nat.zero_le _, Nat.zero_le _⟩ (fun u15 H locs h1 hP hD hS => ?_)
  replace hP := kP_perm (k_pick2 (l := wM cy h a (nAsA (nTh u 0) u15)) (i := 1) (j := 1) rfl rfl).symm hP
  replace hD := kD_perm (k_pick2 (l := wM cy h a (nAsA (nTh u 0) u15)) (i := 1) (j := 1) rfl rfl).symm hD
  refine lv_aload_n hx hb dX10_startIn_18 rfl (lv_at hl 0 rfl) ?_
  refine kc_rV (b := h) (As := []) (rest := []) h1 ⟨hx, hb, hml, hown, hts⟩ (cX10_begunM l D cy h (a 0) (mRest a (nAsA (nTh u 0) u15)) H.size (mSt (nAsA (nTh u 0) u15))) (cwV 0 hts gX10_startIn_X10_begun rfl rfl rfl hdX10_begun ⟨Nat.le_of_ble_eq_true rfl, Nat.le_of_ble_eq_true rfl⟩) hK (wM_split _ _ _ _) hP hD hS hA (q0 := 0) rfl rfl rfl hl.1 rfl (Nat.le_of_ble_eq_true rfl) dX10_startIn_19 ⟨Nat.zero_le _, Nat.zero_le _⟩ (fun r19 H locs h1 hP hS => ?_)
  refine lv_istore_n (lv' := [(1, .int r19), (0, .ref h)]) hx hb dX10_startIn_22 rfl hl (by decide) rfl (fun ls hl => ?_)
  refine lv_iconst (v := 0) hx hb dX10_startIn_23 rfl ?_
  refine lv_istore_n (lv' := [(2, .int 0), (1, .int r19), (0, .ref h)]) hx hb dX10_startIn_24 rfl hl (by decide) rfl (fun ls hl => ?_)
  exact tX10_startIn_l25 K E LF r19 0 (nAsA (nTh u 0) u15) H locs ls (lv_sub hl [2, 1, 0] rfl) hP hD hS h1
def fX10_startIn (u : RS) : Option (Int32 × RS) := fX10_startIn_b0 u
set_option maxHeartbeats 4000000 in
set_option maxRecDepth 100000 in
theorem cX10_startInM (l : Launch) (D : va_G) (cy : Nat → ClassId) (h : Nat) (a : Nat → Nat) (sz : Nat) (u : RS) : ∀ (K : Int32 → RS → Prop), Ok (fX10_startIn u) (fun q => K q.1 q.2) → Met l yX10_startIn wsX10_startIn rmX10_startIn (va_Pc [.ref h] (kPre D cy sz (wM cy h a u))) (va_Qi K (fun q => kPost D (va_A (wM cy h a u) sz) (wM cy h a q)) (va_A (wM cy h a u) sz)) 0 0 (va_A (wM cy h a u) sz) := by
  intro K h1
  refine Met.ofW (cc := cX10_startIn) (maxL := 4) (ret := (some .int)) (by decide) rfl ?_
  intro p e s m args below meth c s₁ B hml hv
  obtain ⟨rfl, hsz, hP, hK, hD0⟩ := hv
  subst hsz
  have E : mE D cy RX10 cX10_startIn 4 (some .int) wsX10_startIn (va_A (wM cy h a u) s.heap.size) p s m _ meth c := ⟨B.exec, B.bytes, B.returns, hml, findClass_of_methodNamed B.named, atoms_spec (ws := wsX10_startIn) B.pre, B.notSynchronized, hK, fun q h => Or.inr h⟩
  have hl := lv_entry ([.ref h]) (n := 4) (Nat.le_of_ble_eq_true rfl)
  rw [lg_entry_eq]
  generalize (lg_sl ([.ref h]) ++ List.replicate (4 - (lg_sl ([.ref h])).length) Slot.unset).toArray = ls at hl ⊢
  exact tX10_startIn_b0 (fun q => K q.1 q.2) E u _ _ _ hl hP hD0.self va_S.rf h1
-- X10_boardIn
theorem inX10_boardIn_X10 : ∀ w ∈ u_ws RX10 TX10 23, w ∈ wsX10_boardIn := k_lays 133 rfl
theorem lkX10_boardIn_48 : Cond.fieldLink RX10 48 "FerryRampModel" "thrown" "I" ∈ wsX10_boardIn := List.mem_of_getElem? (i := 1) rfl
theorem lkX10_boardIn_7 : Cond.fieldLink RX10 7 "FerryRampModel" "state" "[I" ∈ wsX10_boardIn := List.mem_of_getElem? (i := 2) rfl
theorem lkX10_boardIn_13 : Cond.fieldLink RX10 13 "FerryRampModel" "aside" "[I" ∈ wsX10_boardIn := List.mem_of_getElem? (i := 3) rfl
abbrev rmX10_boardIn : Room := { frames := 11, cells := 0, slots := 0, locals := 247 }
def fX10_boardIn_b0 (x1 : Int32) (u : RS) : Option (Int32 × RS) :=
  bnd (fX10_isBetween x1 1 200) (fun r10 => (if r10 = 0 then bnd2 (fX10_fail 1 (nTh u 0)) (fun r18 u18 => some (r18, u18)) else bnd (fX10_copy 0 0 561 (mSt (nTh u 0)) 561 (mAs (nTh u 0))) (fun u32 => bnd2 (fX10_tickMany x1 (mSt (nAsA (nTh u 0) u32))) (fun r37 u37 => bnd (fX10_copy 0 0 561 (mAs (nStA (nAsA (nTh u 0) u32) u37)) 561 (mSt (nStA (nAsA (nTh u 0) u32) u37))) (fun u51 => some (r37, nStA (nStA (nAsA (nTh u 0) u32) u37) u51))))))
set_option maxHeartbeats 4000000 in
set_option maxRecDepth 100000 in
theorem tX10_boardIn_b0 {p : Program} {l : Launch} {e : Env} {s : State} {m : MethodId} {args : Array Value} {below : List Frame} {meth : Method} {c : Code} {D : va_G} {cy : Nat → ClassId} {A : Nat → Prop} {h : Nat} {a : Nat → Nat} (K : Int32 × RS → Prop) (E : mE D cy RX10 cX10_boardIn 3 (some .int) wsX10_boardIn A p s m args meth c)
     (x1 : Int32) (u : RS) (H : Heap) (locs : List Loc) (ls : Array Slot) (hl : lv_has ls 3 [(0, .ref h), (1, .int x1)]) (hP : va_P D vwCl (wM cy h a u) H) (hD : va_D A (wM cy h a u)) (hS : va_S A s.heap H locs) (h1 : Ok (fX10_boardIn_b0 x1 u) K) :
    kW p l e rmX10_boardIn s m args below meth c H locs (va_Qi (fun r q => K (r, q)) (fun q => kPost D A (wM cy h a q)) A) A 0 ls [] := by
  obtain ⟨hx, hb, hr, hml, hown, hts, hlocks, hK, hA⟩ := id E
  unfold fX10_boardIn_b0 at h1
  refine lv_aload_n hx hb dX10_boardIn_0 rfl (lv_at hl 0 rfl) ?_
  refine lv_iconst (v := 0) hx hb dX10_boardIn_1 rfl ?_
  refine k_put (v := .int 0) (ty := .int) (C := RX10) (T := TX10) (N := 23) hx hb hts inX10_boardIn_X10 tyX10 tyX10_ok nmX10 hown hK hP hD hS 0 (wM_a0 _ _ _ _) rfl 8 (by decide) lkX10_boardIn_48 rfl (by decide +kernel) rfl rfl (Nat.le_of_ble_eq_true rfl) (ws' := wM cy h a (nTh u 0)) (wM_nTh _ _ _ _ _) dX10_boardIn_2 (fun H locs hP hD hS => ?_)
  refine lv_iload_n hx hb dX10_boardIn_5 rfl (lv_at hl 1 rfl) ?_
  refine lv_iconst (v := 1) hx hb dX10_boardIn_6 rfl ?_
  refine lv_sipush (v := 200) hx hb dX10_boardIn_7 rfl ?_
  refine kc_rS (As := [.int x1, .int 1, .int 200]) (rest := []) (wc := []) (wr := _) h1 ⟨hx, hb, hml, hown, hts⟩ (cX10_isBetweenM l D cy H.size x1 1 200) (va_cwS 3 hts gX10_boardIn_X10_isBetween rfl rfl rfl heX10_isBetween ⟨Nat.le_of_ble_eq_true rfl, Nat.le_of_ble_eq_true rfl⟩) hK (List.Perm.refl _) hP hD hS hA rfl hl.1 rfl (Nat.le_of_ble_eq_true rfl) dX10_boardIn_10 ⟨Nat.zero_le _, Nat.zero_le _⟩ (fun r10 H locs h1 hP hS => ?_)
  refine lv_if_ne (tgt := 22) hx hb dX10_boardIn_13 (by decide) (fun c13 => ?_) (fun c13 => ?_)
  · replace h1 := Ok.neg c13 h1
    refine lv_aload_n hx hb dX10_boardIn_22 rfl (lv_at hl 0 rfl) ?_
    refine k_get (v := .ref (a 0)) (C := RX10) (T := TX10) (N := 23) hx hb hts inX10_boardIn_X10 hown hK hP 0 (wM_a0 _ _ _ _) rfl 0 (by decide) lkX10_boardIn_7 (mFs_0 _ _) dX10_boardIn_23 ?_
    refine lv_iconst (v := 0) hx hb dX10_boardIn_26 rfl ?_
    refine lv_aload_n hx hb dX10_boardIn_27 rfl (lv_at hl 0 rfl) ?_
    refine k_get (v := .ref (a 1)) (C := RX10) (T := TX10) (N := 23) hx hb hts inX10_boardIn_X10 hown hK hP 0 (wM_a0 _ _ _ _) rfl 1 (by decide) lkX10_boardIn_13 (mFs_1 _ _) dX10_boardIn_28 ?_
    refine lv_iconst (v := 0) hx hb dX10_boardIn_31 rfl ?_
    refine kc_vS (As := [.ref (a 0), .int 0, .ref (a 1), .int 0]) (rest := []) h1 ⟨hx, hb, hml, hown, hts⟩ (cX10_copyM l D cy (a 0) (a 1) H.size 561 (mSt (nTh u 0)) 561 (mAs (nTh u 0)) 0 0) (va_cwS 4 hts gX10_boardIn_X10_copy rfl rfl rfl heX10_copy ⟨Nat.le_of_ble_eq_true rfl, Nat.le_of_ble_eq_true rfl⟩) hK (k_pick2 (i := 1) (j := 1) rfl rfl) hP hD hS hA rfl hl.1 rfl (Nat.le_of_ble_eq_true rfl) dX10_boardIn_32 ⟨Nat.zero_le _, Nat.zero_le _⟩ (fun u32 H locs h1 hP hD hS => ?_)
    replace hP := kP_perm (k_pick2 (l := wM cy h a (nAsA (nTh u 0) u32)) (i := 1) (j := 1) rfl rfl).symm hP
    replace hD := kD_perm (k_pick2 (l := wM cy h a (nAsA (nTh u 0) u32)) (i := 1) (j := 1) rfl rfl).symm hD
    refine lv_aload_n hx hb dX10_boardIn_35 rfl (lv_at hl 0 rfl) ?_
    refine lv_iload_n hx hb dX10_boardIn_36 rfl (lv_at hl 1 rfl) ?_
    refine kc_iV (b := h) (As := [.int x1]) (rest := []) h1 ⟨hx, hb, hml, hown, hts⟩ (cX10_tickManyM l D cy h (a 0) (mRest a (nAsA (nTh u 0) u32)) H.size (mSt (nAsA (nTh u 0) u32)) x1) (cwV 1 hts gX10_boardIn_X10_tickMany rfl rfl rfl hdX10_tickMany ⟨Nat.le_of_ble_eq_true rfl, Nat.le_of_ble_eq_true rfl⟩) hK (wM_split _ _ _ _) hP hD hS hA (q0 := 0) rfl rfl rfl hl.1 rfl (Nat.le_of_ble_eq_true rfl) dX10_boardIn_37 ⟨Nat.zero_le _, Nat.zero_le _⟩ (fun r37 u37 H locs h1 hP hD hS => ?_)
    rw [wM_back] at hP hD
    refine lv_istore_n (lv' := [(2, .int r37), (0, .ref h), (1, .int x1)]) hx hb dX10_boardIn_40 rfl hl (by decide) rfl (fun ls hl => ?_)
    refine lv_aload_n hx hb dX10_boardIn_41 rfl (lv_at hl 1 rfl) ?_
    refine k_get (v := .ref (a 1)) (C := RX10) (T := TX10) (N := 23) hx hb hts inX10_boardIn_X10 hown hK hP 0 (wM_a0 _ _ _ _) rfl 1 (by decide) lkX10_boardIn_13 (mFs_1 _ _) dX10_boardIn_42 ?_
    refine lv_iconst (v := 0) hx hb dX10_boardIn_45 rfl ?_
    refine lv_aload_n hx hb dX10_boardIn_46 rfl (lv_at hl 1 rfl) ?_
    refine k_get (v := .ref (a 0)) (C := RX10) (T := TX10) (N := 23) hx hb hts inX10_boardIn_X10 hown hK hP 0 (wM_a0 _ _ _ _) rfl 0 (by decide) lkX10_boardIn_7 (mFs_0 _ _) dX10_boardIn_47 ?_
    refine lv_iconst (v := 0) hx hb dX10_boardIn_50 rfl ?_
    refine kc_vS (As := [.ref (a 1), .int 0, .ref (a 0), .int 0]) (rest := []) h1 ⟨hx, hb, hml, hown, hts⟩ (cX10_copyM l D cy (a 1) (a 0) H.size 561 (mAs (nStA (nAsA (nTh u 0) u32) u37)) 561 (mSt (nStA (nAsA (nTh u 0) u32) u37)) 0 0) (va_cwS 4 hts gX10_boardIn_X10_copy rfl rfl rfl heX10_copy ⟨Nat.le_of_ble_eq_true rfl, Nat.le_of_ble_eq_true rfl⟩) hK (k_pick2 (i := 2) (j := 1) rfl rfl) hP hD hS hA rfl hl.1 rfl (Nat.le_of_ble_eq_true rfl) dX10_boardIn_51 ⟨Nat.zero_le _, Nat.zero_le _⟩ (fun u51 H locs h1 hP hD hS => ?_)
    replace hP := kP_perm (k_pick2 (l := wM cy h a (nStA (nStA (nAsA (nTh u 0) u32) u37) u51)) (i := 2) (j := 1) rfl rfl).symm hP
    replace hD := kD_perm (k_pick2 (l := wM cy h a (nStA (nStA (nAsA (nTh u 0) u32) u37) u51)) (i := 2) (j := 1) rfl rfl).symm hD
    refine lv_iload_n hx hb dX10_boardIn_54 rfl (lv_at hl 0 rfl) ?_
    exact kret_i hx hb hr hlocks hP hD hS h1 dX10_boardIn_55
  · replace h1 := Ok.pos c13 h1
    refine lv_aload_n hx hb dX10_boardIn_16 rfl (lv_at hl 0 rfl) ?_
    refine lv_iconst (v := 1) hx hb dX10_boardIn_17 rfl ?_
    refine kc_iV0 (b := h) (As := [.int 1]) (rest := []) h1 ⟨hx, hb, hml, hown, hts⟩ (cX10_failM l D cy h a H.size (nTh u 0) 1) (cwV 1 hts gX10_boardIn_X10_fail rfl rfl rfl hdX10_fail ⟨Nat.le_of_ble_eq_true rfl, Nat.le_of_ble_eq_true rfl⟩) hK hP hD hS hA (q0 := 0) rfl rfl rfl hl.1 rfl (Nat.le_of_ble_eq_true rfl) dX10_boardIn_18 ⟨Nat.zero_le _, Nat.zero_le _⟩ (fun r18 u18 H locs h1 hP hD hS => ?_)
    exact kret_i hx hb hr hlocks hP hD hS h1 dX10_boardIn_21
def fX10_boardIn (p1 : Int32) (u : RS) : Option (Int32 × RS) := fX10_boardIn_b0 p1 u
set_option maxHeartbeats 4000000 in
set_option maxRecDepth 100000 in
theorem cX10_boardInM (l : Launch) (D : va_G) (cy : Nat → ClassId) (h : Nat) (a : Nat → Nat) (sz : Nat) (u : RS) (p1 : Int32) : ∀ (K : Int32 → RS → Prop), Ok (fX10_boardIn p1 u) (fun q => K q.1 q.2) → Met l yX10_boardIn wsX10_boardIn rmX10_boardIn (va_Pc [.ref h, .int p1] (kPre D cy sz (wM cy h a u))) (va_Qi K (fun q => kPost D (va_A (wM cy h a u) sz) (wM cy h a q)) (va_A (wM cy h a u) sz)) 0 0 (va_A (wM cy h a u) sz) := by
  intro K h1
  refine Met.ofW (cc := cX10_boardIn) (maxL := 3) (ret := (some .int)) (by decide) rfl ?_
  intro p e s m args below meth c s₁ B hml hv
  obtain ⟨rfl, hsz, hP, hK, hD0⟩ := hv
  subst hsz
  have E : mE D cy RX10 cX10_boardIn 3 (some .int) wsX10_boardIn (va_A (wM cy h a u) s.heap.size) p s m _ meth c := ⟨B.exec, B.bytes, B.returns, hml, findClass_of_methodNamed B.named, atoms_spec (ws := wsX10_boardIn) B.pre, B.notSynchronized, hK, fun q h => Or.inr h⟩
  have hl := lv_entry ([.ref h, .int p1]) (n := 3) (Nat.le_of_ble_eq_true rfl)
  rw [lg_entry_eq]
  generalize (lg_sl ([.ref h, .int p1]) ++ List.replicate (3 - (lg_sl ([.ref h, .int p1])).length) Slot.unset).toArray = ls at hl ⊢
  exact tX10_boardIn_b0 (fun q => K q.1 q.2) E p1 u _ _ _ hl hP hD0.self va_S.rf h1
-- X10_wakesIn
theorem inX10_wakesIn_X10 : ∀ w ∈ u_ws RX10 TX10 23, w ∈ wsX10_wakesIn := k_lays 122 rfl
theorem lkX10_wakesIn_48 : Cond.fieldLink RX10 48 "FerryRampModel" "thrown" "I" ∈ wsX10_wakesIn := List.mem_of_getElem? (i := 1) rfl
theorem lkX10_wakesIn_7 : Cond.fieldLink RX10 7 "FerryRampModel" "state" "[I" ∈ wsX10_wakesIn := List.mem_of_getElem? (i := 2) rfl
theorem lkX10_wakesIn_13 : Cond.fieldLink RX10 13 "FerryRampModel" "aside" "[I" ∈ wsX10_wakesIn := List.mem_of_getElem? (i := 3) rfl
abbrev rmX10_wakesIn : Room := { frames := 10, cells := 0, slots := 0, locals := 224 }
def fX10_wakesIn_b60 (x1 : Int32) (s0 : Int32) (u : RS) : Option (Int32 × RS) :=
  bnd (fX10_copy 0 0 561 (mAs u) 561 (mSt u)) (fun u71 => (if s0 = 0 then some ((-1), nStA u u71) else some (x1, nStA u u71)))
set_option maxHeartbeats 4000000 in
set_option maxRecDepth 100000 in
theorem tX10_wakesIn_b60 {p : Program} {l : Launch} {e : Env} {s : State} {m : MethodId} {args : Array Value} {below : List Frame} {meth : Method} {c : Code} {D : va_G} {cy : Nat → ClassId} {A : Nat → Prop} {h : Nat} {a : Nat → Nat} (K : Int32 × RS → Prop) (E : mE D cy RX10 cX10_wakesIn 3 (some .int) wsX10_wakesIn A p s m args meth c)
     (x1 : Int32) (s0 : Int32) (u : RS) (H : Heap) (locs : List Loc) (ls : Array Slot) (hl : lv_has ls 3 [(0, .ref h), (1, .int x1)]) (hP : va_P D vwCl (wM cy h a u) H) (hD : va_D A (wM cy h a u)) (hS : va_S A s.heap H locs) (h1 : Ok (fX10_wakesIn_b60 x1 s0 u) K) :
    kW p l e rmX10_wakesIn s m args below meth c H locs (va_Qi (fun r q => K (r, q)) (fun q => kPost D A (wM cy h a q)) A) A 60 ls [.int s0] := by
  obtain ⟨hx, hb, hr, hml, hown, hts, hlocks, hK, hA⟩ := id E
  unfold fX10_wakesIn_b60 at h1
  refine lv_istore_n (lv' := [(2, .int s0), (0, .ref h), (1, .int x1)]) hx hb dX10_wakesIn_60 rfl hl (by decide) rfl (fun ls hl => ?_)
  refine lv_aload_n hx hb dX10_wakesIn_61 rfl (lv_at hl 1 rfl) ?_
  refine k_get (v := .ref (a 1)) (C := RX10) (T := TX10) (N := 23) hx hb hts inX10_wakesIn_X10 hown hK hP 0 (wM_a0 _ _ _ _) rfl 1 (by decide) lkX10_wakesIn_13 (mFs_1 _ _) dX10_wakesIn_62 ?_
  refine lv_iconst (v := 0) hx hb dX10_wakesIn_65 rfl ?_
  refine lv_aload_n hx hb dX10_wakesIn_66 rfl (lv_at hl 1 rfl) ?_
  refine k_get (v := .ref (a 0)) (C := RX10) (T := TX10) (N := 23) hx hb hts inX10_wakesIn_X10 hown hK hP 0 (wM_a0 _ _ _ _) rfl 0 (by decide) lkX10_wakesIn_7 (mFs_0 _ _) dX10_wakesIn_67 ?_
  refine lv_iconst (v := 0) hx hb dX10_wakesIn_70 rfl ?_
  refine kc_vS (As := [.ref (a 1), .int 0, .ref (a 0), .int 0]) (rest := []) h1 ⟨hx, hb, hml, hown, hts⟩ (cX10_copyM l D cy (a 1) (a 0) H.size 561 (mAs u) 561 (mSt u) 0 0) (va_cwS 4 hts gX10_wakesIn_X10_copy rfl rfl rfl heX10_copy ⟨Nat.le_of_ble_eq_true rfl, Nat.le_of_ble_eq_true rfl⟩) hK (k_pick2 (i := 2) (j := 1) rfl rfl) hP hD hS hA rfl hl.1 rfl (Nat.le_of_ble_eq_true rfl) dX10_wakesIn_71 ⟨Nat.zero_le _, Nat.zero_le _⟩ (fun u71 H locs h1 hP hD hS => ?_)
  replace hP := kP_perm (k_pick2 (l := wM cy h a (nStA u u71)) (i := 2) (j := 1) rfl rfl).symm hP
  replace hD := kD_perm (k_pick2 (l := wM cy h a (nStA u u71)) (i := 2) (j := 1) rfl rfl).symm hD
  refine lv_iload_n hx hb dX10_wakesIn_74 rfl (lv_at hl 0 rfl) ?_
  refine lv_if_eq (tgt := 82) hx hb dX10_wakesIn_75 (by decide) (fun c75 => ?_) (fun c75 => ?_)
  · replace h1 := Ok.pos c75 h1
    refine lv_iconst (v := (-1)) hx hb dX10_wakesIn_82 rfl ?_
    exact kret_i hx hb hr hlocks hP hD hS h1 dX10_wakesIn_83
  · replace h1 := Ok.neg c75 h1
    refine lv_iload_n hx hb dX10_wakesIn_78 rfl (lv_at hl 2 rfl) ?_
    refine lv_goto (tgt := 83) hx hb dX10_wakesIn_79 (by decide) ?_
    exact kret_i hx hb hr hlocks hP hD hS h1 dX10_wakesIn_83
def fX10_wakesIn_b46 (x1 : Int32) (u : RS) : Option (Int32 × RS) :=
  (if (mSt u 2) = 0 then fX10_wakesIn_b60 x1 0 u else fX10_wakesIn_b60 x1 1 u)
set_option maxHeartbeats 4000000 in
set_option maxRecDepth 100000 in
theorem tX10_wakesIn_b46 {p : Program} {l : Launch} {e : Env} {s : State} {m : MethodId} {args : Array Value} {below : List Frame} {meth : Method} {c : Code} {D : va_G} {cy : Nat → ClassId} {A : Nat → Prop} {h : Nat} {a : Nat → Nat} (K : Int32 × RS → Prop) (E : mE D cy RX10 cX10_wakesIn 3 (some .int) wsX10_wakesIn A p s m args meth c)
     (x1 : Int32) (u : RS) (H : Heap) (locs : List Loc) (ls : Array Slot) (hl : lv_has ls 3 [(0, .ref h), (1, .int x1)]) (hP : va_P D vwCl (wM cy h a u) H) (hD : va_D A (wM cy h a u)) (hS : va_S A s.heap H locs) (h1 : Ok (fX10_wakesIn_b46 x1 u) K) :
    kW p l e rmX10_wakesIn s m args below meth c H locs (va_Qi (fun r q => K (r, q)) (fun q => kPost D A (wM cy h a q)) A) A 46 ls [] := by
  obtain ⟨hx, hb, hr, hml, hown, hts, hlocks, hK, hA⟩ := id E
  unfold fX10_wakesIn_b46 at h1
  refine lv_aload_n hx hb dX10_wakesIn_46 rfl (lv_at hl 0 rfl) ?_
  refine k_get (v := .ref (a 0)) (C := RX10) (T := TX10) (N := 23) hx hb hts inX10_wakesIn_X10 hown hK hP 0 (wM_a0 _ _ _ _) rfl 0 (by decide) lkX10_wakesIn_7 (mFs_0 _ _) dX10_wakesIn_47 ?_
  refine lv_iconst (v := 2) hx hb dX10_wakesIn_50 rfl ?_
  refine k_iald (k := 2) hx hb hK hP 1 (wM_a1 _ _ _ _) rfl rfl dX10_wakesIn_51 ?_
  refine lv_if_eq (tgt := 59) hx hb dX10_wakesIn_52 (by decide) (fun c52 => ?_) (fun c52 => ?_)
  · replace h1 := Ok.pos c52 h1
    refine lv_iconst (v := 0) hx hb dX10_wakesIn_59 rfl ?_
    exact tX10_wakesIn_b60 K E x1 0 u H locs ls (lv_sub hl [0, 1] rfl) hP hD hS h1
  · replace h1 := Ok.neg c52 h1
    refine lv_iconst (v := 1) hx hb dX10_wakesIn_55 rfl ?_
    refine lv_goto (tgt := 60) hx hb dX10_wakesIn_56 (by decide) ?_
    exact tX10_wakesIn_b60 K E x1 1 u H locs ls (lv_sub hl [0, 1] rfl) hP hD hS h1
def fX10_wakesIn_b20 (k20 : Int32 × RS → Option (Int32 × RS)) (x1 : Int32) (u : RS) : Option (Int32 × RS) :=
  (if 200 ≤ x1 then fX10_wakesIn_b46 x1 u else (if (mSt u 2) = 0 then bnd (fX10_tickOnce (mSt u)) (fun u37 => k20 (x1 + 1, nStA u u37)) else fX10_wakesIn_b46 x1 u))
set_option maxHeartbeats 4000000 in
set_option maxRecDepth 100000 in
theorem tX10_wakesIn_b20 {p : Program} {l : Launch} {e : Env} {s : State} {m : MethodId} {args : Array Value} {below : List Frame} {meth : Method} {c : Code} {D : va_G} {cy : Nat → ClassId} {A : Nat → Prop} {h : Nat} {a : Nat → Nat} (K : Int32 × RS → Prop) (E : mE D cy RX10 cX10_wakesIn 3 (some .int) wsX10_wakesIn A p s m args meth c)
    (k20 : Int32 × RS → Option (Int32 × RS)) (hk20 : ∀ (x1 : Int32) (u : RS) (H : Heap) (locs : List Loc) (ls : Array Slot), lv_has ls 3 [(0, .ref h), (1, .int x1)] → va_P D vwCl (wM cy h a u) H → va_D A (wM cy h a u) → va_S A s.heap H locs → Ok (k20 (x1, u)) K → kW p l e rmX10_wakesIn s m args below meth c H locs (va_Qi (fun r q => K (r, q)) (fun q => kPost D A (wM cy h a q)) A) A 20 ls [])
     (x1 : Int32) (u : RS) (H : Heap) (locs : List Loc) (ls : Array Slot) (hl : lv_has ls 3 [(0, .ref h), (1, .int x1)]) (hP : va_P D vwCl (wM cy h a u) H) (hD : va_D A (wM cy h a u)) (hS : va_S A s.heap H locs) (h1 : Ok (fX10_wakesIn_b20 k20 x1 u) K) :
    kW p l e rmX10_wakesIn s m args below meth c H locs (va_Qi (fun r q => K (r, q)) (fun q => kPost D A (wM cy h a q)) A) A 20 ls [] := by
  obtain ⟨hx, hb, hr, hml, hown, hts, hlocks, hK, hA⟩ := id E
  unfold fX10_wakesIn_b20 at h1
  refine lv_iload_n hx hb dX10_wakesIn_20 rfl (lv_at hl 1 rfl) ?_
  refine lv_sipush (v := 200) hx hb dX10_wakesIn_21 rfl ?_
  refine lv_icmp_ge (tgt := 46) hx hb dX10_wakesIn_24 (by decide) (fun c24 => ?_) (fun c24 => ?_)
  · replace h1 := Ok.pos c24 h1
    exact tX10_wakesIn_b46 K E x1 u H locs ls (lv_sub hl [0, 1] rfl) hP hD hS h1
  · replace h1 := Ok.neg c24 h1
    refine lv_aload_n hx hb dX10_wakesIn_27 rfl (lv_at hl 0 rfl) ?_
    refine k_get (v := .ref (a 0)) (C := RX10) (T := TX10) (N := 23) hx hb hts inX10_wakesIn_X10 hown hK hP 0 (wM_a0 _ _ _ _) rfl 0 (by decide) lkX10_wakesIn_7 (mFs_0 _ _) dX10_wakesIn_28 ?_
    refine lv_iconst (v := 2) hx hb dX10_wakesIn_31 rfl ?_
    refine k_iald (k := 2) hx hb hK hP 1 (wM_a1 _ _ _ _) rfl rfl dX10_wakesIn_32 ?_
    refine lv_if_ne (tgt := 46) hx hb dX10_wakesIn_33 (by decide) (fun c33 => ?_) (fun c33 => ?_)
    · replace h1 := Ok.neg c33 h1
      exact tX10_wakesIn_b46 K E x1 u H locs ls (lv_sub hl [0, 1] rfl) hP hD hS h1
    · replace h1 := Ok.pos c33 h1
      refine lv_aload_n hx hb dX10_wakesIn_36 rfl (lv_at hl 0 rfl) ?_
      refine kc_vV (b := h) (As := []) (rest := []) h1 ⟨hx, hb, hml, hown, hts⟩ (cX10_tickOnceM l D cy h (a 0) (mRest a u) H.size (mSt u)) (cwV 0 hts gX10_wakesIn_X10_tickOnce rfl rfl rfl hdX10_tickOnce ⟨Nat.le_of_ble_eq_true rfl, Nat.le_of_ble_eq_true rfl⟩) hK (wM_split _ _ _ _) hP hD hS hA (q0 := 0) rfl rfl rfl hl.1 rfl (Nat.le_of_ble_eq_true rfl) dX10_wakesIn_37 ⟨Nat.zero_le _, Nat.zero_le _⟩ (fun u37 H locs h1 hP hD hS => ?_)
      rw [wM_back] at hP hD
      refine lv_iinc (v := x1 + 1) (lv' := [(1, .int (x1 + 1)), (0, .ref h)]) hx hb dX10_wakesIn_40 hl (k := 1) rfl rfl (by decide) rfl (fun ls hl => ?_)
      refine lv_goto (tgt := 20) hx hb dX10_wakesIn_43 (by decide) ?_
      exact hk20 (x1 + 1) (nStA u u37) H locs ls (lv_sub hl [1, 0] rfl) hP hD hS h1
theorem tX10_wakesIn_l20 {p : Program} {l : Launch} {e : Env} {s : State} {m : MethodId} {args : Array Value} {below : List Frame} {meth : Method} {c : Code} {D : va_G} {cy : Nat → ClassId} {A : Nat → Prop} {h : Nat} {a : Nat → Nat} (K : Int32 × RS → Prop) (E : mE D cy RX10 cX10_wakesIn 3 (some .int) wsX10_wakesIn A p s m args meth c) : ∀ (n9 : Nat) (x1 : Int32) (u : RS) (H : Heap) (locs : List Loc) (ls : Array Slot), lv_has ls 3 [(0, .ref h), (1, .int x1)] → va_P D vwCl (wM cy h a u) H → va_D A (wM cy h a u) → va_S A s.heap H locs → Ok (lop (fun y z => fX10_wakesIn_b20 y z.1 z.2) n9 (x1, u)) K → kW p l e rmX10_wakesIn s m args below meth c H locs (va_Qi (fun r q => K (r, q)) (fun q => kPost D A (wM cy h a q)) A) A 20 ls [] := by
  intro n9
  induction n9 with
  | zero =>
    intro x1 u H locs ls hl hP hD hS h1
    exact h1.no
  | succ n9 ih =>
    intro x1 u H locs ls hl hP hD hS h1
    exact tX10_wakesIn_b20 K E (lop (fun y z => fX10_wakesIn_b20 y z.1 z.2) n9) (fun x1 u H locs ls hl hP hD hS h1 => ih x1 u H locs ls hl hP hD hS h1) x1 u H locs ls hl hP hD hS h1
def fX10_wakesIn_b0 (u : RS) : Option (Int32 × RS) :=
  bnd (fX10_copy 0 0 561 (mSt (nTh u 0)) 561 (mAs (nTh u 0))) (fun u15 => lop (fun y z => fX10_wakesIn_b20 y z.1 z.2) LF (0, nAsA (nTh u 0) u15))
set_option maxHeartbeats 4000000 in
set_option maxRecDepth 100000 in
theorem tX10_wakesIn_b0 {p : Program} {l : Launch} {e : Env} {s : State} {m : MethodId} {args : Array Value} {below : List Frame} {meth : Method} {c : Code} {D : va_G} {cy : Nat → ClassId} {A : Nat → Prop} {h : Nat} {a : Nat → Nat} (K : Int32 × RS → Prop) (E : mE D cy RX10 cX10_wakesIn 3 (some .int) wsX10_wakesIn A p s m args meth c)
     (u : RS) (H : Heap) (locs : List Loc) (ls : Array Slot) (hl : lv_has ls 3 [(0, .ref h)]) (hP : va_P D vwCl (wM cy h a u) H) (hD : va_D A (wM cy h a u)) (hS : va_S A s.heap H locs) (h1 : Ok (fX10_wakesIn_b0 u) K) :
    kW p l e rmX10_wakesIn s m args below meth c H locs (va_Qi (fun r q => K (r, q)) (fun q => kPost D A (wM cy h a q)) A) A 0 ls [] := by
  obtain ⟨hx, hb, hr, hml, hown, hts, hlocks, hK, hA⟩ := id E
  unfold fX10_wakesIn_b0 at h1
  refine lv_aload_n hx hb dX10_wakesIn_0 rfl (lv_at hl 0 rfl) ?_
  refine lv_iconst (v := 0) hx hb dX10_wakesIn_1 rfl ?_
  refine k_put (v := .int 0) (ty := .int) (C := RX10) (T := TX10) (N := 23) hx hb hts inX10_wakesIn_X10 tyX10 tyX10_ok nmX10 hown hK hP hD hS 0 (wM_a0 _ _ _ _) rfl 8 (by decide) lkX10_wakesIn_48 rfl (by decide +kernel) rfl rfl (Nat.le_of_ble_eq_true rfl) (ws' := wM cy h a (nTh u 0)) (wM_nTh _ _ _ _ _) dX10_wakesIn_2 (fun H locs hP hD hS => ?_)
  refine lv_aload_n hx hb dX10_wakesIn_5 rfl (lv_at hl 0 rfl) ?_
  refine k_get (v := .ref (a 0)) (C := RX10) (T := TX10) (N := 23) hx hb hts inX10_wakesIn_X10 hown hK hP 0 (wM_a0 _ _ _ _) rfl 0 (by decide) lkX10_wakesIn_7 (mFs_0 _ _) dX10_wakesIn_6 ?_
  refine lv_iconst (v := 0) hx hb dX10_wakesIn_9 rfl ?_
  refine lv_aload_n hx hb dX10_wakesIn_10 rfl (lv_at hl 0 rfl) ?_
  refine k_get (v := .ref (a 1)) (C := RX10) (T := TX10) (N := 23) hx hb hts inX10_wakesIn_X10 hown hK hP 0 (wM_a0 _ _ _ _) rfl 1 (by decide) lkX10_wakesIn_13 (mFs_1 _ _) dX10_wakesIn_11 ?_
  refine lv_iconst (v := 0) hx hb dX10_wakesIn_14 rfl ?_
  refine kc_vS (As := [.ref (a 0), .int 0, .ref (a 1), .int 0]) (rest := []) h1 ⟨hx, hb, hml, hown, hts⟩ (cX10_copyM l D cy (a 0) (a 1) H.size 561 (mSt (nTh u 0)) 561 (mAs (nTh u 0)) 0 0) (va_cwS 4 hts gX10_wakesIn_X10_copy rfl rfl rfl heX10_copy ⟨Nat.le_of_ble_eq_true rfl, Nat.le_of_ble_eq_true rfl⟩) hK (k_pick2 (i := 1) (j := 1) rfl rfl) hP hD hS hA rfl hl.1 rfl (Nat.le_of_ble_eq_true rfl) dX10_wakesIn_15 ⟨Nat.zero_le _, Nat.zero_le _⟩ (fun u15 H locs h1 hP hD hS => ?_)
  replace hP := kP_perm (k_pick2 (l := wM cy h a (nAsA (nTh u 0) u15)) (i := 1) (j := 1) rfl rfl).symm hP
  replace hD := kD_perm (k_pick2 (l := wM cy h a (nAsA (nTh u 0) u15)) (i := 1) (j := 1) rfl rfl).symm hD
  refine lv_iconst (v := 0) hx hb dX10_wakesIn_18 rfl ?_
  refine lv_istore_n (lv' := [(1, .int 0), (0, .ref h)]) hx hb dX10_wakesIn_19 rfl hl (by decide) rfl (fun ls hl => ?_)
  exact tX10_wakesIn_l20 K E LF 0 (nAsA (nTh u 0) u15) H locs ls (lv_sub hl [1, 0] rfl) hP hD hS h1
def fX10_wakesIn (u : RS) : Option (Int32 × RS) := fX10_wakesIn_b0 u
set_option maxHeartbeats 4000000 in
set_option maxRecDepth 100000 in
theorem cX10_wakesInM (l : Launch) (D : va_G) (cy : Nat → ClassId) (h : Nat) (a : Nat → Nat) (sz : Nat) (u : RS) : ∀ (K : Int32 → RS → Prop), Ok (fX10_wakesIn u) (fun q => K q.1 q.2) → Met l yX10_wakesIn wsX10_wakesIn rmX10_wakesIn (va_Pc [.ref h] (kPre D cy sz (wM cy h a u))) (va_Qi K (fun q => kPost D (va_A (wM cy h a u) sz) (wM cy h a q)) (va_A (wM cy h a u) sz)) 0 0 (va_A (wM cy h a u) sz) := by
  intro K h1
  refine Met.ofW (cc := cX10_wakesIn) (maxL := 3) (ret := (some .int)) (by decide) rfl ?_
  intro p e s m args below meth c s₁ B hml hv
  obtain ⟨rfl, hsz, hP, hK, hD0⟩ := hv
  subst hsz
  have E : mE D cy RX10 cX10_wakesIn 3 (some .int) wsX10_wakesIn (va_A (wM cy h a u) s.heap.size) p s m _ meth c := ⟨B.exec, B.bytes, B.returns, hml, findClass_of_methodNamed B.named, atoms_spec (ws := wsX10_wakesIn) B.pre, B.notSynchronized, hK, fun q h => Or.inr h⟩
  have hl := lv_entry ([.ref h]) (n := 3) (Nat.le_of_ble_eq_true rfl)
  rw [lg_entry_eq]
  generalize (lg_sl ([.ref h]) ++ List.replicate (3 - (lg_sl ([.ref h])).length) Slot.unset).toArray = ls at hl ⊢
  exact tX10_wakesIn_b0 (fun q => K q.1 q.2) E u _ _ _ hl hP hD0.self va_S.rf h1
-- X10_easyIn
theorem inX10_easyIn_X10 : ∀ w ∈ u_ws RX10 TX10 23, w ∈ wsX10_easyIn := k_lays 136 rfl
theorem lkX10_easyIn_48 : Cond.fieldLink RX10 48 "FerryRampModel" "thrown" "I" ∈ wsX10_easyIn := List.mem_of_getElem? (i := 1) rfl
theorem lkX10_easyIn_7 : Cond.fieldLink RX10 7 "FerryRampModel" "state" "[I" ∈ wsX10_easyIn := List.mem_of_getElem? (i := 2) rfl
theorem lkX10_easyIn_13 : Cond.fieldLink RX10 13 "FerryRampModel" "aside" "[I" ∈ wsX10_easyIn := List.mem_of_getElem? (i := 3) rfl
theorem hdX10_isEasy : yX10_isEasy.cls = RX10 ∧ yX10_isEasy.cls ≠ "java/lang/invoke/MethodHandle" ∧ yX10_isEasy.cls ≠ "java/lang/invoke/VarHandle" ∧ (parseMethodDescriptor yX10_isEasy.desc).map (fun d => d.parameters.length) = some 1 := by decide +kernel
abbrev rmX10_easyIn : Room := { frames := 10, cells := 0, slots := 0, locals := 224 }
def fX10_easyIn_b58 (x1 : Int32) (x2 : Int32) (u : RS) : Option (Int32 × RS) :=
  bnd (fX10_isEasy x1 (mSt u)) (fun r60 => bnd (fX10_copy 0 0 561 (mAs u) 561 (mSt u)) (fun u74 => (if r60 = 0 then some ((-1), nStA u u74) else some (x2, nStA u u74))))
set_option maxHeartbeats 4000000 in
set_option maxRecDepth 100000 in
theorem tX10_easyIn_b58 {p : Program} {l : Launch} {e : Env} {s : State} {m : MethodId} {args : Array Value} {below : List Frame} {meth : Method} {c : Code} {D : va_G} {cy : Nat → ClassId} {A : Nat → Prop} {h : Nat} {a : Nat → Nat} (K : Int32 × RS → Prop) (E : mE D cy RX10 cX10_easyIn 4 (some .int) wsX10_easyIn A p s m args meth c)
     (x1 : Int32) (x2 : Int32) (u : RS) (H : Heap) (locs : List Loc) (ls : Array Slot) (hl : lv_has ls 4 [(0, .ref h), (1, .int x1), (2, .int x2)]) (hP : va_P D vwCl (wM cy h a u) H) (hD : va_D A (wM cy h a u)) (hS : va_S A s.heap H locs) (h1 : Ok (fX10_easyIn_b58 x1 x2 u) K) :
    kW p l e rmX10_easyIn s m args below meth c H locs (va_Qi (fun r q => K (r, q)) (fun q => kPost D A (wM cy h a q)) A) A 58 ls [] := by
  obtain ⟨hx, hb, hr, hml, hown, hts, hlocks, hK, hA⟩ := id E
  unfold fX10_easyIn_b58 at h1
  refine lv_aload_n hx hb dX10_easyIn_58 rfl (lv_at hl 0 rfl) ?_
  refine lv_iload_n hx hb dX10_easyIn_59 rfl (lv_at hl 1 rfl) ?_
  refine kc_rV (b := h) (As := [.int x1]) (rest := []) h1 ⟨hx, hb, hml, hown, hts⟩ (cX10_isEasyM l D cy h (a 0) (mRest a u) H.size (mSt u) x1) (cwV 1 hts gX10_easyIn_X10_isEasy rfl rfl rfl hdX10_isEasy ⟨Nat.le_of_ble_eq_true rfl, Nat.le_of_ble_eq_true rfl⟩) hK (wM_split _ _ _ _) hP hD hS hA (q0 := 0) rfl rfl rfl hl.1 rfl (Nat.le_of_ble_eq_true rfl) dX10_easyIn_60 ⟨Nat.zero_le _, Nat.zero_le _⟩ (fun r60 H locs h1 hP hS => ?_)
  refine lv_istore_n (lv' := [(3, .int r60), (0, .ref h), (1, .int x1), (2, .int x2)]) hx hb dX10_easyIn_63 rfl hl (by decide) rfl (fun ls hl => ?_)
  refine lv_aload_n hx hb dX10_easyIn_64 rfl (lv_at hl 1 rfl) ?_
  refine k_get (v := .ref (a 1)) (C := RX10) (T := TX10) (N := 23) hx hb hts inX10_easyIn_X10 hown hK hP 0 (wM_a0 _ _ _ _) rfl 1 (by decide) lkX10_easyIn_13 (mFs_1 _ _) dX10_easyIn_65 ?_
  refine lv_iconst (v := 0) hx hb dX10_easyIn_68 rfl ?_
  refine lv_aload_n hx hb dX10_easyIn_69 rfl (lv_at hl 1 rfl) ?_
  refine k_get (v := .ref (a 0)) (C := RX10) (T := TX10) (N := 23) hx hb hts inX10_easyIn_X10 hown hK hP 0 (wM_a0 _ _ _ _) rfl 0 (by decide) lkX10_easyIn_7 (mFs_0 _ _) dX10_easyIn_70 ?_
  refine lv_iconst (v := 0) hx hb dX10_easyIn_73 rfl ?_
  refine kc_vS (As := [.ref (a 1), .int 0, .ref (a 0), .int 0]) (rest := []) h1 ⟨hx, hb, hml, hown, hts⟩ (cX10_copyM l D cy (a 1) (a 0) H.size 561 (mAs u) 561 (mSt u) 0 0) (va_cwS 4 hts gX10_easyIn_X10_copy rfl rfl rfl heX10_copy ⟨Nat.le_of_ble_eq_true rfl, Nat.le_of_ble_eq_true rfl⟩) hK (k_pick2 (i := 2) (j := 1) rfl rfl) hP hD hS hA rfl hl.1 rfl (Nat.le_of_ble_eq_true rfl) dX10_easyIn_74 ⟨Nat.zero_le _, Nat.zero_le _⟩ (fun u74 H locs h1 hP hD hS => ?_)
  replace hP := kP_perm (k_pick2 (l := wM cy h a (nStA u u74)) (i := 2) (j := 1) rfl rfl).symm hP
  replace hD := kD_perm (k_pick2 (l := wM cy h a (nStA u u74)) (i := 2) (j := 1) rfl rfl).symm hD
  refine lv_iload_n hx hb dX10_easyIn_77 rfl (lv_at hl 0 rfl) ?_
  refine lv_if_eq (tgt := 85) hx hb dX10_easyIn_78 (by decide) (fun c78 => ?_) (fun c78 => ?_)
  · replace h1 := Ok.pos c78 h1
    refine lv_iconst (v := (-1)) hx hb dX10_easyIn_85 rfl ?_
    exact kret_i hx hb hr hlocks hP hD hS h1 dX10_easyIn_86
  · replace h1 := Ok.neg c78 h1
    refine lv_iload_n hx hb dX10_easyIn_81 rfl (lv_at hl 3 rfl) ?_
    refine lv_goto (tgt := 86) hx hb dX10_easyIn_82 (by decide) ?_
    exact kret_i hx hb hr hlocks hP hD hS h1 dX10_easyIn_86
def fX10_easyIn_b33 (k33 : Int32 × Int32 × RS → Option (Int32 × RS)) (x1 : Int32) (x2 : Int32) (u : RS) : Option (Int32 × RS) :=
  (if 200 ≤ x2 then fX10_easyIn_b58 x1 x2 u else bnd (fX10_isEasy x1 (mSt u)) (fun r42 => (if r42 = 0 then bnd (fX10_tickOnce (mSt u)) (fun u49 => k33 (x1, x2 + 1, nStA u u49)) else fX10_easyIn_b58 x1 x2 u)))
set_option maxHeartbeats 4000000 in
set_option maxRecDepth 100000 in
theorem tX10_easyIn_b33 {p : Program} {l : Launch} {e : Env} {s : State} {m : MethodId} {args : Array Value} {below : List Frame} {meth : Method} {c : Code} {D : va_G} {cy : Nat → ClassId} {A : Nat → Prop} {h : Nat} {a : Nat → Nat} (K : Int32 × RS → Prop) (E : mE D cy RX10 cX10_easyIn 4 (some .int) wsX10_easyIn A p s m args meth c)
    (k33 : Int32 × Int32 × RS → Option (Int32 × RS)) (hk33 : ∀ (x1 : Int32) (x2 : Int32) (u : RS) (H : Heap) (locs : List Loc) (ls : Array Slot), lv_has ls 4 [(0, .ref h), (1, .int x1), (2, .int x2)] → va_P D vwCl (wM cy h a u) H → va_D A (wM cy h a u) → va_S A s.heap H locs → Ok (k33 (x1, x2, u)) K → kW p l e rmX10_easyIn s m args below meth c H locs (va_Qi (fun r q => K (r, q)) (fun q => kPost D A (wM cy h a q)) A) A 33 ls [])
     (x1 : Int32) (x2 : Int32) (u : RS) (H : Heap) (locs : List Loc) (ls : Array Slot) (hl : lv_has ls 4 [(0, .ref h), (1, .int x1), (2, .int x2)]) (hP : va_P D vwCl (wM cy h a u) H) (hD : va_D A (wM cy h a u)) (hS : va_S A s.heap H locs) (h1 : Ok (fX10_easyIn_b33 k33 x1 x2 u) K) :
    kW p l e rmX10_easyIn s m args below meth c H locs (va_Qi (fun r q => K (r, q)) (fun q => kPost D A (wM cy h a q)) A) A 33 ls [] := by
  obtain ⟨hx, hb, hr, hml, hown, hts, hlocks, hK, hA⟩ := id E
  unfold fX10_easyIn_b33 at h1
  refine lv_iload_n hx hb dX10_easyIn_33 rfl (lv_at hl 2 rfl) ?_
  refine lv_sipush (v := 200) hx hb dX10_easyIn_34 rfl ?_
  refine lv_icmp_ge (tgt := 58) hx hb dX10_easyIn_37 (by decide) (fun c37 => ?_) (fun c37 => ?_)
  · replace h1 := Ok.pos c37 h1
    exact tX10_easyIn_b58 K E x1 x2 u H locs ls (lv_sub hl [0, 1, 2] rfl) hP hD hS h1
  · replace h1 := Ok.neg c37 h1
    refine lv_aload_n hx hb dX10_easyIn_40 rfl (lv_at hl 0 rfl) ?_
    refine lv_iload_n hx hb dX10_easyIn_41 rfl (lv_at hl 1 rfl) ?_
    refine kc_rV (b := h) (As := [.int x1]) (rest := []) h1 ⟨hx, hb, hml, hown, hts⟩ (cX10_isEasyM l D cy h (a 0) (mRest a u) H.size (mSt u) x1) (cwV 1 hts gX10_easyIn_X10_isEasy rfl rfl rfl hdX10_isEasy ⟨Nat.le_of_ble_eq_true rfl, Nat.le_of_ble_eq_true rfl⟩) hK (wM_split _ _ _ _) hP hD hS hA (q0 := 0) rfl rfl rfl hl.1 rfl (Nat.le_of_ble_eq_true rfl) dX10_easyIn_42 ⟨Nat.zero_le _, Nat.zero_le _⟩ (fun r42 H locs h1 hP hS => ?_)
    refine lv_if_ne (tgt := 58) hx hb dX10_easyIn_45 (by decide) (fun c45 => ?_) (fun c45 => ?_)
    · replace h1 := Ok.neg c45 h1
      exact tX10_easyIn_b58 K E x1 x2 u H locs ls (lv_sub hl [0, 1, 2] rfl) hP hD hS h1
    · replace h1 := Ok.pos c45 h1
      refine lv_aload_n hx hb dX10_easyIn_48 rfl (lv_at hl 0 rfl) ?_
      refine kc_vV (b := h) (As := []) (rest := []) h1 ⟨hx, hb, hml, hown, hts⟩ (cX10_tickOnceM l D cy h (a 0) (mRest a u) H.size (mSt u)) (cwV 0 hts gX10_easyIn_X10_tickOnce rfl rfl rfl hdX10_tickOnce ⟨Nat.le_of_ble_eq_true rfl, Nat.le_of_ble_eq_true rfl⟩) hK (wM_split _ _ _ _) hP hD hS hA (q0 := 0) rfl rfl rfl hl.1 rfl (Nat.le_of_ble_eq_true rfl) dX10_easyIn_49 ⟨Nat.zero_le _, Nat.zero_le _⟩ (fun u49 H locs h1 hP hD hS => ?_)
      rw [wM_back] at hP hD
      refine lv_iinc (v := x2 + 1) (lv' := [(2, .int (x2 + 1)), (0, .ref h), (1, .int x1)]) hx hb dX10_easyIn_52 hl (k := 2) rfl rfl (by decide) rfl (fun ls hl => ?_)
      refine lv_goto (tgt := 33) hx hb dX10_easyIn_55 (by decide) ?_
      exact hk33 x1 (x2 + 1) (nStA u u49) H locs ls (lv_sub hl [1, 2, 0] rfl) hP hD hS h1
theorem tX10_easyIn_l33 {p : Program} {l : Launch} {e : Env} {s : State} {m : MethodId} {args : Array Value} {below : List Frame} {meth : Method} {c : Code} {D : va_G} {cy : Nat → ClassId} {A : Nat → Prop} {h : Nat} {a : Nat → Nat} (K : Int32 × RS → Prop) (E : mE D cy RX10 cX10_easyIn 4 (some .int) wsX10_easyIn A p s m args meth c) : ∀ (n9 : Nat) (x1 : Int32) (x2 : Int32) (u : RS) (H : Heap) (locs : List Loc) (ls : Array Slot), lv_has ls 4 [(0, .ref h), (1, .int x1), (2, .int x2)] → va_P D vwCl (wM cy h a u) H → va_D A (wM cy h a u) → va_S A s.heap H locs → Ok (lop (fun y z => fX10_easyIn_b33 y z.1 z.2.1 z.2.2) n9 (x1, x2, u)) K → kW p l e rmX10_easyIn s m args below meth c H locs (va_Qi (fun r q => K (r, q)) (fun q => kPost D A (wM cy h a q)) A) A 33 ls [] := by
  intro n9
  induction n9 with
  | zero =>
    intro x1 x2 u H locs ls hl hP hD hS h1
    exact h1.no
  | succ n9 ih =>
    intro x1 x2 u H locs ls hl hP hD hS h1
    exact tX10_easyIn_b33 K E (lop (fun y z => fX10_easyIn_b33 y z.1 z.2.1 z.2.2) n9) (fun x1 x2 u H locs ls hl hP hD hS h1 => ih x1 x2 u H locs ls hl hP hD hS h1) x1 x2 u H locs ls hl hP hD hS h1
def fX10_easyIn_b0 (x1 : Int32) (u : RS) : Option (Int32 × RS) :=
  bnd (fX10_isKind x1) (fun r6 => (if r6 = 0 then bnd2 (fX10_fail 1 (nTh u 0)) (fun r14 u14 => some (r14, u14)) else bnd (fX10_copy 0 0 561 (mSt (nTh u 0)) 561 (mAs (nTh u 0))) (fun u28 => lop (fun y z => fX10_easyIn_b33 y z.1 z.2.1 z.2.2) LF (x1, 0, nAsA (nTh u 0) u28))))
set_option maxHeartbeats 4000000 in
set_option maxRecDepth 100000 in
theorem tX10_easyIn_b0 {p : Program} {l : Launch} {e : Env} {s : State} {m : MethodId} {args : Array Value} {below : List Frame} {meth : Method} {c : Code} {D : va_G} {cy : Nat → ClassId} {A : Nat → Prop} {h : Nat} {a : Nat → Nat} (K : Int32 × RS → Prop) (E : mE D cy RX10 cX10_easyIn 4 (some .int) wsX10_easyIn A p s m args meth c)
     (x1 : Int32) (u : RS) (H : Heap) (locs : List Loc) (ls : Array Slot) (hl : lv_has ls 4 [(0, .ref h), (1, .int x1)]) (hP : va_P D vwCl (wM cy h a u) H) (hD : va_D A (wM cy h a u)) (hS : va_S A s.heap H locs) (h1 : Ok (fX10_easyIn_b0 x1 u) K) :
    kW p l e rmX10_easyIn s m args below meth c H locs (va_Qi (fun r q => K (r, q)) (fun q => kPost D A (wM cy h a q)) A) A 0 ls [] := by
  obtain ⟨hx, hb, hr, hml, hown, hts, hlocks, hK, hA⟩ := id E
  unfold fX10_easyIn_b0 at h1
  refine lv_aload_n hx hb dX10_easyIn_0 rfl (lv_at hl 0 rfl) ?_
  refine lv_iconst (v := 0) hx hb dX10_easyIn_1 rfl ?_
  refine k_put (v := .int 0) (ty := .int) (C := RX10) (T := TX10) (N := 23) hx hb hts inX10_easyIn_X10 tyX10 tyX10_ok nmX10 hown hK hP hD hS 0 (wM_a0 _ _ _ _) rfl 8 (by decide) lkX10_easyIn_48 rfl (by decide +kernel) rfl rfl (Nat.le_of_ble_eq_true rfl) (ws' := wM cy h a (nTh u 0)) (wM_nTh _ _ _ _ _) dX10_easyIn_2 (fun H locs hP hD hS => ?_)
  refine lv_iload_n hx hb dX10_easyIn_5 rfl (lv_at hl 1 rfl) ?_
  refine kc_rS (As := [.int x1]) (rest := []) (wc := []) (wr := _) h1 ⟨hx, hb, hml, hown, hts⟩ (cX10_isKindM l D cy H.size x1) (va_cwS 1 hts gX10_easyIn_X10_isKind rfl rfl rfl heX10_isKind ⟨Nat.le_of_ble_eq_true rfl, Nat.le_of_ble_eq_true rfl⟩) hK (List.Perm.refl _) hP hD hS hA rfl hl.1 rfl (Nat.le_of_ble_eq_true rfl) dX10_easyIn_6 ⟨Nat.zero_le _, Nat.zero_le _⟩ (fun r6 H locs h1 hP hS => ?_)
  refine lv_if_ne (tgt := 18) hx hb dX10_easyIn_9 (by decide) (fun c9 => ?_) (fun c9 => ?_)
  · replace h1 := Ok.neg c9 h1
    refine lv_aload_n hx hb dX10_easyIn_18 rfl (lv_at hl 0 rfl) ?_
    refine k_get (v := .ref (a 0)) (C := RX10) (T := TX10) (N := 23) hx hb hts inX10_easyIn_X10 hown hK hP 0 (wM_a0 _ _ _ _) rfl 0 (by decide) lkX10_easyIn_7 (mFs_0 _ _) dX10_easyIn_19 ?_
    refine lv_iconst (v := 0) hx hb dX10_easyIn_22 rfl ?_
    refine lv_aload_n hx hb dX10_easyIn_23 rfl (lv_at hl 0 rfl) ?_
    refine k_get (v := .ref (a 1)) (C := RX10) (T := TX10) (N := 23) hx hb hts inX10_easyIn_X10 hown hK hP 0 (wM_a0 _ _ _ _) rfl 1 (by decide) lkX10_easyIn_13 (mFs_1 _ _) dX10_easyIn_24 ?_
    refine lv_iconst (v := 0) hx hb dX10_easyIn_27 rfl ?_
    refine kc_vS (As := [.ref (a 0), .int 0, .ref (a 1), .int 0]) (rest := []) h1 ⟨hx, hb, hml, hown, hts⟩ (cX10_copyM l D cy (a 0) (a 1) H.size 561 (mSt (nTh u 0)) 561 (mAs (nTh u 0)) 0 0) (va_cwS 4 hts gX10_easyIn_X10_copy rfl rfl rfl heX10_copy ⟨Nat.le_of_ble_eq_true rfl, Nat.le_of_ble_eq_true rfl⟩) hK (k_pick2 (i := 1) (j := 1) rfl rfl) hP hD hS hA rfl hl.1 rfl (Nat.le_of_ble_eq_true rfl) dX10_easyIn_28 ⟨Nat.zero_le _, Nat.zero_le _⟩ (fun u28 H locs h1 hP hD hS => ?_)
    replace hP := kP_perm (k_pick2 (l := wM cy h a (nAsA (nTh u 0) u28)) (i := 1) (j := 1) rfl rfl).symm hP
    replace hD := kD_perm (k_pick2 (l := wM cy h a (nAsA (nTh u 0) u28)) (i := 1) (j := 1) rfl rfl).symm hD
    refine lv_iconst (v := 0) hx hb dX10_easyIn_31 rfl ?_
    refine lv_istore_n (lv' := [(2, .int 0), (0, .ref h), (1, .int x1)]) hx hb dX10_easyIn_32 rfl hl (by decide) rfl (fun ls hl => ?_)
    exact tX10_easyIn_l33 K E LF x1 0 (nAsA (nTh u 0) u28) H locs ls (lv_sub hl [1, 2, 0] rfl) hP hD hS h1
  · replace h1 := Ok.pos c9 h1
    refine lv_aload_n hx hb dX10_easyIn_12 rfl (lv_at hl 0 rfl) ?_
    refine lv_iconst (v := 1) hx hb dX10_easyIn_13 rfl ?_
    refine kc_iV0 (b := h) (As := [.int 1]) (rest := []) h1 ⟨hx, hb, hml, hown, hts⟩ (cX10_failM l D cy h a H.size (nTh u 0) 1) (cwV 1 hts gX10_easyIn_X10_fail rfl rfl rfl hdX10_fail ⟨Nat.le_of_ble_eq_true rfl, Nat.le_of_ble_eq_true rfl⟩) hK hP hD hS hA (q0 := 0) rfl rfl rfl hl.1 rfl (Nat.le_of_ble_eq_true rfl) dX10_easyIn_14 ⟨Nat.zero_le _, Nat.zero_le _⟩ (fun r14 u14 H locs h1 hP hD hS => ?_)
    exact kret_i hx hb hr hlocks hP hD hS h1 dX10_easyIn_17
def fX10_easyIn (p1 : Int32) (u : RS) : Option (Int32 × RS) := fX10_easyIn_b0 p1 u
set_option maxHeartbeats 4000000 in
set_option maxRecDepth 100000 in
theorem cX10_easyInM (l : Launch) (D : va_G) (cy : Nat → ClassId) (h : Nat) (a : Nat → Nat) (sz : Nat) (u : RS) (p1 : Int32) : ∀ (K : Int32 → RS → Prop), Ok (fX10_easyIn p1 u) (fun q => K q.1 q.2) → Met l yX10_easyIn wsX10_easyIn rmX10_easyIn (va_Pc [.ref h, .int p1] (kPre D cy sz (wM cy h a u))) (va_Qi K (fun q => kPost D (va_A (wM cy h a u) sz) (wM cy h a q)) (va_A (wM cy h a u) sz)) 0 0 (va_A (wM cy h a u) sz) := by
  intro K h1
  refine Met.ofW (cc := cX10_easyIn) (maxL := 4) (ret := (some .int)) (by decide) rfl ?_
  intro p e s m args below meth c s₁ B hml hv
  obtain ⟨rfl, hsz, hP, hK, hD0⟩ := hv
  subst hsz
  have E : mE D cy RX10 cX10_easyIn 4 (some .int) wsX10_easyIn (va_A (wM cy h a u) s.heap.size) p s m _ meth c := ⟨B.exec, B.bytes, B.returns, hml, findClass_of_methodNamed B.named, atoms_spec (ws := wsX10_easyIn) B.pre, B.notSynchronized, hK, fun q h => Or.inr h⟩
  have hl := lv_entry ([.ref h, .int p1]) (n := 4) (Nat.le_of_ble_eq_true rfl)
  rw [lg_entry_eq]
  generalize (lg_sl ([.ref h, .int p1]) ++ List.replicate (4 - (lg_sl ([.ref h, .int p1])).length) Slot.unset).toArray = ls at hl ⊢
  exact tX10_easyIn_b0 (fun q => K q.1 q.2) E p1 u _ _ _ hl hP hD0.self va_S.rf h1
-- X10_bestFirst
theorem inX10_bestFirst_X10 : ∀ w ∈ u_ws RX10 TX10 23, w ∈ wsX10_bestFirst := k_lays 137 rfl
theorem lkX10_bestFirst_48 : Cond.fieldLink RX10 48 "FerryRampModel" "thrown" "I" ∈ wsX10_bestFirst := List.mem_of_getElem? (i := 1) rfl
theorem lkX10_bestFirst_7 : Cond.fieldLink RX10 7 "FerryRampModel" "state" "[I" ∈ wsX10_bestFirst := List.mem_of_getElem? (i := 2) rfl
theorem lkX10_bestFirst_16 : Cond.fieldLink RX10 16 "FerryRampModel" "trial" "[I" ∈ wsX10_bestFirst := List.mem_of_getElem? (i := 3) rfl
abbrev rmX10_bestFirst : Room := { frames := 11, cells := 0, slots := 0, locals := 247 }
def fX10_bestFirst_b92 (k41 : Int32 × Int32 × Int32 × Int32 × RS → Option (Int32 × RS)) (x1 : Int32) (x2 : Int32) (x3 : Int32) (x4 : Int32) (u : RS) : Option (Int32 × RS) :=
  bnd (fX10_copy 0 0 561 (mTr u) 561 (mSt u)) (fun u102 => k41 (x1, x2, x3, x4 + 1, nStA u u102))
set_option maxHeartbeats 4000000 in
set_option maxRecDepth 100000 in
theorem tX10_bestFirst_b92 {p : Program} {l : Launch} {e : Env} {s : State} {m : MethodId} {args : Array Value} {below : List Frame} {meth : Method} {c : Code} {D : va_G} {cy : Nat → ClassId} {A : Nat → Prop} {h : Nat} {a : Nat → Nat} (K : Int32 × RS → Prop) (E : mE D cy RX10 cX10_bestFirst 8 (some .int) wsX10_bestFirst A p s m args meth c)
    (k41 : Int32 × Int32 × Int32 × Int32 × RS → Option (Int32 × RS)) (hk41 : ∀ (x1 : Int32) (x2 : Int32) (x3 : Int32) (x4 : Int32) (u : RS) (H : Heap) (locs : List Loc) (ls : Array Slot), lv_has ls 8 [(0, .ref h), (1, .int x1), (2, .int x2), (3, .int x3), (4, .int x4)] → va_P D vwCl (wM cy h a u) H → va_D A (wM cy h a u) → va_S A s.heap H locs → Ok (k41 (x1, x2, x3, x4, u)) K → kW p l e rmX10_bestFirst s m args below meth c H locs (va_Qi (fun r q => K (r, q)) (fun q => kPost D A (wM cy h a q)) A) A 41 ls [])
     (x1 : Int32) (x2 : Int32) (x3 : Int32) (x4 : Int32) (u : RS) (H : Heap) (locs : List Loc) (ls : Array Slot) (hl : lv_has ls 8 [(0, .ref h), (1, .int x1), (2, .int x2), (3, .int x3), (4, .int x4)]) (hP : va_P D vwCl (wM cy h a u) H) (hD : va_D A (wM cy h a u)) (hS : va_S A s.heap H locs) (h1 : Ok (fX10_bestFirst_b92 k41 x1 x2 x3 x4 u) K) :
    kW p l e rmX10_bestFirst s m args below meth c H locs (va_Qi (fun r q => K (r, q)) (fun q => kPost D A (wM cy h a q)) A) A 92 ls [] := by
  obtain ⟨hx, hb, hr, hml, hown, hts, hlocks, hK, hA⟩ := id E
  unfold fX10_bestFirst_b92 at h1
  refine lv_aload_n hx hb dX10_bestFirst_92 rfl (lv_at hl 0 rfl) ?_
  refine k_get (v := .ref (a 2)) (C := RX10) (T := TX10) (N := 23) hx hb hts inX10_bestFirst_X10 hown hK hP 0 (wM_a0 _ _ _ _) rfl 2 (by decide) lkX10_bestFirst_16 (mFs_2 _ _) dX10_bestFirst_93 ?_
  refine lv_iconst (v := 0) hx hb dX10_bestFirst_96 rfl ?_
  refine lv_aload_n hx hb dX10_bestFirst_97 rfl (lv_at hl 0 rfl) ?_
  refine k_get (v := .ref (a 0)) (C := RX10) (T := TX10) (N := 23) hx hb hts inX10_bestFirst_X10 hown hK hP 0 (wM_a0 _ _ _ _) rfl 0 (by decide) lkX10_bestFirst_7 (mFs_0 _ _) dX10_bestFirst_98 ?_
  refine lv_iconst (v := 0) hx hb dX10_bestFirst_101 rfl ?_
  refine kc_vS (As := [.ref (a 2), .int 0, .ref (a 0), .int 0]) (rest := []) h1 ⟨hx, hb, hml, hown, hts⟩ (cX10_copyM l D cy (a 2) (a 0) H.size 561 (mTr u) 561 (mSt u) 0 0) (va_cwS 4 hts gX10_bestFirst_X10_copy rfl rfl rfl heX10_copy ⟨Nat.le_of_ble_eq_true rfl, Nat.le_of_ble_eq_true rfl⟩) hK (k_pick2 (i := 3) (j := 1) rfl rfl) hP hD hS hA rfl hl.1 rfl (Nat.le_of_ble_eq_true rfl) dX10_bestFirst_102 ⟨Nat.zero_le _, Nat.zero_le _⟩ (fun u102 H locs h1 hP hD hS => ?_)
  replace hP := kP_perm (k_pick2 (l := wM cy h a (nStA u u102)) (i := 3) (j := 1) rfl rfl).symm hP
  replace hD := kD_perm (k_pick2 (l := wM cy h a (nStA u u102)) (i := 3) (j := 1) rfl rfl).symm hD
  refine lv_iinc (v := x4 + 1) (lv' := [(4, .int (x4 + 1)), (0, .ref h), (1, .int x1), (2, .int x2), (3, .int x3)]) hx hb dX10_bestFirst_105 hl (k := 4) rfl rfl (by decide) rfl (fun ls hl => ?_)
  refine lv_goto (tgt := 41) hx hb dX10_bestFirst_108 (by decide) ?_
  exact hk41 x1 x2 x3 (x4 + 1) (nStA u u102) H locs ls (lv_sub hl [1, 2, 3, 4, 0] rfl) hP hD hS h1
def fX10_bestFirst_b41 (k41 : Int32 × Int32 × Int32 × Int32 × RS → Option (Int32 × RS)) (x1 : Int32) (x2 : Int32) (x3 : Int32) (x4 : Int32) (u : RS) : Option (Int32 × RS) :=
  (if (mTr u 14) ≤ x4 then some (x2, u) else grd (inb (41 + x4) 561) (bnd2 (fX10_moveToFront (mTr u (ix (41 + x4))) (mSt u)) (fun r68 u68 => bnd2 (fX10_tickMany x1 (mSt (nStA u u68))) (fun r75 u75 => (if r75 ≤ x3 then fX10_bestFirst_b92 k41 x1 x2 x3 x4 (nStA (nStA u u68) u75) else fX10_bestFirst_b92 k41 x1 (mTr u (ix (41 + x4))) r75 x4 (nStA (nStA u u68) u75))))))
set_option maxHeartbeats 4000000 in
set_option maxRecDepth 100000 in
theorem tX10_bestFirst_b41 {p : Program} {l : Launch} {e : Env} {s : State} {m : MethodId} {args : Array Value} {below : List Frame} {meth : Method} {c : Code} {D : va_G} {cy : Nat → ClassId} {A : Nat → Prop} {h : Nat} {a : Nat → Nat} (K : Int32 × RS → Prop) (E : mE D cy RX10 cX10_bestFirst 8 (some .int) wsX10_bestFirst A p s m args meth c)
    (k41 : Int32 × Int32 × Int32 × Int32 × RS → Option (Int32 × RS)) (hk41 : ∀ (x1 : Int32) (x2 : Int32) (x3 : Int32) (x4 : Int32) (u : RS) (H : Heap) (locs : List Loc) (ls : Array Slot), lv_has ls 8 [(0, .ref h), (1, .int x1), (2, .int x2), (3, .int x3), (4, .int x4)] → va_P D vwCl (wM cy h a u) H → va_D A (wM cy h a u) → va_S A s.heap H locs → Ok (k41 (x1, x2, x3, x4, u)) K → kW p l e rmX10_bestFirst s m args below meth c H locs (va_Qi (fun r q => K (r, q)) (fun q => kPost D A (wM cy h a q)) A) A 41 ls [])
     (x1 : Int32) (x2 : Int32) (x3 : Int32) (x4 : Int32) (u : RS) (H : Heap) (locs : List Loc) (ls : Array Slot) (hl : lv_has ls 8 [(0, .ref h), (1, .int x1), (2, .int x2), (3, .int x3), (4, .int x4)]) (hP : va_P D vwCl (wM cy h a u) H) (hD : va_D A (wM cy h a u)) (hS : va_S A s.heap H locs) (h1 : Ok (fX10_bestFirst_b41 k41 x1 x2 x3 x4 u) K) :
    kW p l e rmX10_bestFirst s m args below meth c H locs (va_Qi (fun r q => K (r, q)) (fun q => kPost D A (wM cy h a q)) A) A 41 ls [] := by
  obtain ⟨hx, hb, hr, hml, hown, hts, hlocks, hK, hA⟩ := id E
  unfold fX10_bestFirst_b41 at h1
  refine lv_iload hx hb dX10_bestFirst_41 (lv_at hl 4 rfl) ?_
  refine lv_aload_n hx hb dX10_bestFirst_43 rfl (lv_at hl 0 rfl) ?_
  refine k_get (v := .ref (a 2)) (C := RX10) (T := TX10) (N := 23) hx hb hts inX10_bestFirst_X10 hown hK hP 0 (wM_a0 _ _ _ _) rfl 2 (by decide) lkX10_bestFirst_16 (mFs_2 _ _) dX10_bestFirst_44 ?_
  refine lv_bipush (v := 14) hx hb dX10_bestFirst_47 rfl ?_
  refine k_iald (k := 14) hx hb hK hP 3 (wM_a3 _ _ _ _) rfl rfl dX10_bestFirst_49 ?_
  refine lv_icmp_ge (tgt := 111) hx hb dX10_bestFirst_50 (by decide) (fun c50 => ?_) (fun c50 => ?_)
  · replace h1 := Ok.pos c50 h1
    refine lv_iload_n hx hb dX10_bestFirst_111 rfl (lv_at hl 2 rfl) ?_
    exact kret_i hx hb hr hlocks hP hD hS h1 dX10_bestFirst_112
  · replace h1 := Ok.neg c50 h1
    refine lv_aload_n hx hb dX10_bestFirst_53 rfl (lv_at hl 0 rfl) ?_
    refine k_get (v := .ref (a 2)) (C := RX10) (T := TX10) (N := 23) hx hb hts inX10_bestFirst_X10 hown hK hP 0 (wM_a0 _ _ _ _) rfl 2 (by decide) lkX10_bestFirst_16 (mFs_2 _ _) dX10_bestFirst_54 ?_
    refine lv_bipush (v := 41) hx hb dX10_bestFirst_57 rfl ?_
    refine lv_iload hx hb dX10_bestFirst_59 (lv_at hl 4 rfl) ?_
    refine lv_iadd hx hb dX10_bestFirst_61 ?_
    have g62 := h1.grd1
    replace h1 := h1.grd2
    refine k_iald (k := (ix (41 + x4))) hx hb hK hP 3 (wM_a3 _ _ _ _) g62 rfl dX10_bestFirst_62 ?_
    refine lv_istore (lv' := [(5, .int (mTr u (ix (41 + x4)))), (0, .ref h), (1, .int x1), (2, .int x2), (3, .int x3), (4, .int x4)]) hx hb dX10_bestFirst_63 hl (by decide) rfl (fun ls hl => ?_)
    refine lv_aload_n hx hb dX10_bestFirst_65 rfl (lv_at hl 1 rfl) ?_
    refine lv_iload hx hb dX10_bestFirst_66 (lv_at hl 0 rfl) ?_
    refine kc_iV (b := h) (As := [.int (mTr u (ix (41 + x4)))]) (rest := []) h1 ⟨hx, hb, hml, hown, hts⟩ (cX10_moveToFrontM l D cy h (a 0) (mRest a u) H.size (mSt u) (mTr u (ix (41 + x4)))) (cwV 1 hts gX10_bestFirst_X10_moveToFront rfl rfl rfl hdX10_moveToFront ⟨Nat.le_of_ble_eq_true rfl, Nat.le_of_ble_eq_true rfl⟩) hK (wM_split _ _ _ _) hP hD hS hA (q0 := 0) rfl rfl rfl hl.1 rfl (Nat.le_of_ble_eq_true rfl) dX10_bestFirst_68 ⟨Nat.zero_le _, Nat.zero_le _⟩ (fun r68 u68 H locs h1 hP hD hS => ?_)
    rw [wM_back] at hP hD
    refine lv_istore (lv' := [(6, .int r68), (5, .int (mTr u (ix (41 + x4)))), (0, .ref h), (1, .int x1), (2, .int x2), (3, .int x3), (4, .int x4)]) hx hb dX10_bestFirst_71 hl (by decide) rfl (fun ls hl => ?_)
    refine lv_aload_n hx hb dX10_bestFirst_73 rfl (lv_at hl 2 rfl) ?_
    refine lv_iload_n hx hb dX10_bestFirst_74 rfl (lv_at hl 3 rfl) ?_
    refine kc_iV (b := h) (As := [.int x1]) (rest := []) h1 ⟨hx, hb, hml, hown, hts⟩ (cX10_tickManyM l D cy h (a 0) (mRest a (nStA u u68)) H.size (mSt (nStA u u68)) x1) (cwV 1 hts gX10_bestFirst_X10_tickMany rfl rfl rfl hdX10_tickMany ⟨Nat.le_of_ble_eq_true rfl, Nat.le_of_ble_eq_true rfl⟩) hK (wM_split _ _ _ _) hP hD hS hA (q0 := 0) rfl rfl rfl hl.1 rfl (Nat.le_of_ble_eq_true rfl) dX10_bestFirst_75 ⟨Nat.zero_le _, Nat.zero_le _⟩ (fun r75 u75 H locs h1 hP hD hS => ?_)
    rw [wM_back] at hP hD
    refine lv_istore (lv' := [(7, .int r75), (6, .int r68), (5, .int (mTr u (ix (41 + x4)))), (0, .ref h), (1, .int x1), (2, .int x2), (3, .int x3), (4, .int x4)]) hx hb dX10_bestFirst_78 hl (by decide) rfl (fun ls hl => ?_)
    refine lv_iload hx hb dX10_bestFirst_80 (lv_at hl 0 rfl) ?_
    refine lv_iload_n hx hb dX10_bestFirst_82 rfl (lv_at hl 6 rfl) ?_
    refine lv_icmp_le (tgt := 92) hx hb dX10_bestFirst_83 (by decide) (fun c83 => ?_) (fun c83 => ?_)
    · replace h1 := Ok.pos c83 h1
      exact tX10_bestFirst_b92 K E k41 hk41 x1 x2 x3 x4 (nStA (nStA u u68) u75) H locs ls (lv_sub hl [3, 4, 5, 6, 7] rfl) hP hD hS h1
    · replace h1 := Ok.neg c83 h1
      refine lv_iload hx hb dX10_bestFirst_86 (lv_at hl 2 rfl) ?_
      refine lv_istore_n (lv' := [(2, .int (mTr u (ix (41 + x4)))), (7, .int r75), (6, .int r68), (5, .int (mTr u (ix (41 + x4)))), (0, .ref h), (1, .int x1), (3, .int x3), (4, .int x4)]) hx hb dX10_bestFirst_88 rfl hl (by decide) rfl (fun ls hl => ?_)
      refine lv_iload hx hb dX10_bestFirst_89 (lv_at hl 1 rfl) ?_
      refine lv_istore_n (lv' := [(3, .int r75), (2, .int (mTr u (ix (41 + x4)))), (7, .int r75), (6, .int r68), (5, .int (mTr u (ix (41 + x4)))), (0, .ref h), (1, .int x1), (4, .int x4)]) hx hb dX10_bestFirst_91 rfl hl (by decide) rfl (fun ls hl => ?_)
      exact tX10_bestFirst_b92 K E k41 hk41 x1 (mTr u (ix (41 + x4))) r75 x4 (nStA (nStA u u68) u75) H locs ls (lv_sub hl [5, 6, 1, 0, 7] rfl) hP hD hS h1
theorem tX10_bestFirst_l41 {p : Program} {l : Launch} {e : Env} {s : State} {m : MethodId} {args : Array Value} {below : List Frame} {meth : Method} {c : Code} {D : va_G} {cy : Nat → ClassId} {A : Nat → Prop} {h : Nat} {a : Nat → Nat} (K : Int32 × RS → Prop) (E : mE D cy RX10 cX10_bestFirst 8 (some .int) wsX10_bestFirst A p s m args meth c) : ∀ (n9 : Nat) (x1 : Int32) (x2 : Int32) (x3 : Int32) (x4 : Int32) (u : RS) (H : Heap) (locs : List Loc) (ls : Array Slot), lv_has ls 8 [(0, .ref h), (1, .int x1), (2, .int x2), (3, .int x3), (4, .int x4)] → va_P D vwCl (wM cy h a u) H → va_D A (wM cy h a u) → va_S A s.heap H locs → Ok (lop (fun y z => fX10_bestFirst_b41 y z.1 z.2.1 z.2.2.1 z.2.2.2.1 z.2.2.2.2) n9 (x1, x2, x3, x4, u)) K → kW p l e rmX10_bestFirst s m args below meth c H locs (va_Qi (fun r q => K (r, q)) (fun q => kPost D A (wM cy h a q)) A) A 41 ls [] := by
  intro n9
  induction n9 with
  | zero =>
    intro x1 x2 x3 x4 u H locs ls hl hP hD hS h1
    exact h1.no
  | succ n9 ih =>
    intro x1 x2 x3 x4 u H locs ls hl hP hD hS h1
    exact tX10_bestFirst_b41 K E (lop (fun y z => fX10_bestFirst_b41 y z.1 z.2.1 z.2.2.1 z.2.2.2.1 z.2.2.2.2) n9) (fun x1 x2 x3 x4 u H locs ls hl hP hD hS h1 => ih x1 x2 x3 x4 u H locs ls hl hP hD hS h1) x1 x2 x3 x4 u H locs ls hl hP hD hS h1
def fX10_bestFirst_b0 (x1 : Int32) (u : RS) : Option (Int32 × RS) :=
  bnd (fX10_isBetween x1 1 99) (fun r9 => (if r9 = 0 then bnd2 (fX10_fail 1 (nTh u 0)) (fun r17 u17 => some (r17, u17)) else bnd (fX10_copy 0 0 561 (mSt (nTh u 0)) 561 (mTr (nTh u 0))) (fun u31 => lop (fun y z => fX10_bestFirst_b41 y z.1 z.2.1 z.2.2.1 z.2.2.2.1 z.2.2.2.2) LF (x1, (-1), (-1), 0, nTrA (nTh u 0) u31))))
set_option maxHeartbeats 4000000 in
set_option maxRecDepth 100000 in
theorem tX10_bestFirst_b0 {p : Program} {l : Launch} {e : Env} {s : State} {m : MethodId} {args : Array Value} {below : List Frame} {meth : Method} {c : Code} {D : va_G} {cy : Nat → ClassId} {A : Nat → Prop} {h : Nat} {a : Nat → Nat} (K : Int32 × RS → Prop) (E : mE D cy RX10 cX10_bestFirst 8 (some .int) wsX10_bestFirst A p s m args meth c)
     (x1 : Int32) (u : RS) (H : Heap) (locs : List Loc) (ls : Array Slot) (hl : lv_has ls 8 [(0, .ref h), (1, .int x1)]) (hP : va_P D vwCl (wM cy h a u) H) (hD : va_D A (wM cy h a u)) (hS : va_S A s.heap H locs) (h1 : Ok (fX10_bestFirst_b0 x1 u) K) :
    kW p l e rmX10_bestFirst s m args below meth c H locs (va_Qi (fun r q => K (r, q)) (fun q => kPost D A (wM cy h a q)) A) A 0 ls [] := by
  obtain ⟨hx, hb, hr, hml, hown, hts, hlocks, hK, hA⟩ := id E
  unfold fX10_bestFirst_b0 at h1
  refine lv_aload_n hx hb dX10_bestFirst_0 rfl (lv_at hl 0 rfl) ?_
  refine lv_iconst (v := 0) hx hb dX10_bestFirst_1 rfl ?_
  refine k_put (v := .int 0) (ty := .int) (C := RX10) (T := TX10) (N := 23) hx hb hts inX10_bestFirst_X10 tyX10 tyX10_ok nmX10 hown hK hP hD hS 0 (wM_a0 _ _ _ _) rfl 8 (by decide) lkX10_bestFirst_48 rfl (by decide +kernel) rfl rfl (Nat.le_of_ble_eq_true rfl) (ws' := wM cy h a (nTh u 0)) (wM_nTh _ _ _ _ _) dX10_bestFirst_2 (fun H locs hP hD hS => ?_)
  refine lv_iload_n hx hb dX10_bestFirst_5 rfl (lv_at hl 1 rfl) ?_
  refine lv_iconst (v := 1) hx hb dX10_bestFirst_6 rfl ?_
  refine lv_bipush (v := 99) hx hb dX10_bestFirst_7 rfl ?_
  refine kc_rS (As := [.int x1, .int 1, .int 99]) (rest := []) (wc := []) (wr := _) h1 ⟨hx, hb, hml, hown, hts⟩ (cX10_isBetweenM l D cy H.size x1 1 99) (va_cwS 3 hts gX10_bestFirst_X10_isBetween rfl rfl rfl heX10_isBetween ⟨Nat.le_of_ble_eq_true rfl, Nat.le_of_ble_eq_true rfl⟩) hK (List.Perm.refl _) hP hD hS hA rfl hl.1 rfl (Nat.le_of_ble_eq_true rfl) dX10_bestFirst_9 ⟨Nat.zero_le _, Nat.zero_le _⟩ (fun r9 H locs h1 hP hS => ?_)
  refine lv_if_ne (tgt := 21) hx hb dX10_bestFirst_12 (by decide) (fun c12 => ?_) (fun c12 => ?_)
  · replace h1 := Ok.neg c12 h1
    refine lv_aload_n hx hb dX10_bestFirst_21 rfl (lv_at hl 0 rfl) ?_
    refine k_get (v := .ref (a 0)) (C := RX10) (T := TX10) (N := 23) hx hb hts inX10_bestFirst_X10 hown hK hP 0 (wM_a0 _ _ _ _) rfl 0 (by decide) lkX10_bestFirst_7 (mFs_0 _ _) dX10_bestFirst_22 ?_
    refine lv_iconst (v := 0) hx hb dX10_bestFirst_25 rfl ?_
    refine lv_aload_n hx hb dX10_bestFirst_26 rfl (lv_at hl 0 rfl) ?_
    refine k_get (v := .ref (a 2)) (C := RX10) (T := TX10) (N := 23) hx hb hts inX10_bestFirst_X10 hown hK hP 0 (wM_a0 _ _ _ _) rfl 2 (by decide) lkX10_bestFirst_16 (mFs_2 _ _) dX10_bestFirst_27 ?_
    refine lv_iconst (v := 0) hx hb dX10_bestFirst_30 rfl ?_
    refine kc_vS (As := [.ref (a 0), .int 0, .ref (a 2), .int 0]) (rest := []) h1 ⟨hx, hb, hml, hown, hts⟩ (cX10_copyM l D cy (a 0) (a 2) H.size 561 (mSt (nTh u 0)) 561 (mTr (nTh u 0)) 0 0) (va_cwS 4 hts gX10_bestFirst_X10_copy rfl rfl rfl heX10_copy ⟨Nat.le_of_ble_eq_true rfl, Nat.le_of_ble_eq_true rfl⟩) hK (k_pick2 (i := 1) (j := 2) rfl rfl) hP hD hS hA rfl hl.1 rfl (Nat.le_of_ble_eq_true rfl) dX10_bestFirst_31 ⟨Nat.zero_le _, Nat.zero_le _⟩ (fun u31 H locs h1 hP hD hS => ?_)
    replace hP := kP_perm (k_pick2 (l := wM cy h a (nTrA (nTh u 0) u31)) (i := 1) (j := 2) rfl rfl).symm hP
    replace hD := kD_perm (k_pick2 (l := wM cy h a (nTrA (nTh u 0) u31)) (i := 1) (j := 2) rfl rfl).symm hD
    refine lv_iconst (v := (-1)) hx hb dX10_bestFirst_34 rfl ?_
    refine lv_istore_n (lv' := [(2, .int (-1)), (0, .ref h), (1, .int x1)]) hx hb dX10_bestFirst_35 rfl hl (by decide) rfl (fun ls hl => ?_)
    refine lv_iconst (v := (-1)) hx hb dX10_bestFirst_36 rfl ?_
    refine lv_istore_n (lv' := [(3, .int (-1)), (2, .int (-1)), (0, .ref h), (1, .int x1)]) hx hb dX10_bestFirst_37 rfl hl (by decide) rfl (fun ls hl => ?_)
    refine lv_iconst (v := 0) hx hb dX10_bestFirst_38 rfl ?_
    refine lv_istore (lv' := [(4, .int 0), (3, .int (-1)), (2, .int (-1)), (0, .ref h), (1, .int x1)]) hx hb dX10_bestFirst_39 hl (by decide) rfl (fun ls hl => ?_)
    exact tX10_bestFirst_l41 K E LF x1 (-1) (-1) 0 (nTrA (nTh u 0) u31) H locs ls (lv_sub hl [3, 4, 2, 1, 0] rfl) hP hD hS h1
  · replace h1 := Ok.pos c12 h1
    refine lv_aload_n hx hb dX10_bestFirst_15 rfl (lv_at hl 0 rfl) ?_
    refine lv_iconst (v := 1) hx hb dX10_bestFirst_16 rfl ?_
    refine kc_iV0 (b := h) (As := [.int 1]) (rest := []) h1 ⟨hx, hb, hml, hown, hts⟩ (cX10_failM l D cy h a H.size (nTh u 0) 1) (cwV 1 hts gX10_bestFirst_X10_fail rfl rfl rfl hdX10_fail ⟨Nat.le_of_ble_eq_true rfl, Nat.le_of_ble_eq_true rfl⟩) hK hP hD hS hA (q0 := 0) rfl rfl rfl hl.1 rfl (Nat.le_of_ble_eq_true rfl) dX10_bestFirst_17 ⟨Nat.zero_le _, Nat.zero_le _⟩ (fun r17 u17 H locs h1 hP hD hS => ?_)
    exact kret_i hx hb hr hlocks hP hD hS h1 dX10_bestFirst_20
def fX10_bestFirst (p1 : Int32) (u : RS) : Option (Int32 × RS) := fX10_bestFirst_b0 p1 u
set_option maxHeartbeats 4000000 in
set_option maxRecDepth 100000 in
theorem cX10_bestFirstM (l : Launch) (D : va_G) (cy : Nat → ClassId) (h : Nat) (a : Nat → Nat) (sz : Nat) (u : RS) (p1 : Int32) : ∀ (K : Int32 → RS → Prop), Ok (fX10_bestFirst p1 u) (fun q => K q.1 q.2) → Met l yX10_bestFirst wsX10_bestFirst rmX10_bestFirst (va_Pc [.ref h, .int p1] (kPre D cy sz (wM cy h a u))) (va_Qi K (fun q => kPost D (va_A (wM cy h a u) sz) (wM cy h a q)) (va_A (wM cy h a u) sz)) 0 0 (va_A (wM cy h a u) sz) := by
  intro K h1
  refine Met.ofW (cc := cX10_bestFirst) (maxL := 8) (ret := (some .int)) (by decide) rfl ?_
  intro p e s m args below meth c s₁ B hml hv
  obtain ⟨rfl, hsz, hP, hK, hD0⟩ := hv
  subst hsz
  have E : mE D cy RX10 cX10_bestFirst 8 (some .int) wsX10_bestFirst (va_A (wM cy h a u) s.heap.size) p s m _ meth c := ⟨B.exec, B.bytes, B.returns, hml, findClass_of_methodNamed B.named, atoms_spec (ws := wsX10_bestFirst) B.pre, B.notSynchronized, hK, fun q h => Or.inr h⟩
  have hl := lv_entry ([.ref h, .int p1]) (n := 8) (Nat.le_of_ble_eq_true rfl)
  rw [lg_entry_eq]
  generalize (lg_sl ([.ref h, .int p1]) ++ List.replicate (8 - (lg_sl ([.ref h, .int p1])).length) Slot.unset).toArray = ls at hl ⊢
  exact tX10_bestFirst_b0 (fun q => K q.1 q.2) E p1 u _ _ _ hl hP hD0.self va_S.rf h1
-- X10_appendText
theorem inX10_appendText_X10 : ∀ w ∈ u_ws RX10 TX10 23, w ∈ wsX10_appendText := k_lays 9 rfl
theorem lkX10_appendText_48 : Cond.fieldLink RX10 48 "FerryRampModel" "thrown" "I" ∈ wsX10_appendText := List.mem_of_getElem? (i := 1) rfl
theorem lkX10_appendText_158 : Cond.fieldLink RX10 158 "FerryRampModel" "textLength" "I" ∈ wsX10_appendText := List.mem_of_getElem? (i := 2) rfl
theorem lkX10_appendText_32 : Cond.fieldLink RX10 32 "FerryRampModel" "text" "[I" ∈ wsX10_appendText := List.mem_of_getElem? (i := 3) rfl
abbrev rmX10_appendText : Room := { frames := 1, cells := 0, slots := 0, locals := 21 }
def fX10_appendText_b26 (k26 : Int32 × Int32 × RS → Option (Int32 × RS)) (x1 : Int32) (x2 : Int32) (u : RS) : Option (Int32 × RS) :=
  (if x2 < 0 then some (mTl u, u) else grd (inb (mTl u) 500) (k26 (x1, x2 + (-8), nTl (nTx u (ix (mTl u)) ((x1 >>> (x2 &&& 31)) &&& 255)) ((mTl (nTx u (ix (mTl u)) ((x1 >>> (x2 &&& 31)) &&& 255))) + 1))))
set_option maxHeartbeats 4000000 in
set_option maxRecDepth 100000 in
theorem tX10_appendText_b26 {p : Program} {l : Launch} {e : Env} {s : State} {m : MethodId} {args : Array Value} {below : List Frame} {meth : Method} {c : Code} {D : va_G} {cy : Nat → ClassId} {A : Nat → Prop} {h : Nat} {a : Nat → Nat} (K : Int32 × RS → Prop) (E : mE D cy RX10 cX10_appendText 3 (some .int) wsX10_appendText A p s m args meth c)
    (k26 : Int32 × Int32 × RS → Option (Int32 × RS)) (hk26 : ∀ (x1 : Int32) (x2 : Int32) (u : RS) (H : Heap) (locs : List Loc) (ls : Array Slot), lv_has ls 3 [(0, .ref h), (1, .int x1), (2, .int x2)] → va_P D vwCl (wM cy h a u) H → va_D A (wM cy h a u) → va_S A s.heap H locs → Ok (k26 (x1, x2, u)) K → kW p l e rmX10_appendText s m args below meth c H locs (va_Qi (fun r q => K (r, q)) (fun q => kPost D A (wM cy h a q)) A) A 26 ls [])
     (x1 : Int32) (x2 : Int32) (u : RS) (H : Heap) (locs : List Loc) (ls : Array Slot) (hl : lv_has ls 3 [(0, .ref h), (1, .int x1), (2, .int x2)]) (hP : va_P D vwCl (wM cy h a u) H) (hD : va_D A (wM cy h a u)) (hS : va_S A s.heap H locs) (h1 : Ok (fX10_appendText_b26 k26 x1 x2 u) K) :
    kW p l e rmX10_appendText s m args below meth c H locs (va_Qi (fun r q => K (r, q)) (fun q => kPost D A (wM cy h a q)) A) A 26 ls [] := by
  obtain ⟨hx, hb, hr, hml, hown, hts, hlocks, hK, hA⟩ := id E
  unfold fX10_appendText_b26 at h1
  refine lv_iload_n hx hb dX10_appendText_26 rfl (lv_at hl 2 rfl) ?_
  refine lv_if_lt (tgt := 62) hx hb dX10_appendText_27 (by decide) (fun c27 => ?_) (fun c27 => ?_)
  · replace h1 := Ok.pos c27 h1
    refine lv_aload_n hx hb dX10_appendText_62 rfl (lv_at hl 0 rfl) ?_
    refine k_get (v := .int (mTl u)) (C := RX10) (T := TX10) (N := 23) hx hb hts inX10_appendText_X10 hown hK hP 0 (wM_a0 _ _ _ _) rfl 12 (by decide) lkX10_appendText_158 (mFs_12 _ _) dX10_appendText_63 ?_
    exact kret_i hx hb hr hlocks hP hD hS h1 dX10_appendText_66
  · replace h1 := Ok.neg c27 h1
    refine lv_aload_n hx hb dX10_appendText_30 rfl (lv_at hl 0 rfl) ?_
    refine k_get (v := .ref (a 7)) (C := RX10) (T := TX10) (N := 23) hx hb hts inX10_appendText_X10 hown hK hP 0 (wM_a0 _ _ _ _) rfl 9 (by decide) lkX10_appendText_32 (mFs_9 _ _) dX10_appendText_31 ?_
    refine lv_aload_n hx hb dX10_appendText_34 rfl (lv_at hl 0 rfl) ?_
    refine k_get (v := .int (mTl u)) (C := RX10) (T := TX10) (N := 23) hx hb hts inX10_appendText_X10 hown hK hP 0 (wM_a0 _ _ _ _) rfl 12 (by decide) lkX10_appendText_158 (mFs_12 _ _) dX10_appendText_35 ?_
    refine lv_iload_n hx hb dX10_appendText_38 rfl (lv_at hl 1 rfl) ?_
    refine lv_iload_n hx hb dX10_appendText_39 rfl (lv_at hl 2 rfl) ?_
    refine lv_ishr hx hb dX10_appendText_40 ?_
    refine lv_sipush (v := 255) hx hb dX10_appendText_41 rfl ?_
    refine lv_iand hx hb dX10_appendText_44 ?_
    have g45 := h1.grd1
    replace h1 := h1.grd2
    refine k_iast (k := (ix (mTl u))) (ws' := wM cy h a (nTx u (ix (mTl u)) ((x1 >>> (x2 &&& 31)) &&& 255))) hx hb hK hP hD hS 8 (wM_a8 _ _ _ _) g45 rfl (wM_nTx _ _ _ _ _ _) dX10_appendText_45 (fun H locs hP hD hS => ?_)
    refine lv_aload_n hx hb dX10_appendText_46 rfl (lv_at hl 0 rfl) ?_
    refine lv_dup hx hb dX10_appendText_47 rfl ?_
    refine k_get (v := .int (mTl (nTx u (ix (mTl u)) ((x1 >>> (x2 &&& 31)) &&& 255)))) (C := RX10) (T := TX10) (N := 23) hx hb hts inX10_appendText_X10 hown hK hP 0 (wM_a0 _ _ _ _) rfl 12 (by decide) lkX10_appendText_158 (mFs_12 _ _) dX10_appendText_48 ?_
    refine lv_iconst (v := 1) hx hb dX10_appendText_51 rfl ?_
    refine lv_iadd hx hb dX10_appendText_52 ?_
    refine k_put (v := .int ((mTl (nTx u (ix (mTl u)) ((x1 >>> (x2 &&& 31)) &&& 255))) + 1)) (ty := .int) (C := RX10) (T := TX10) (N := 23) hx hb hts inX10_appendText_X10 tyX10 tyX10_ok nmX10 hown hK hP hD hS 0 (wM_a0 _ _ _ _) rfl 12 (by decide) lkX10_appendText_158 rfl (by decide +kernel) rfl rfl (Nat.le_of_ble_eq_true rfl) (ws' := wM cy h a (nTl (nTx u (ix (mTl u)) ((x1 >>> (x2 &&& 31)) &&& 255)) ((mTl (nTx u (ix (mTl u)) ((x1 >>> (x2 &&& 31)) &&& 255))) + 1))) (wM_nTl _ _ _ _ _) dX10_appendText_53 (fun H locs hP hD hS => ?_)
    refine lv_iinc (v := x2 + (-8)) (lv' := [(2, .int (x2 + (-8))), (0, .ref h), (1, .int x1)]) hx hb dX10_appendText_56 hl (k := 2) rfl rfl (by decide) rfl (fun ls hl => ?_)
    refine lv_goto (tgt := 26) hx hb dX10_appendText_59 (by decide) ?_
    exact hk26 x1 (x2 + (-8)) (nTl (nTx u (ix (mTl u)) ((x1 >>> (x2 &&& 31)) &&& 255)) ((mTl (nTx u (ix (mTl u)) ((x1 >>> (x2 &&& 31)) &&& 255))) + 1)) H locs ls (lv_sub hl [1, 2, 0] rfl) hP hD hS h1
theorem tX10_appendText_l26 {p : Program} {l : Launch} {e : Env} {s : State} {m : MethodId} {args : Array Value} {below : List Frame} {meth : Method} {c : Code} {D : va_G} {cy : Nat → ClassId} {A : Nat → Prop} {h : Nat} {a : Nat → Nat} (K : Int32 × RS → Prop) (E : mE D cy RX10 cX10_appendText 3 (some .int) wsX10_appendText A p s m args meth c) : ∀ (n9 : Nat) (x1 : Int32) (x2 : Int32) (u : RS) (H : Heap) (locs : List Loc) (ls : Array Slot), lv_has ls 3 [(0, .ref h), (1, .int x1), (2, .int x2)] → va_P D vwCl (wM cy h a u) H → va_D A (wM cy h a u) → va_S A s.heap H locs → Ok (lop (fun y z => fX10_appendText_b26 y z.1 z.2.1 z.2.2) n9 (x1, x2, u)) K → kW p l e rmX10_appendText s m args below meth c H locs (va_Qi (fun r q => K (r, q)) (fun q => kPost D A (wM cy h a q)) A) A 26 ls [] := by
  intro n9
  induction n9 with
  | zero =>
    intro x1 x2 u H locs ls hl hP hD hS h1
    exact h1.no
  | succ n9 ih =>
    intro x1 x2 u H locs ls hl hP hD hS h1
    exact tX10_appendText_b26 K E (lop (fun y z => fX10_appendText_b26 y z.1 z.2.1 z.2.2) n9) (fun x1 x2 u H locs ls hl hP hD hS h1 => ih x1 x2 u H locs ls hl hP hD hS h1) x1 x2 u H locs ls hl hP hD hS h1
def fX10_appendText_b0 (x1 : Int32) (u : RS) : Option (Int32 × RS) :=
  (if ((mTl (nTh u 0)) + 4) ≤ 500 then lop (fun y z => fX10_appendText_b26 y z.1 z.2.1 z.2.2) LF (x1, 24, nTh u 0) else bnd2 (fX10_fail 1 (nTh u 0)) (fun r19 u19 => some (r19, u19)))
set_option maxHeartbeats 4000000 in
set_option maxRecDepth 100000 in
theorem tX10_appendText_b0 {p : Program} {l : Launch} {e : Env} {s : State} {m : MethodId} {args : Array Value} {below : List Frame} {meth : Method} {c : Code} {D : va_G} {cy : Nat → ClassId} {A : Nat → Prop} {h : Nat} {a : Nat → Nat} (K : Int32 × RS → Prop) (E : mE D cy RX10 cX10_appendText 3 (some .int) wsX10_appendText A p s m args meth c)
     (x1 : Int32) (u : RS) (H : Heap) (locs : List Loc) (ls : Array Slot) (hl : lv_has ls 3 [(0, .ref h), (1, .int x1)]) (hP : va_P D vwCl (wM cy h a u) H) (hD : va_D A (wM cy h a u)) (hS : va_S A s.heap H locs) (h1 : Ok (fX10_appendText_b0 x1 u) K) :
    kW p l e rmX10_appendText s m args below meth c H locs (va_Qi (fun r q => K (r, q)) (fun q => kPost D A (wM cy h a q)) A) A 0 ls [] := by
  obtain ⟨hx, hb, hr, hml, hown, hts, hlocks, hK, hA⟩ := id E
  unfold fX10_appendText_b0 at h1
  refine lv_aload_n hx hb dX10_appendText_0 rfl (lv_at hl 0 rfl) ?_
  refine lv_iconst (v := 0) hx hb dX10_appendText_1 rfl ?_
  refine k_put (v := .int 0) (ty := .int) (C := RX10) (T := TX10) (N := 23) hx hb hts inX10_appendText_X10 tyX10 tyX10_ok nmX10 hown hK hP hD hS 0 (wM_a0 _ _ _ _) rfl 8 (by decide) lkX10_appendText_48 rfl (by decide +kernel) rfl rfl (Nat.le_of_ble_eq_true rfl) (ws' := wM cy h a (nTh u 0)) (wM_nTh _ _ _ _ _) dX10_appendText_2 (fun H locs hP hD hS => ?_)
  refine lv_aload_n hx hb dX10_appendText_5 rfl (lv_at hl 0 rfl) ?_
  refine k_get (v := .int (mTl (nTh u 0))) (C := RX10) (T := TX10) (N := 23) hx hb hts inX10_appendText_X10 hown hK hP 0 (wM_a0 _ _ _ _) rfl 12 (by decide) lkX10_appendText_158 (mFs_12 _ _) dX10_appendText_6 ?_
  refine lv_iconst (v := 4) hx hb dX10_appendText_9 rfl ?_
  refine lv_iadd hx hb dX10_appendText_10 ?_
  refine lv_sipush (v := 500) hx hb dX10_appendText_11 rfl ?_
  refine lv_icmp_le (tgt := 23) hx hb dX10_appendText_14 (by decide) (fun c14 => ?_) (fun c14 => ?_)
  · replace h1 := Ok.pos c14 h1
    refine lv_bipush (v := 24) hx hb dX10_appendText_23 rfl ?_
    refine lv_istore_n (lv' := [(2, .int 24), (0, .ref h), (1, .int x1)]) hx hb dX10_appendText_25 rfl hl (by decide) rfl (fun ls hl => ?_)
    exact tX10_appendText_l26 K E LF x1 24 (nTh u 0) H locs ls (lv_sub hl [1, 2, 0] rfl) hP hD hS h1
  · replace h1 := Ok.neg c14 h1
    refine lv_aload_n hx hb dX10_appendText_17 rfl (lv_at hl 0 rfl) ?_
    refine lv_iconst (v := 1) hx hb dX10_appendText_18 rfl ?_
    refine kc_iV0 (b := h) (As := [.int 1]) (rest := []) h1 ⟨hx, hb, hml, hown, hts⟩ (cX10_failM l D cy h a H.size (nTh u 0) 1) (cwV 1 hts gX10_appendText_X10_fail rfl rfl rfl hdX10_fail ⟨Nat.le_of_ble_eq_true rfl, Nat.le_of_ble_eq_true rfl⟩) hK hP hD hS hA (q0 := 0) rfl rfl rfl hl.1 rfl (Nat.le_of_ble_eq_true rfl) dX10_appendText_19 ⟨Nat.zero_le _, Nat.zero_le _⟩ (fun r19 u19 H locs h1 hP hD hS => ?_)
    exact kret_i hx hb hr hlocks hP hD hS h1 dX10_appendText_22
def fX10_appendText (p1 : Int32) (u : RS) : Option (Int32 × RS) := fX10_appendText_b0 p1 u
set_option maxHeartbeats 4000000 in
set_option maxRecDepth 100000 in
theorem cX10_appendTextM (l : Launch) (D : va_G) (cy : Nat → ClassId) (h : Nat) (a : Nat → Nat) (sz : Nat) (u : RS) (p1 : Int32) : ∀ (K : Int32 → RS → Prop), Ok (fX10_appendText p1 u) (fun q => K q.1 q.2) → Met l yX10_appendText wsX10_appendText rmX10_appendText (va_Pc [.ref h, .int p1] (kPre D cy sz (wM cy h a u))) (va_Qi K (fun q => kPost D (va_A (wM cy h a u) sz) (wM cy h a q)) (va_A (wM cy h a u) sz)) 0 0 (va_A (wM cy h a u) sz) := by
  intro K h1
  refine Met.ofW (cc := cX10_appendText) (maxL := 3) (ret := (some .int)) (by decide) rfl ?_
  intro p e s m args below meth c s₁ B hml hv
  obtain ⟨rfl, hsz, hP, hK, hD0⟩ := hv
  subst hsz
  have E : mE D cy RX10 cX10_appendText 3 (some .int) wsX10_appendText (va_A (wM cy h a u) s.heap.size) p s m _ meth c := ⟨B.exec, B.bytes, B.returns, hml, findClass_of_methodNamed B.named, atoms_spec (ws := wsX10_appendText) B.pre, B.notSynchronized, hK, fun q h => Or.inr h⟩
  have hl := lv_entry ([.ref h, .int p1]) (n := 3) (Nat.le_of_ble_eq_true rfl)
  rw [lg_entry_eq]
  generalize (lg_sl ([.ref h, .int p1]) ++ List.replicate (3 - (lg_sl ([.ref h, .int p1])).length) Slot.unset).toArray = ls at hl ⊢
  exact tX10_appendText_b0 (fun q => K q.1 q.2) E p1 u _ _ _ hl hP hD0.self va_S.rf h1
-- X10_truncateText
theorem inX10_truncateText_X10 : ∀ w ∈ u_ws RX10 TX10 23, w ∈ wsX10_truncateText := k_lays 11 rfl
theorem lkX10_truncateText_48 : Cond.fieldLink RX10 48 "FerryRampModel" "thrown" "I" ∈ wsX10_truncateText := List.mem_of_getElem? (i := 1) rfl
theorem lkX10_truncateText_158 : Cond.fieldLink RX10 158 "FerryRampModel" "textLength" "I" ∈ wsX10_truncateText := List.mem_of_getElem? (i := 2) rfl
abbrev rmX10_truncateText : Room := { frames := 1, cells := 0, slots := 0, locals := 22 }
def fX10_truncateText_b0 (x1 : Int32) (u : RS) : Option (Int32 × RS) :=
  bnd (fX10_isBetween x1 0 (mTl (nTh u 0))) (fun r11 => (if r11 = 0 then bnd2 (fX10_fail 1 (nTh u 0)) (fun r19 u19 => some (r19, u19)) else some (mTl (nTl (nTh u 0) x1), nTl (nTh u 0) x1)))
set_option maxHeartbeats 4000000 in
set_option maxRecDepth 100000 in
theorem tX10_truncateText_b0 {p : Program} {l : Launch} {e : Env} {s : State} {m : MethodId} {args : Array Value} {below : List Frame} {meth : Method} {c : Code} {D : va_G} {cy : Nat → ClassId} {A : Nat → Prop} {h : Nat} {a : Nat → Nat} (K : Int32 × RS → Prop) (E : mE D cy RX10 cX10_truncateText 2 (some .int) wsX10_truncateText A p s m args meth c)
     (x1 : Int32) (u : RS) (H : Heap) (locs : List Loc) (ls : Array Slot) (hl : lv_has ls 2 [(0, .ref h), (1, .int x1)]) (hP : va_P D vwCl (wM cy h a u) H) (hD : va_D A (wM cy h a u)) (hS : va_S A s.heap H locs) (h1 : Ok (fX10_truncateText_b0 x1 u) K) :
    kW p l e rmX10_truncateText s m args below meth c H locs (va_Qi (fun r q => K (r, q)) (fun q => kPost D A (wM cy h a q)) A) A 0 ls [] := by
  obtain ⟨hx, hb, hr, hml, hown, hts, hlocks, hK, hA⟩ := id E
  unfold fX10_truncateText_b0 at h1
  refine lv_aload_n hx hb dX10_truncateText_0 rfl (lv_at hl 0 rfl) ?_
  refine lv_iconst (v := 0) hx hb dX10_truncateText_1 rfl ?_
  refine k_put (v := .int 0) (ty := .int) (C := RX10) (T := TX10) (N := 23) hx hb hts inX10_truncateText_X10 tyX10 tyX10_ok nmX10 hown hK hP hD hS 0 (wM_a0 _ _ _ _) rfl 8 (by decide) lkX10_truncateText_48 rfl (by decide +kernel) rfl rfl (Nat.le_of_ble_eq_true rfl) (ws' := wM cy h a (nTh u 0)) (wM_nTh _ _ _ _ _) dX10_truncateText_2 (fun H locs hP hD hS => ?_)
  refine lv_iload_n hx hb dX10_truncateText_5 rfl (lv_at hl 1 rfl) ?_
  refine lv_iconst (v := 0) hx hb dX10_truncateText_6 rfl ?_
  refine lv_aload_n hx hb dX10_truncateText_7 rfl (lv_at hl 0 rfl) ?_
  refine k_get (v := .int (mTl (nTh u 0))) (C := RX10) (T := TX10) (N := 23) hx hb hts inX10_truncateText_X10 hown hK hP 0 (wM_a0 _ _ _ _) rfl 12 (by decide) lkX10_truncateText_158 (mFs_12 _ _) dX10_truncateText_8 ?_
  refine kc_rS (As := [.int x1, .int 0, .int (mTl (nTh u 0))]) (rest := []) (wc := []) (wr := _) h1 ⟨hx, hb, hml, hown, hts⟩ (cX10_isBetweenM l D cy H.size x1 0 (mTl (nTh u 0))) (va_cwS 3 hts gX10_truncateText_X10_isBetween rfl rfl rfl heX10_isBetween ⟨Nat.le_of_ble_eq_true rfl, Nat.le_of_ble_eq_true rfl⟩) hK (List.Perm.refl _) hP hD hS hA rfl hl.1 rfl (Nat.le_of_ble_eq_true rfl) dX10_truncateText_11 ⟨Nat.zero_le _, Nat.zero_le _⟩ (fun r11 H locs h1 hP hS => ?_)
  refine lv_if_ne (tgt := 23) hx hb dX10_truncateText_14 (by decide) (fun c14 => ?_) (fun c14 => ?_)
  · replace h1 := Ok.neg c14 h1
    refine lv_aload_n hx hb dX10_truncateText_23 rfl (lv_at hl 0 rfl) ?_
    refine lv_iload_n hx hb dX10_truncateText_24 rfl (lv_at hl 1 rfl) ?_
    refine k_put (v := .int x1) (ty := .int) (C := RX10) (T := TX10) (N := 23) hx hb hts inX10_truncateText_X10 tyX10 tyX10_ok nmX10 hown hK hP hD hS 0 (wM_a0 _ _ _ _) rfl 12 (by decide) lkX10_truncateText_158 rfl (by decide +kernel) rfl rfl (Nat.le_of_ble_eq_true rfl) (ws' := wM cy h a (nTl (nTh u 0) x1)) (wM_nTl _ _ _ _ _) dX10_truncateText_25 (fun H locs hP hD hS => ?_)
    refine lv_aload_n hx hb dX10_truncateText_28 rfl (lv_at hl 0 rfl) ?_
    refine k_get (v := .int (mTl (nTl (nTh u 0) x1))) (C := RX10) (T := TX10) (N := 23) hx hb hts inX10_truncateText_X10 hown hK hP 0 (wM_a0 _ _ _ _) rfl 12 (by decide) lkX10_truncateText_158 (mFs_12 _ _) dX10_truncateText_29 ?_
    exact kret_i hx hb hr hlocks hP hD hS h1 dX10_truncateText_32
  · replace h1 := Ok.pos c14 h1
    refine lv_aload_n hx hb dX10_truncateText_17 rfl (lv_at hl 0 rfl) ?_
    refine lv_iconst (v := 1) hx hb dX10_truncateText_18 rfl ?_
    refine kc_iV0 (b := h) (As := [.int 1]) (rest := []) h1 ⟨hx, hb, hml, hown, hts⟩ (cX10_failM l D cy h a H.size (nTh u 0) 1) (cwV 1 hts gX10_truncateText_X10_fail rfl rfl rfl hdX10_fail ⟨Nat.le_of_ble_eq_true rfl, Nat.le_of_ble_eq_true rfl⟩) hK hP hD hS hA (q0 := 0) rfl rfl rfl hl.1 rfl (Nat.le_of_ble_eq_true rfl) dX10_truncateText_19 ⟨Nat.zero_le _, Nat.zero_le _⟩ (fun r19 u19 H locs h1 hP hD hS => ?_)
    exact kret_i hx hb hr hlocks hP hD hS h1 dX10_truncateText_22
def fX10_truncateText (p1 : Int32) (u : RS) : Option (Int32 × RS) := fX10_truncateText_b0 p1 u
set_option maxHeartbeats 4000000 in
set_option maxRecDepth 100000 in
theorem cX10_truncateTextM (l : Launch) (D : va_G) (cy : Nat → ClassId) (h : Nat) (a : Nat → Nat) (sz : Nat) (u : RS) (p1 : Int32) : ∀ (K : Int32 → RS → Prop), Ok (fX10_truncateText p1 u) (fun q => K q.1 q.2) → Met l yX10_truncateText wsX10_truncateText rmX10_truncateText (va_Pc [.ref h, .int p1] (kPre D cy sz (wM cy h a u))) (va_Qi K (fun q => kPost D (va_A (wM cy h a u) sz) (wM cy h a q)) (va_A (wM cy h a u) sz)) 0 0 (va_A (wM cy h a u) sz) := by
  intro K h1
  refine Met.ofW (cc := cX10_truncateText) (maxL := 2) (ret := (some .int)) (by decide) rfl ?_
  intro p e s m args below meth c s₁ B hml hv
  obtain ⟨rfl, hsz, hP, hK, hD0⟩ := hv
  subst hsz
  have E : mE D cy RX10 cX10_truncateText 2 (some .int) wsX10_truncateText (va_A (wM cy h a u) s.heap.size) p s m _ meth c := ⟨B.exec, B.bytes, B.returns, hml, findClass_of_methodNamed B.named, atoms_spec (ws := wsX10_truncateText) B.pre, B.notSynchronized, hK, fun q h => Or.inr h⟩
  have hl := lv_entry ([.ref h, .int p1]) (n := 2) (Nat.le_of_ble_eq_true rfl)
  rw [lg_entry_eq]
  generalize (lg_sl ([.ref h, .int p1]) ++ List.replicate (2 - (lg_sl ([.ref h, .int p1])).length) Slot.unset).toArray = ls at hl ⊢
  exact tX10_truncateText_b0 (fun q => K q.1 q.2) E p1 u _ _ _ hl hP hD0.self va_S.rf h1
