-- X9_accept
theorem inX9_accept_X9 : ∀ w ∈ u_ws RX9 TX9 9, w ∈ wsX9_accept := k_lays 34 rfl
theorem wF_c0 (cy : Nat → ClassId) (ad : Nat → Nat) (hh : Nat → Nat) (aa : Nat → Nat → Nat) (pa : Nat → Nat) (u : FS) : (wF cy ad hh aa pa u)[0]? = some ((ad 0), .inr (3, fFs ad hh pa u)) := fl_atj (l := wFl cy ad hh aa pa u) (j := 0) (q := 0) rfl rfl rfl
theorem lkX9_accept_22 : Cond.fieldLink RX9 22 "FerryRamp" "history" "LFerryRamp$History;" ∈ wsX9_accept := List.mem_of_getElem? (i := 1) rfl
theorem lkX9_accept_10 : Cond.fieldLink RX9 10 "FerryRamp" "now" "LFerryRamp$State;" ∈ wsX9_accept := List.mem_of_getElem? (i := 2) rfl
theorem hdX4_remember : yX4_remember.cls = RX4 ∧ yX4_remember.cls ≠ "java/lang/invoke/MethodHandle" ∧ yX4_remember.cls ≠ "java/lang/invoke/VarHandle" ∧ (parseMethodDescriptor yX4_remember.desc).map (fun d => d.parameters.length) = some 1 := by decide +kernel
def wF_rH (cy : Nat → ClassId) (ad : Nat → Nat) (hh : Nat → Nat) (aa : Nat → Nat → Nat) (pa : Nat → Nat) (u : FS) : va_W := (([0, 2, 12, 13, 14] : List Nat).filterMap (fun i => (wFl cy ad hh aa pa u)[i]?)).flatten
theorem wF_selH (cy : Nat → ClassId) (ad : Nat → Nat) (hh : Nat → Nat) (aa : Nat → Nat → Nat) (pa : Nat → Nat) (u : FS) : (wF cy ad hh aa pa u).Perm (wHT cy (ad 5) (ad 6) hh aa (hh 0) (aa 0) (fH u) ++ wF_rH cy ad hh aa pa u) := k_seln (l := wFl cy ad hh aa pa u) (n := 15) (cs := wHTl cy (ad 5) (ad 6) hh aa (hh 0) (aa 0) (fH u)) [3, 1, 4, 5, 6, 7, 8, 9, 10, 11] [0, 2, 12, 13, 14] rfl rfl (by decide)
theorem wF_unsH_0 (cy : Nat → ClassId) (ad : Nat → Nat) (hh : Nat → Nat) (aa : Nat → Nat → Nat) (pa : Nat → Nat) (u : FS) (x : HT) : (wF cy ad hh aa pa (gH u x)).Perm (wHT cy (ad 5) (ad 6) hh aa (hh 0) (aa 0) x ++ wF_rH cy ad hh aa pa u) := k_seln (l := wFl cy ad hh aa pa (gH u x)) (n := 15) (cs := wHTl cy (ad 5) (ad 6) hh aa (hh 0) (aa 0) x) [3, 1, 4, 5, 6, 7, 8, 9, 10, 11] [0, 2, 12, 13, 14] rfl rfl (by decide)
theorem lkX9_accept_41 : Cond.fieldLink RX9 41 "FerryRamp" "accounts" "[I" ∈ wsX9_accept := List.mem_of_getElem? (i := 3) rfl
theorem wF_c3 (cy : Nat → ClassId) (ad : Nat → Nat) (hh : Nat → Nat) (aa : Nat → Nat → Nat) (pa : Nat → Nat) (u : FS) : (wF cy ad hh aa pa u)[3]? = some ((ad 3), .inl (cy 0, 5, .inl (fO u))) := fl_atj (l := wFl cy ad hh aa pa u) (j := 0) (q := 3) rfl rfl rfl
theorem wF_s3 (cy : Nat → ClassId) (ad : Nat → Nat) (hh : Nat → Nat) (aa : Nat → Nat → Nat) (pa : Nat → Nat) (u : FS) (i : Nat) (x : Int32) : (wF cy ad hh aa pa u).set 3 ((ad 3), .inl (cy 0, 5, .inl (upd (fO u) i x))) = wF cy ad hh aa pa (gO u i x) := (fl_setj (l := wFl cy ad hh aa pa u) (j := 0) (q := 3) (Bn := (wFl cy ad hh aa pa (gO u i x)).getD 0 []) rfl rfl (Nat.le_of_ble_eq_true rfl) rfl).trans rfl
abbrev rmX9_accept : Room := { frames := 3, cells := 0, slots := 0, locals := 83 }
def fX9_accept_b0 (u : FS) : Option (FS) :=
  bnd (fX4_remember (fH u)) (fun u8 => some (gO (gH u u8) 0 ((fO (gH u u8) 0) + 1)))
set_option maxHeartbeats 4000000 in
set_option maxRecDepth 100000 in
theorem tX9_accept_b0 {p : Program} {l : Launch} {e : Env} {s : State} {m : MethodId} {args : Array Value} {below : List Frame} {meth : Method} {c : Code} {D : va_G} {cy : Nat → ClassId} {A : Nat → Prop} {ad : Nat → Nat} {hh : Nat → Nat} {aa : Nat → Nat → Nat} {pa : Nat → Nat} (K : FS → Prop) (E : mE D cy RX9 cX9_accept 1 none wsX9_accept A p s m args meth c)
     (u : FS) (H : Heap) (locs : List Loc) (ls : Array Slot) (hl : lv_has ls 1 [(0, .ref (ad 0))]) (hP : va_P D kCl (wF cy ad hh aa pa u) H) (hD : va_D A (wF cy ad hh aa pa u)) (hS : va_S A s.heap H locs) (h1 : Ok (fX9_accept_b0 u) K) :
    kW p l e rmX9_accept s m args below meth c H locs (va_Qv K (fun q => kPost D A (wF cy ad hh aa pa q)) A) A 0 ls [] := by
  obtain ⟨hx, hb, hr, hml, hown, hts, hlocks, hK, hA⟩ := id E
  unfold fX9_accept_b0 at h1
  refine lv_aload_n hx hb dX9_accept_0 rfl (lv_at hl 0 rfl) ?_
  refine k_get (v := .ref (ad 5)) (C := RX9) (T := TX9) (N := 9) hx hb hts inX9_accept_X9 hown hK hP 0 (wF_c0 _ _ _ _ _ _) rfl 2 (by decide) lkX9_accept_22 (fFs_2 _ _ _ _) dX9_accept_1 ?_
  refine lv_aload_n hx hb dX9_accept_4 rfl (lv_at hl 0 rfl) ?_
  refine k_get (v := .ref (hh 0)) (C := RX9) (T := TX9) (N := 9) hx hb hts inX9_accept_X9 hown hK hP 0 (wF_c0 _ _ _ _ _ _) rfl 0 (by decide) lkX9_accept_10 (fFs_0 _ _ _ _) dX9_accept_5 ?_
  refine kc_vV (b := (ad 5)) (As := [.ref (hh 0)]) (rest := []) h1 ⟨hx, hb, hml, hown, hts⟩ (cX4_rememberM l D cy (ad 5) (ad 6) hh aa (hh 0) (aa 0) H.size (fH u)) (cwV 1 hts gX9_accept_X4_remember rfl rfl rfl hdX4_remember ⟨Nat.le_of_ble_eq_true rfl, Nat.le_of_ble_eq_true rfl⟩) hK (wF_selH _ _ _ _ _ _) hP hD hS hA (q0 := 0) rfl rfl rfl hl.1 rfl (Nat.le_of_ble_eq_true rfl) dX9_accept_8 ⟨Nat.zero_le _, Nat.zero_le _⟩ (fun u8 H locs h1 hP hD hS => ?_)
  replace hP := kP_perm (wF_unsH_0 cy ad hh aa pa u u8).symm hP
  replace hD := kD_perm (wF_unsH_0 cy ad hh aa pa u u8).symm hD
  refine lv_aload_n hx hb dX9_accept_11 rfl (lv_at hl 0 rfl) ?_
  refine k_get (v := .ref (ad 3)) (C := RX9) (T := TX9) (N := 9) hx hb hts inX9_accept_X9 hown hK hP 0 (wF_c0 _ _ _ _ _ _) rfl 6 (by decide) lkX9_accept_41 (fFs_6 _ _ _ _) dX9_accept_12 ?_
  refine lv_iconst (v := 0) hx hb dX9_accept_15 rfl ?_
  refine lv_dup2_11 hx hb dX9_accept_16 rfl rfl ?_
  refine k_iald (k := 0) hx hb hK hP 3 (wF_c3 _ _ _ _ _ _) rfl rfl dX9_accept_17 ?_
  refine lv_iconst (v := 1) hx hb dX9_accept_18 rfl ?_
  refine lv_iadd hx hb dX9_accept_19 ?_
  refine k_iast (k := 0) (ws' := wF cy ad hh aa pa (gO (gH u u8) 0 ((fO (gH u u8) 0) + 1))) hx hb hK hP hD hS 3 (wF_c3 _ _ _ _ _ _) rfl rfl (wF_s3 _ _ _ _ _ _ _ _) dX9_accept_20 (fun H locs hP hD hS => ?_)
  exact kret_v hx hb hr hlocks hP hD hS h1 dX9_accept_21
def fX9_accept (u : FS) : Option (FS) := fX9_accept_b0 u
set_option maxHeartbeats 4000000 in
set_option maxRecDepth 100000 in
theorem cX9_acceptM (l : Launch) (D : va_G) (cy : Nat → ClassId) (ad : Nat → Nat) (hh : Nat → Nat) (aa : Nat → Nat → Nat) (pa : Nat → Nat) (sz : Nat) (u : FS) : ∀ (K : FS → Prop), Ok (fX9_accept u) K → Met l yX9_accept wsX9_accept rmX9_accept (va_Pc [.ref (ad 0)] (kPre D cy sz (wF cy ad hh aa pa u))) (va_Qv K (fun q => kPost D (va_A (wF cy ad hh aa pa u) sz) (wF cy ad hh aa pa q)) (va_A (wF cy ad hh aa pa u) sz)) 0 0 (va_A (wF cy ad hh aa pa u) sz) := by
  intro K h1
  refine Met.ofW (cc := cX9_accept) (maxL := 1) (ret := none) (by decide) rfl ?_
  intro p e s m args below meth c s₁ B hml hv
  obtain ⟨rfl, hsz, hP, hK, hD0⟩ := hv
  subst hsz
  have E : mE D cy RX9 cX9_accept 1 none wsX9_accept (va_A (wF cy ad hh aa pa u) s.heap.size) p s m _ meth c := ⟨B.exec, B.bytes, B.returns, hml, findClass_of_methodNamed B.named, atoms_spec (ws := wsX9_accept) B.pre, B.notSynchronized, hK, fun q h => Or.inr h⟩
  have hl := lv_entry ([.ref (ad 0)]) (n := 1) (Nat.le_of_ble_eq_true rfl)
  rw [lg_entry_eq]
  generalize (lg_sl ([.ref (ad 0)]) ++ List.replicate (1 - (lg_sl ([.ref (ad 0)])).length) Slot.unset).toArray = ls at hl ⊢
  exact tX9_accept_b0 K E u _ _ _ hl hP hD0.self va_S.rf h1
-- X9_refuse
theorem inX9_refuse_X9 : ∀ w ∈ u_ws RX9 TX9 9, w ∈ wsX9_refuse := k_lays 2 rfl
theorem lkX9_refuse_41 : Cond.fieldLink RX9 41 "FerryRamp" "accounts" "[I" ∈ wsX9_refuse := List.mem_of_getElem? (i := 1) rfl
abbrev rmX9_refuse : Room := { frames := 0, cells := 0, slots := 0, locals := 0 }
def fX9_refuse_b0 (x1 : Int32) (u : FS) : Option (Int32 × FS) :=
  (if x1 < 1 then some (-x1, u) else (if 5 ≤ x1 then some (-x1, u) else grd (inb x1 5) (grd (inb x1 5) (some (-x1, gO u (ix x1) ((fO u (ix x1)) + 1))))))
set_option maxHeartbeats 4000000 in
set_option maxRecDepth 100000 in
theorem tX9_refuse_b0 {p : Program} {l : Launch} {e : Env} {s : State} {m : MethodId} {args : Array Value} {below : List Frame} {meth : Method} {c : Code} {D : va_G} {cy : Nat → ClassId} {A : Nat → Prop} {ad : Nat → Nat} {hh : Nat → Nat} {aa : Nat → Nat → Nat} {pa : Nat → Nat} (K : Int32 × FS → Prop) (E : mE D cy RX9 cX9_refuse 2 (some .int) wsX9_refuse A p s m args meth c)
     (x1 : Int32) (u : FS) (H : Heap) (locs : List Loc) (ls : Array Slot) (hl : lv_has ls 2 [(0, .ref (ad 0)), (1, .int x1)]) (hP : va_P D kCl (wF cy ad hh aa pa u) H) (hD : va_D A (wF cy ad hh aa pa u)) (hS : va_S A s.heap H locs) (h1 : Ok (fX9_refuse_b0 x1 u) K) :
    kW p l e rmX9_refuse s m args below meth c H locs (va_Qi (fun r q => K (r, q)) (fun q => kPost D A (wF cy ad hh aa pa q)) A) A 0 ls [] := by
  obtain ⟨hx, hb, hr, hml, hown, hts, hlocks, hK, hA⟩ := id E
  unfold fX9_refuse_b0 at h1
  refine lv_iload_n hx hb dX9_refuse_0 rfl (lv_at hl 1 rfl) ?_
  refine lv_iconst (v := 1) hx hb dX9_refuse_1 rfl ?_
  refine lv_icmp_lt (tgt := 24) hx hb dX9_refuse_2 (by decide) (fun c2 => ?_) (fun c2 => ?_)
  · replace h1 := Ok.pos c2 h1
    refine lv_iload_n hx hb dX9_refuse_24 rfl (lv_at hl 1 rfl) ?_
    refine lv_ineg hx hb dX9_refuse_25 ?_
    exact kret_i hx hb hr hlocks hP hD hS h1 dX9_refuse_26
  · replace h1 := Ok.neg c2 h1
    refine lv_iload_n hx hb dX9_refuse_5 rfl (lv_at hl 1 rfl) ?_
    refine lv_aload_n hx hb dX9_refuse_6 rfl (lv_at hl 0 rfl) ?_
    refine k_get (v := .ref (ad 3)) (C := RX9) (T := TX9) (N := 9) hx hb hts inX9_refuse_X9 hown hK hP 0 (wF_c0 _ _ _ _ _ _) rfl 6 (by decide) lkX9_refuse_41 (fFs_6 _ _ _ _) dX9_refuse_7 ?_
    refine va_alen (v := 5) hx hb hK.1 hP 3 0 (wF_c3 _ _ _ _ _ _) rfl rfl dX9_refuse_10 ?_
    refine lv_icmp_ge (tgt := 24) hx hb dX9_refuse_11 (by decide) (fun c11 => ?_) (fun c11 => ?_)
    · replace h1 := Ok.pos c11 h1
      refine lv_iload_n hx hb dX9_refuse_24 rfl (lv_at hl 1 rfl) ?_
      refine lv_ineg hx hb dX9_refuse_25 ?_
      exact kret_i hx hb hr hlocks hP hD hS h1 dX9_refuse_26
    · replace h1 := Ok.neg c11 h1
      refine lv_aload_n hx hb dX9_refuse_14 rfl (lv_at hl 0 rfl) ?_
      refine k_get (v := .ref (ad 3)) (C := RX9) (T := TX9) (N := 9) hx hb hts inX9_refuse_X9 hown hK hP 0 (wF_c0 _ _ _ _ _ _) rfl 6 (by decide) lkX9_refuse_41 (fFs_6 _ _ _ _) dX9_refuse_15 ?_
      refine lv_iload_n hx hb dX9_refuse_18 rfl (lv_at hl 1 rfl) ?_
      refine lv_dup2_11 hx hb dX9_refuse_19 rfl rfl ?_
      have g20 := h1.grd1
      replace h1 := h1.grd2
      refine k_iald (k := (ix x1)) hx hb hK hP 3 (wF_c3 _ _ _ _ _ _) g20 rfl dX9_refuse_20 ?_
      refine lv_iconst (v := 1) hx hb dX9_refuse_21 rfl ?_
      refine lv_iadd hx hb dX9_refuse_22 ?_
      have g23 := h1.grd1
      replace h1 := h1.grd2
      refine k_iast (k := (ix x1)) (ws' := wF cy ad hh aa pa (gO u (ix x1) ((fO u (ix x1)) + 1))) hx hb hK hP hD hS 3 (wF_c3 _ _ _ _ _ _) g23 rfl (wF_s3 _ _ _ _ _ _ _ _) dX9_refuse_23 (fun H locs hP hD hS => ?_)
      refine lv_iload_n hx hb dX9_refuse_24 rfl (lv_at hl 1 rfl) ?_
      refine lv_ineg hx hb dX9_refuse_25 ?_
      exact kret_i hx hb hr hlocks hP hD hS h1 dX9_refuse_26
def fX9_refuse (p1 : Int32) (u : FS) : Option (Int32 × FS) := fX9_refuse_b0 p1 u
set_option maxHeartbeats 4000000 in
set_option maxRecDepth 100000 in
theorem cX9_refuseM (l : Launch) (D : va_G) (cy : Nat → ClassId) (ad : Nat → Nat) (hh : Nat → Nat) (aa : Nat → Nat → Nat) (pa : Nat → Nat) (sz : Nat) (u : FS) (p1 : Int32) : ∀ (K : Int32 → FS → Prop), Ok (fX9_refuse p1 u) (fun q => K q.1 q.2) → Met l yX9_refuse wsX9_refuse rmX9_refuse (va_Pc [.ref (ad 0), .int p1] (kPre D cy sz (wF cy ad hh aa pa u))) (va_Qi K (fun q => kPost D (va_A (wF cy ad hh aa pa u) sz) (wF cy ad hh aa pa q)) (va_A (wF cy ad hh aa pa u) sz)) 0 0 (va_A (wF cy ad hh aa pa u) sz) := by
  intro K h1
  refine Met.ofW (cc := cX9_refuse) (maxL := 2) (ret := (some .int)) (by decide) rfl ?_
  intro p e s m args below meth c s₁ B hml hv
  obtain ⟨rfl, hsz, hP, hK, hD0⟩ := hv
  subst hsz
  have E : mE D cy RX9 cX9_refuse 2 (some .int) wsX9_refuse (va_A (wF cy ad hh aa pa u) s.heap.size) p s m _ meth c := ⟨B.exec, B.bytes, B.returns, hml, findClass_of_methodNamed B.named, atoms_spec (ws := wsX9_refuse) B.pre, B.notSynchronized, hK, fun q h => Or.inr h⟩
  have hl := lv_entry ([.ref (ad 0), .int p1]) (n := 2) (Nat.le_of_ble_eq_true rfl)
  rw [lg_entry_eq]
  generalize (lg_sl ([.ref (ad 0), .int p1]) ++ List.replicate (2 - (lg_sl ([.ref (ad 0), .int p1])).length) Slot.unset).toArray = ls at hl ⊢
  exact tX9_refuse_b0 (fun q => K q.1 q.2) E p1 u _ _ _ hl hP hD0.self va_S.rf h1
-- X9_doTick
theorem hdX9_accept : yX9_accept.cls = RX9 ∧ yX9_accept.cls ≠ "java/lang/invoke/MethodHandle" ∧ yX9_accept.cls ≠ "java/lang/invoke/VarHandle" ∧ (parseMethodDescriptor yX9_accept.desc).map (fun d => d.parameters.length) = some 0 := by decide +kernel
theorem inX9_doTick_X9 : ∀ w ∈ u_ws RX9 TX9 9, w ∈ wsX9_doTick := k_lays 127 rfl
theorem lkX9_doTick_10 : Cond.fieldLink RX9 10 "FerryRamp" "now" "LFerryRamp$State;" ∈ wsX9_doTick := List.mem_of_getElem? (i := 1) rfl
theorem hdX8_passTicks : yX8_passTicks.cls = RX8 ∧ yX8_passTicks.cls ≠ "java/lang/invoke/MethodHandle" ∧ yX8_passTicks.cls ≠ "java/lang/invoke/VarHandle" ∧ (parseMethodDescriptor yX8_passTicks.desc).map (fun d => d.parameters.length) = some 1 := by decide +kernel
def wF_r1 (cy : Nat → ClassId) (ad : Nat → Nat) (hh : Nat → Nat) (aa : Nat → Nat → Nat) (pa : Nat → Nat) (u : FS) : va_W := (([0, 2, 3, 4, 5, 6, 7, 8, 9, 10, 11, 12, 13, 14] : List Nat).filterMap (fun i => (wFl cy ad hh aa pa u)[i]?)).flatten
theorem wF_sel1 (cy : Nat → ClassId) (ad : Nat → Nat) (hh : Nat → Nat) (aa : Nat → Nat → Nat) (pa : Nat → Nat) (u : FS) : (wF cy ad hh aa pa u).Perm (wS cy (hh 0) (aa 0) (fN u) ++ wF_r1 cy ad hh aa pa u) := k_sel1 (l := wFl cy ad hh aa pa u) (n := 15) 1 [0, 2, 3, 4, 5, 6, 7, 8, 9, 10, 11, 12, 13, 14] rfl rfl (by decide)
theorem wF_uns1_0 (cy : Nat → ClassId) (ad : Nat → Nat) (hh : Nat → Nat) (aa : Nat → Nat → Nat) (pa : Nat → Nat) (u : FS) (x : KS) : (wF cy ad hh aa pa (gN u x)).Perm (wS cy (hh 0) (aa 0) x ++ wF_r1 cy ad hh aa pa u) := k_sel1 (l := wFl cy ad hh aa pa (gN u x)) (n := 15) 1 [0, 2, 3, 4, 5, 6, 7, 8, 9, 10, 11, 12, 13, 14] rfl rfl (by decide)
abbrev rmX9_doTick : Room := { frames := 5, cells := 0, slots := 0, locals := 121 }
def fX9_doTick_b0 (x1 : Int32) (u : FS) : Option (Int32 × FS) :=
  bnd (fX9_accept u) (fun u1 => bnd2 (fX8_passTicks x1 (fN u1)) (fun r9 u9 => some (r9, gN u1 u9)))
set_option maxHeartbeats 4000000 in
set_option maxRecDepth 100000 in
theorem tX9_doTick_b0 {p : Program} {l : Launch} {e : Env} {s : State} {m : MethodId} {args : Array Value} {below : List Frame} {meth : Method} {c : Code} {D : va_G} {cy : Nat → ClassId} {A : Nat → Prop} {ad : Nat → Nat} {hh : Nat → Nat} {aa : Nat → Nat → Nat} {pa : Nat → Nat} (K : Int32 × FS → Prop) (E : mE D cy RX9 cX9_doTick 2 (some .int) wsX9_doTick A p s m args meth c)
     (x1 : Int32) (u : FS) (H : Heap) (locs : List Loc) (ls : Array Slot) (hl : lv_has ls 2 [(0, .ref (ad 0)), (1, .int x1)]) (hP : va_P D kCl (wF cy ad hh aa pa u) H) (hD : va_D A (wF cy ad hh aa pa u)) (hS : va_S A s.heap H locs) (h1 : Ok (fX9_doTick_b0 x1 u) K) :
    kW p l e rmX9_doTick s m args below meth c H locs (va_Qi (fun r q => K (r, q)) (fun q => kPost D A (wF cy ad hh aa pa q)) A) A 0 ls [] := by
  obtain ⟨hx, hb, hr, hml, hown, hts, hlocks, hK, hA⟩ := id E
  unfold fX9_doTick_b0 at h1
  refine lv_aload_n hx hb dX9_doTick_0 rfl (lv_at hl 0 rfl) ?_
  refine kc_vV0 (b := (ad 0)) (As := []) (rest := []) h1 ⟨hx, hb, hml, hown, hts⟩ (cX9_acceptM l D cy ad hh aa pa H.size u) (cwV 0 hts gX9_doTick_X9_accept rfl rfl rfl hdX9_accept ⟨Nat.le_of_ble_eq_true rfl, Nat.le_of_ble_eq_true rfl⟩) hK hP hD hS hA (q0 := 0) rfl rfl rfl hl.1 rfl (Nat.le_of_ble_eq_true rfl) dX9_doTick_1 ⟨Nat.zero_le _, Nat.zero_le _⟩ (fun u1 H locs h1 hP hD hS => ?_)
  refine lv_aload_n hx hb dX9_doTick_4 rfl (lv_at hl 0 rfl) ?_
  refine k_get (v := .ref (hh 0)) (C := RX9) (T := TX9) (N := 9) hx hb hts inX9_doTick_X9 hown hK hP 0 (wF_c0 _ _ _ _ _ _) rfl 0 (by decide) lkX9_doTick_10 (fFs_0 _ _ _ _) dX9_doTick_5 ?_
  refine lv_iload_n hx hb dX9_doTick_8 rfl (lv_at hl 1 rfl) ?_
  refine kc_iV (b := (hh 0)) (As := [.int x1]) (rest := []) h1 ⟨hx, hb, hml, hown, hts⟩ (cX8_passTicksM l D cy (hh 0) (aa 0) H.size (fN u1) x1) (cwV 1 hts gX9_doTick_X8_passTicks rfl rfl rfl hdX8_passTicks ⟨Nat.le_of_ble_eq_true rfl, Nat.le_of_ble_eq_true rfl⟩) hK (wF_sel1 _ _ _ _ _ _) hP hD hS hA (q0 := 0) rfl rfl rfl hl.1 rfl (Nat.le_of_ble_eq_true rfl) dX9_doTick_9 ⟨Nat.zero_le _, Nat.zero_le _⟩ (fun r9 u9 H locs h1 hP hD hS => ?_)
  replace hP := kP_perm (wF_uns1_0 cy ad hh aa pa u1 u9).symm hP
  replace hD := kD_perm (wF_uns1_0 cy ad hh aa pa u1 u9).symm hD
  exact kret_i hx hb hr hlocks hP hD hS h1 dX9_doTick_12
def fX9_doTick (p1 : Int32) (u : FS) : Option (Int32 × FS) := fX9_doTick_b0 p1 u
set_option maxHeartbeats 4000000 in
set_option maxRecDepth 100000 in
theorem cX9_doTickM (l : Launch) (D : va_G) (cy : Nat → ClassId) (ad : Nat → Nat) (hh : Nat → Nat) (aa : Nat → Nat → Nat) (pa : Nat → Nat) (sz : Nat) (u : FS) (p1 : Int32) : ∀ (K : Int32 → FS → Prop), Ok (fX9_doTick p1 u) (fun q => K q.1 q.2) → Met l yX9_doTick wsX9_doTick rmX9_doTick (va_Pc [.ref (ad 0), .int p1] (kPre D cy sz (wF cy ad hh aa pa u))) (va_Qi K (fun q => kPost D (va_A (wF cy ad hh aa pa u) sz) (wF cy ad hh aa pa q)) (va_A (wF cy ad hh aa pa u) sz)) 0 0 (va_A (wF cy ad hh aa pa u) sz) := by
  intro K h1
  refine Met.ofW (cc := cX9_doTick) (maxL := 2) (ret := (some .int)) (by decide) rfl ?_
  intro p e s m args below meth c s₁ B hml hv
  obtain ⟨rfl, hsz, hP, hK, hD0⟩ := hv
  subst hsz
  have E : mE D cy RX9 cX9_doTick 2 (some .int) wsX9_doTick (va_A (wF cy ad hh aa pa u) s.heap.size) p s m _ meth c := ⟨B.exec, B.bytes, B.returns, hml, findClass_of_methodNamed B.named, atoms_spec (ws := wsX9_doTick) B.pre, B.notSynchronized, hK, fun q h => Or.inr h⟩
  have hl := lv_entry ([.ref (ad 0), .int p1]) (n := 2) (Nat.le_of_ble_eq_true rfl)
  rw [lg_entry_eq]
  generalize (lg_sl ([.ref (ad 0), .int p1]) ++ List.replicate (2 - (lg_sl ([.ref (ad 0), .int p1])).length) Slot.unset).toArray = ls at hl ⊢
  exact tX9_doTick_b0 (fun q => K q.1 q.2) E p1 u _ _ _ hl hP hD0.self va_S.rf h1
-- X9_doArrive
theorem inX9_doArrive_X9 : ∀ w ∈ u_ws RX9 TX9 9, w ∈ wsX9_doArrive := k_lays 52 rfl
theorem lkX9_doArrive_10 : Cond.fieldLink RX9 10 "FerryRamp" "now" "LFerryRamp$State;" ∈ wsX9_doArrive := List.mem_of_getElem? (i := 1) rfl
theorem inX9_doArrive_X8 : ∀ w ∈ u_ws RX8 TX8 13, w ∈ wsX9_doArrive := k_lays 61 rfl
theorem wF_c5 (cy : Nat → ClassId) (ad : Nat → Nat) (hh : Nat → Nat) (aa : Nat → Nat → Nat) (pa : Nat → Nat) (u : FS) : (wF cy ad hh aa pa u)[5]? = some ((hh 0), .inr (2, sFs (aa 0) (fN u))) := fl_atj (l := wFl cy ad hh aa pa u) (j := 1) (q := 0) rfl rfl rfl
theorem lkX9_doArrive_87 : Cond.fieldLink RX9 87 "FerryRamp$State" "counts" "[I" ∈ wsX9_doArrive := List.mem_of_getElem? (i := 2) rfl
theorem wF_c6 (cy : Nat → ClassId) (ad : Nat → Nat) (hh : Nat → Nat) (aa : Nat → Nat → Nat) (pa : Nat → Nat) (u : FS) : (wF cy ad hh aa pa u)[6]? = some (((aa 0) 0), .inl (cy 0, 17, .inl (sC (fN u)))) := fl_atj (l := wFl cy ad hh aa pa u) (j := 1) (q := 1) rfl rfl rfl
theorem hdX9_refuse : yX9_refuse.cls = RX9 ∧ yX9_refuse.cls ≠ "java/lang/invoke/MethodHandle" ∧ yX9_refuse.cls ≠ "java/lang/invoke/VarHandle" ∧ (parseMethodDescriptor yX9_refuse.desc).map (fun d => d.parameters.length) = some 1 := by decide +kernel
abbrev rmX9_doArrive : Room := { frames := 4, cells := 0, slots := 0, locals := 103 }
def fX9_doArrive_b0 (x1 : Int32) (x2 : Int32) (u : FS) : Option (Int32 × FS) :=
  (if (sC (fN u) 3) < 60 then (if (sC (fN u) 1) < 20 then bnd (fX9_accept u) (fun u41 => bnd2 (fX8_addCar x1 x2 (fN u41)) (fun r50 u50 => some (r50, gN u41 u50))) else bnd2 (fX9_refuse 2 u) (fun r36 u36 => some (r36, u36))) else bnd2 (fX9_refuse 1 u) (fun r16 u16 => some (r16, u16)))
set_option maxHeartbeats 4000000 in
set_option maxRecDepth 100000 in
theorem tX9_doArrive_b0 {p : Program} {l : Launch} {e : Env} {s : State} {m : MethodId} {args : Array Value} {below : List Frame} {meth : Method} {c : Code} {D : va_G} {cy : Nat → ClassId} {A : Nat → Prop} {ad : Nat → Nat} {hh : Nat → Nat} {aa : Nat → Nat → Nat} {pa : Nat → Nat} (K : Int32 × FS → Prop) (E : mE D cy RX9 cX9_doArrive 3 (some .int) wsX9_doArrive A p s m args meth c)
     (x1 : Int32) (x2 : Int32) (u : FS) (H : Heap) (locs : List Loc) (ls : Array Slot) (hl : lv_has ls 3 [(0, .ref (ad 0)), (1, .int x1), (2, .int x2)]) (hP : va_P D kCl (wF cy ad hh aa pa u) H) (hD : va_D A (wF cy ad hh aa pa u)) (hS : va_S A s.heap H locs) (h1 : Ok (fX9_doArrive_b0 x1 x2 u) K) :
    kW p l e rmX9_doArrive s m args below meth c H locs (va_Qi (fun r q => K (r, q)) (fun q => kPost D A (wF cy ad hh aa pa q)) A) A 0 ls [] := by
  obtain ⟨hx, hb, hr, hml, hown, hts, hlocks, hK, hA⟩ := id E
  unfold fX9_doArrive_b0 at h1
  refine lv_aload_n hx hb dX9_doArrive_0 rfl (lv_at hl 0 rfl) ?_
  refine k_get (v := .ref (hh 0)) (C := RX9) (T := TX9) (N := 9) hx hb hts inX9_doArrive_X9 hown hK hP 0 (wF_c0 _ _ _ _ _ _) rfl 0 (by decide) lkX9_doArrive_10 (fFs_0 _ _ _ _) dX9_doArrive_1 ?_
  refine k_get (v := .ref ((aa 0) 0)) (C := RX8) (T := TX8) (N := 13) hx hb hts inX9_doArrive_X8 hown hK hP 5 (wF_c5 _ _ _ _ _ _) rfl 0 (by decide) lkX9_doArrive_87 (sFs_0 _ _) dX9_doArrive_4 ?_
  refine lv_iconst (v := 3) hx hb dX9_doArrive_7 rfl ?_
  refine k_iald (k := 3) hx hb hK hP 6 (wF_c6 _ _ _ _ _ _) rfl rfl dX9_doArrive_8 ?_
  refine lv_bipush (v := 60) hx hb dX9_doArrive_9 rfl ?_
  refine lv_icmp_lt (tgt := 20) hx hb dX9_doArrive_11 (by decide) (fun c11 => ?_) (fun c11 => ?_)
  · replace h1 := Ok.pos c11 h1
    refine lv_aload_n hx hb dX9_doArrive_20 rfl (lv_at hl 0 rfl) ?_
    refine k_get (v := .ref (hh 0)) (C := RX9) (T := TX9) (N := 9) hx hb hts inX9_doArrive_X9 hown hK hP 0 (wF_c0 _ _ _ _ _ _) rfl 0 (by decide) lkX9_doArrive_10 (fFs_0 _ _ _ _) dX9_doArrive_21 ?_
    refine k_get (v := .ref ((aa 0) 0)) (C := RX8) (T := TX8) (N := 13) hx hb hts inX9_doArrive_X8 hown hK hP 5 (wF_c5 _ _ _ _ _ _) rfl 0 (by decide) lkX9_doArrive_87 (sFs_0 _ _) dX9_doArrive_24 ?_
    refine lv_iconst (v := 1) hx hb dX9_doArrive_27 rfl ?_
    refine k_iald (k := 1) hx hb hK hP 6 (wF_c6 _ _ _ _ _ _) rfl rfl dX9_doArrive_28 ?_
    refine lv_bipush (v := 20) hx hb dX9_doArrive_29 rfl ?_
    refine lv_icmp_lt (tgt := 40) hx hb dX9_doArrive_31 (by decide) (fun c31 => ?_) (fun c31 => ?_)
    · replace h1 := Ok.pos c31 h1
      refine lv_aload_n hx hb dX9_doArrive_40 rfl (lv_at hl 0 rfl) ?_
      refine kc_vV0 (b := (ad 0)) (As := []) (rest := []) h1 ⟨hx, hb, hml, hown, hts⟩ (cX9_acceptM l D cy ad hh aa pa H.size u) (cwV 0 hts gX9_doArrive_X9_accept rfl rfl rfl hdX9_accept ⟨Nat.le_of_ble_eq_true rfl, Nat.le_of_ble_eq_true rfl⟩) hK hP hD hS hA (q0 := 0) rfl rfl rfl hl.1 rfl (Nat.le_of_ble_eq_true rfl) dX9_doArrive_41 ⟨Nat.zero_le _, Nat.zero_le _⟩ (fun u41 H locs h1 hP hD hS => ?_)
      refine lv_aload_n hx hb dX9_doArrive_44 rfl (lv_at hl 0 rfl) ?_
      refine k_get (v := .ref (hh 0)) (C := RX9) (T := TX9) (N := 9) hx hb hts inX9_doArrive_X9 hown hK hP 0 (wF_c0 _ _ _ _ _ _) rfl 0 (by decide) lkX9_doArrive_10 (fFs_0 _ _ _ _) dX9_doArrive_45 ?_
      refine lv_iload_n hx hb dX9_doArrive_48 rfl (lv_at hl 1 rfl) ?_
      refine lv_iload_n hx hb dX9_doArrive_49 rfl (lv_at hl 2 rfl) ?_
      refine kc_iV (b := (hh 0)) (As := [.int x1, .int x2]) (rest := []) h1 ⟨hx, hb, hml, hown, hts⟩ (cX8_addCarM l D cy (hh 0) (aa 0) H.size (fN u41) x1 x2) (cwV 2 hts gX9_doArrive_X8_addCar rfl rfl rfl hdX8_addCar ⟨Nat.le_of_ble_eq_true rfl, Nat.le_of_ble_eq_true rfl⟩) hK (wF_sel1 _ _ _ _ _ _) hP hD hS hA (q0 := 0) rfl rfl rfl hl.1 rfl (Nat.le_of_ble_eq_true rfl) dX9_doArrive_50 ⟨Nat.zero_le _, Nat.zero_le _⟩ (fun r50 u50 H locs h1 hP hD hS => ?_)
      replace hP := kP_perm (wF_uns1_0 cy ad hh aa pa u41 u50).symm hP
      replace hD := kD_perm (wF_uns1_0 cy ad hh aa pa u41 u50).symm hD
      exact kret_i hx hb hr hlocks hP hD hS h1 dX9_doArrive_53
    · replace h1 := Ok.neg c31 h1
      refine lv_aload_n hx hb dX9_doArrive_34 rfl (lv_at hl 0 rfl) ?_
      refine lv_iconst (v := 2) hx hb dX9_doArrive_35 rfl ?_
      refine kc_iV0 (b := (ad 0)) (As := [.int 2]) (rest := []) h1 ⟨hx, hb, hml, hown, hts⟩ (cX9_refuseM l D cy ad hh aa pa H.size u 2) (cwV 1 hts gX9_doArrive_X9_refuse rfl rfl rfl hdX9_refuse ⟨Nat.le_of_ble_eq_true rfl, Nat.le_of_ble_eq_true rfl⟩) hK hP hD hS hA (q0 := 0) rfl rfl rfl hl.1 rfl (Nat.le_of_ble_eq_true rfl) dX9_doArrive_36 ⟨Nat.zero_le _, Nat.zero_le _⟩ (fun r36 u36 H locs h1 hP hD hS => ?_)
      exact kret_i hx hb hr hlocks hP hD hS h1 dX9_doArrive_39
  · replace h1 := Ok.neg c11 h1
    refine lv_aload_n hx hb dX9_doArrive_14 rfl (lv_at hl 0 rfl) ?_
    refine lv_iconst (v := 1) hx hb dX9_doArrive_15 rfl ?_
    refine kc_iV0 (b := (ad 0)) (As := [.int 1]) (rest := []) h1 ⟨hx, hb, hml, hown, hts⟩ (cX9_refuseM l D cy ad hh aa pa H.size u 1) (cwV 1 hts gX9_doArrive_X9_refuse rfl rfl rfl hdX9_refuse ⟨Nat.le_of_ble_eq_true rfl, Nat.le_of_ble_eq_true rfl⟩) hK hP hD hS hA (q0 := 0) rfl rfl rfl hl.1 rfl (Nat.le_of_ble_eq_true rfl) dX9_doArrive_16 ⟨Nat.zero_le _, Nat.zero_le _⟩ (fun r16 u16 H locs h1 hP hD hS => ?_)
    exact kret_i hx hb hr hlocks hP hD hS h1 dX9_doArrive_19
def fX9_doArrive (p1 : Int32) (p2 : Int32) (u : FS) : Option (Int32 × FS) := fX9_doArrive_b0 p1 p2 u
set_option maxHeartbeats 4000000 in
set_option maxRecDepth 100000 in
theorem cX9_doArriveM (l : Launch) (D : va_G) (cy : Nat → ClassId) (ad : Nat → Nat) (hh : Nat → Nat) (aa : Nat → Nat → Nat) (pa : Nat → Nat) (sz : Nat) (u : FS) (p1 : Int32) (p2 : Int32) : ∀ (K : Int32 → FS → Prop), Ok (fX9_doArrive p1 p2 u) (fun q => K q.1 q.2) → Met l yX9_doArrive wsX9_doArrive rmX9_doArrive (va_Pc [.ref (ad 0), .int p1, .int p2] (kPre D cy sz (wF cy ad hh aa pa u))) (va_Qi K (fun q => kPost D (va_A (wF cy ad hh aa pa u) sz) (wF cy ad hh aa pa q)) (va_A (wF cy ad hh aa pa u) sz)) 0 0 (va_A (wF cy ad hh aa pa u) sz) := by
  intro K h1
  refine Met.ofW (cc := cX9_doArrive) (maxL := 3) (ret := (some .int)) (by decide) rfl ?_
  intro p e s m args below meth c s₁ B hml hv
  obtain ⟨rfl, hsz, hP, hK, hD0⟩ := hv
  subst hsz
  have E : mE D cy RX9 cX9_doArrive 3 (some .int) wsX9_doArrive (va_A (wF cy ad hh aa pa u) s.heap.size) p s m _ meth c := ⟨B.exec, B.bytes, B.returns, hml, findClass_of_methodNamed B.named, atoms_spec (ws := wsX9_doArrive) B.pre, B.notSynchronized, hK, fun q h => Or.inr h⟩
  have hl := lv_entry ([.ref (ad 0), .int p1, .int p2]) (n := 3) (Nat.le_of_ble_eq_true rfl)
  rw [lg_entry_eq]
  generalize (lg_sl ([.ref (ad 0), .int p1, .int p2]) ++ List.replicate (3 - (lg_sl ([.ref (ad 0), .int p1, .int p2])).length) Slot.unset).toArray = ls at hl ⊢
  exact tX9_doArrive_b0 (fun q => K q.1 q.2) E p1 p2 u _ _ _ hl hP hD0.self va_S.rf h1
-- X9_doWave
theorem inX9_doWave_X9 : ∀ w ∈ u_ws RX9 TX9 9, w ∈ wsX9_doWave := k_lays 51 rfl
theorem lkX9_doWave_10 : Cond.fieldLink RX9 10 "FerryRamp" "now" "LFerryRamp$State;" ∈ wsX9_doWave := List.mem_of_getElem? (i := 1) rfl
theorem hdX8_placeOf : yX8_placeOf.cls = RX8 ∧ yX8_placeOf.cls ≠ "java/lang/invoke/MethodHandle" ∧ yX8_placeOf.cls ≠ "java/lang/invoke/VarHandle" ∧ (parseMethodDescriptor yX8_placeOf.desc).map (fun d => d.parameters.length) = some 1 := by decide +kernel
theorem hdX8_bringToFront : yX8_bringToFront.cls = RX8 ∧ yX8_bringToFront.cls ≠ "java/lang/invoke/MethodHandle" ∧ yX8_bringToFront.cls ≠ "java/lang/invoke/VarHandle" ∧ (parseMethodDescriptor yX8_bringToFront.desc).map (fun d => d.parameters.length) = some 1 := by decide +kernel
abbrev rmX9_doWave : Room := { frames := 4, cells := 0, slots := 0, locals := 103 }
def fX9_doWave_b0 (x1 : Int32) (u : FS) : Option (Int32 × FS) :=
  bnd (fX8_placeOf x1 (fN u)) (fun r5 => (if r5 = (-1) then bnd2 (fX9_refuse 1 u) (fun r16 u16 => some (r16, u16)) else (if r5 = 0 then bnd2 (fX9_refuse 2 u) (fun r26 u26 => some (r26, u26)) else bnd (fX9_accept u) (fun u31 => bnd (fX8_bringToFront r5 (fN u31)) (fun u39 => some (r5, gN u31 u39))))))
set_option maxHeartbeats 4000000 in
set_option maxRecDepth 100000 in
theorem tX9_doWave_b0 {p : Program} {l : Launch} {e : Env} {s : State} {m : MethodId} {args : Array Value} {below : List Frame} {meth : Method} {c : Code} {D : va_G} {cy : Nat → ClassId} {A : Nat → Prop} {ad : Nat → Nat} {hh : Nat → Nat} {aa : Nat → Nat → Nat} {pa : Nat → Nat} (K : Int32 × FS → Prop) (E : mE D cy RX9 cX9_doWave 3 (some .int) wsX9_doWave A p s m args meth c)
     (x1 : Int32) (u : FS) (H : Heap) (locs : List Loc) (ls : Array Slot) (hl : lv_has ls 3 [(0, .ref (ad 0)), (1, .int x1)]) (hP : va_P D kCl (wF cy ad hh aa pa u) H) (hD : va_D A (wF cy ad hh aa pa u)) (hS : va_S A s.heap H locs) (h1 : Ok (fX9_doWave_b0 x1 u) K) :
    kW p l e rmX9_doWave s m args below meth c H locs (va_Qi (fun r q => K (r, q)) (fun q => kPost D A (wF cy ad hh aa pa q)) A) A 0 ls [] := by
  obtain ⟨hx, hb, hr, hml, hown, hts, hlocks, hK, hA⟩ := id E
  unfold fX9_doWave_b0 at h1
  refine lv_aload_n hx hb dX9_doWave_0 rfl (lv_at hl 0 rfl) ?_
  refine k_get (v := .ref (hh 0)) (C := RX9) (T := TX9) (N := 9) hx hb hts inX9_doWave_X9 hown hK hP 0 (wF_c0 _ _ _ _ _ _) rfl 0 (by decide) lkX9_doWave_10 (fFs_0 _ _ _ _) dX9_doWave_1 ?_
  refine lv_iload_n hx hb dX9_doWave_4 rfl (lv_at hl 1 rfl) ?_
  refine kc_rV (b := (hh 0)) (As := [.int x1]) (rest := []) h1 ⟨hx, hb, hml, hown, hts⟩ (cX8_placeOfM l D cy (hh 0) (aa 0) H.size (fN u) x1) (cwV 1 hts gX9_doWave_X8_placeOf rfl rfl rfl hdX8_placeOf ⟨Nat.le_of_ble_eq_true rfl, Nat.le_of_ble_eq_true rfl⟩) hK (wF_sel1 _ _ _ _ _ _) hP hD hS hA (q0 := 0) rfl rfl rfl hl.1 rfl (Nat.le_of_ble_eq_true rfl) dX9_doWave_5 ⟨Nat.zero_le _, Nat.zero_le _⟩ (fun r5 H locs h1 hP hS => ?_)
  refine lv_istore_n (lv' := [(2, .int r5), (0, .ref (ad 0)), (1, .int x1)]) hx hb dX9_doWave_8 rfl hl (by decide) rfl (fun ls hl => ?_)
  refine lv_iload_n hx hb dX9_doWave_9 rfl (lv_at hl 0 rfl) ?_
  refine lv_iconst (v := (-1)) hx hb dX9_doWave_10 rfl ?_
  refine lv_icmp_ne (tgt := 20) hx hb dX9_doWave_11 (by decide) (fun c11 => ?_) (fun c11 => ?_)
  · replace h1 := Ok.neg c11 h1
    refine lv_iload_n hx hb dX9_doWave_20 rfl (lv_at hl 0 rfl) ?_
    refine lv_if_ne (tgt := 30) hx hb dX9_doWave_21 (by decide) (fun c21 => ?_) (fun c21 => ?_)
    · replace h1 := Ok.neg c21 h1
      refine lv_aload_n hx hb dX9_doWave_30 rfl (lv_at hl 1 rfl) ?_
      refine kc_vV0 (b := (ad 0)) (As := []) (rest := []) h1 ⟨hx, hb, hml, hown, hts⟩ (cX9_acceptM l D cy ad hh aa pa H.size u) (cwV 0 hts gX9_doWave_X9_accept rfl rfl rfl hdX9_accept ⟨Nat.le_of_ble_eq_true rfl, Nat.le_of_ble_eq_true rfl⟩) hK hP hD hS hA (q0 := 0) rfl rfl rfl hl.1 rfl (Nat.le_of_ble_eq_true rfl) dX9_doWave_31 ⟨Nat.zero_le _, Nat.zero_le _⟩ (fun u31 H locs h1 hP hD hS => ?_)
      refine lv_aload_n hx hb dX9_doWave_34 rfl (lv_at hl 1 rfl) ?_
      refine k_get (v := .ref (hh 0)) (C := RX9) (T := TX9) (N := 9) hx hb hts inX9_doWave_X9 hown hK hP 0 (wF_c0 _ _ _ _ _ _) rfl 0 (by decide) lkX9_doWave_10 (fFs_0 _ _ _ _) dX9_doWave_35 ?_
      refine lv_iload_n hx hb dX9_doWave_38 rfl (lv_at hl 0 rfl) ?_
      refine kc_vV (b := (hh 0)) (As := [.int r5]) (rest := []) h1 ⟨hx, hb, hml, hown, hts⟩ (cX8_bringToFrontM l D cy (hh 0) (aa 0) H.size (fN u31) r5) (cwV 1 hts gX9_doWave_X8_bringToFront rfl rfl rfl hdX8_bringToFront ⟨Nat.le_of_ble_eq_true rfl, Nat.le_of_ble_eq_true rfl⟩) hK (wF_sel1 _ _ _ _ _ _) hP hD hS hA (q0 := 0) rfl rfl rfl hl.1 rfl (Nat.le_of_ble_eq_true rfl) dX9_doWave_39 ⟨Nat.zero_le _, Nat.zero_le _⟩ (fun u39 H locs h1 hP hD hS => ?_)
      replace hP := kP_perm (wF_uns1_0 cy ad hh aa pa u31 u39).symm hP
      replace hD := kD_perm (wF_uns1_0 cy ad hh aa pa u31 u39).symm hD
      refine lv_iload_n hx hb dX9_doWave_42 rfl (lv_at hl 0 rfl) ?_
      exact kret_i hx hb hr hlocks hP hD hS h1 dX9_doWave_43
    · replace h1 := Ok.pos c21 h1
      refine lv_aload_n hx hb dX9_doWave_24 rfl (lv_at hl 1 rfl) ?_
      refine lv_iconst (v := 2) hx hb dX9_doWave_25 rfl ?_
      refine kc_iV0 (b := (ad 0)) (As := [.int 2]) (rest := []) h1 ⟨hx, hb, hml, hown, hts⟩ (cX9_refuseM l D cy ad hh aa pa H.size u 2) (cwV 1 hts gX9_doWave_X9_refuse rfl rfl rfl hdX9_refuse ⟨Nat.le_of_ble_eq_true rfl, Nat.le_of_ble_eq_true rfl⟩) hK hP hD hS hA (q0 := 0) rfl rfl rfl hl.1 rfl (Nat.le_of_ble_eq_true rfl) dX9_doWave_26 ⟨Nat.zero_le _, Nat.zero_le _⟩ (fun r26 u26 H locs h1 hP hD hS => ?_)
      exact kret_i hx hb hr hlocks hP hD hS h1 dX9_doWave_29
  · replace h1 := Ok.pos c11 h1
    refine lv_aload_n hx hb dX9_doWave_14 rfl (lv_at hl 1 rfl) ?_
    refine lv_iconst (v := 1) hx hb dX9_doWave_15 rfl ?_
    refine kc_iV0 (b := (ad 0)) (As := [.int 1]) (rest := []) h1 ⟨hx, hb, hml, hown, hts⟩ (cX9_refuseM l D cy ad hh aa pa H.size u 1) (cwV 1 hts gX9_doWave_X9_refuse rfl rfl rfl hdX9_refuse ⟨Nat.le_of_ble_eq_true rfl, Nat.le_of_ble_eq_true rfl⟩) hK hP hD hS hA (q0 := 0) rfl rfl rfl hl.1 rfl (Nat.le_of_ble_eq_true rfl) dX9_doWave_16 ⟨Nat.zero_le _, Nat.zero_le _⟩ (fun r16 u16 H locs h1 hP hD hS => ?_)
    exact kret_i hx hb hr hlocks hP hD hS h1 dX9_doWave_19
def fX9_doWave (p1 : Int32) (u : FS) : Option (Int32 × FS) := fX9_doWave_b0 p1 u
set_option maxHeartbeats 4000000 in
set_option maxRecDepth 100000 in
theorem cX9_doWaveM (l : Launch) (D : va_G) (cy : Nat → ClassId) (ad : Nat → Nat) (hh : Nat → Nat) (aa : Nat → Nat → Nat) (pa : Nat → Nat) (sz : Nat) (u : FS) (p1 : Int32) : ∀ (K : Int32 → FS → Prop), Ok (fX9_doWave p1 u) (fun q => K q.1 q.2) → Met l yX9_doWave wsX9_doWave rmX9_doWave (va_Pc [.ref (ad 0), .int p1] (kPre D cy sz (wF cy ad hh aa pa u))) (va_Qi K (fun q => kPost D (va_A (wF cy ad hh aa pa u) sz) (wF cy ad hh aa pa q)) (va_A (wF cy ad hh aa pa u) sz)) 0 0 (va_A (wF cy ad hh aa pa u) sz) := by
  intro K h1
  refine Met.ofW (cc := cX9_doWave) (maxL := 3) (ret := (some .int)) (by decide) rfl ?_
  intro p e s m args below meth c s₁ B hml hv
  obtain ⟨rfl, hsz, hP, hK, hD0⟩ := hv
  subst hsz
  have E : mE D cy RX9 cX9_doWave 3 (some .int) wsX9_doWave (va_A (wF cy ad hh aa pa u) s.heap.size) p s m _ meth c := ⟨B.exec, B.bytes, B.returns, hml, findClass_of_methodNamed B.named, atoms_spec (ws := wsX9_doWave) B.pre, B.notSynchronized, hK, fun q h => Or.inr h⟩
  have hl := lv_entry ([.ref (ad 0), .int p1]) (n := 3) (Nat.le_of_ble_eq_true rfl)
  rw [lg_entry_eq]
  generalize (lg_sl ([.ref (ad 0), .int p1]) ++ List.replicate (3 - (lg_sl ([.ref (ad 0), .int p1])).length) Slot.unset).toArray = ls at hl ⊢
  exact tX9_doWave_b0 (fun q => K q.1 q.2) E p1 u _ _ _ hl hP hD0.self va_S.rf h1
-- X9_doDismiss
theorem inX9_doDismiss_X9 : ∀ w ∈ u_ws RX9 TX9 9, w ∈ wsX9_doDismiss := k_lays 56 rfl
theorem lkX9_doDismiss_10 : Cond.fieldLink RX9 10 "FerryRamp" "now" "LFerryRamp$State;" ∈ wsX9_doDismiss := List.mem_of_getElem? (i := 1) rfl
theorem inX9_doDismiss_X8 : ∀ w ∈ u_ws RX8 TX8 13, w ∈ wsX9_doDismiss := k_lays 65 rfl
theorem lkX9_doDismiss_87 : Cond.fieldLink RX9 87 "FerryRamp$State" "counts" "[I" ∈ wsX9_doDismiss := List.mem_of_getElem? (i := 2) rfl
abbrev rmX9_doDismiss : Room := { frames := 4, cells := 0, slots := 0, locals := 103 }
def fX9_doDismiss_b0 (x1 : Int32) (u : FS) : Option (Int32 × FS) :=
  bnd (fX8_placeOf x1 (fN u)) (fun r5 => (if r5 = (-1) then bnd2 (fX9_refuse 1 u) (fun r16 u16 => some (r16, u16)) else bnd (fX9_accept u) (fun u21 => bnd (fX8_takeFromQueue r5 (fN u21)) (fun u29 => bnd (fX8_setCarFact x1 2 4 (fN (gN u21 u29))) (fun u39 => some (sC (fN (gN (gN u21 u29) u39)) 1, gN (gN u21 u29) u39))))))
set_option maxHeartbeats 4000000 in
set_option maxRecDepth 100000 in
theorem tX9_doDismiss_b0 {p : Program} {l : Launch} {e : Env} {s : State} {m : MethodId} {args : Array Value} {below : List Frame} {meth : Method} {c : Code} {D : va_G} {cy : Nat → ClassId} {A : Nat → Prop} {ad : Nat → Nat} {hh : Nat → Nat} {aa : Nat → Nat → Nat} {pa : Nat → Nat} (K : Int32 × FS → Prop) (E : mE D cy RX9 cX9_doDismiss 3 (some .int) wsX9_doDismiss A p s m args meth c)
     (x1 : Int32) (u : FS) (H : Heap) (locs : List Loc) (ls : Array Slot) (hl : lv_has ls 3 [(0, .ref (ad 0)), (1, .int x1)]) (hP : va_P D kCl (wF cy ad hh aa pa u) H) (hD : va_D A (wF cy ad hh aa pa u)) (hS : va_S A s.heap H locs) (h1 : Ok (fX9_doDismiss_b0 x1 u) K) :
    kW p l e rmX9_doDismiss s m args below meth c H locs (va_Qi (fun r q => K (r, q)) (fun q => kPost D A (wF cy ad hh aa pa q)) A) A 0 ls [] := by
  obtain ⟨hx, hb, hr, hml, hown, hts, hlocks, hK, hA⟩ := id E
  unfold fX9_doDismiss_b0 at h1
  refine lv_aload_n hx hb dX9_doDismiss_0 rfl (lv_at hl 0 rfl) ?_
  refine k_get (v := .ref (hh 0)) (C := RX9) (T := TX9) (N := 9) hx hb hts inX9_doDismiss_X9 hown hK hP 0 (wF_c0 _ _ _ _ _ _) rfl 0 (by decide) lkX9_doDismiss_10 (fFs_0 _ _ _ _) dX9_doDismiss_1 ?_
  refine lv_iload_n hx hb dX9_doDismiss_4 rfl (lv_at hl 1 rfl) ?_
  refine kc_rV (b := (hh 0)) (As := [.int x1]) (rest := []) h1 ⟨hx, hb, hml, hown, hts⟩ (cX8_placeOfM l D cy (hh 0) (aa 0) H.size (fN u) x1) (cwV 1 hts gX9_doDismiss_X8_placeOf rfl rfl rfl hdX8_placeOf ⟨Nat.le_of_ble_eq_true rfl, Nat.le_of_ble_eq_true rfl⟩) hK (wF_sel1 _ _ _ _ _ _) hP hD hS hA (q0 := 0) rfl rfl rfl hl.1 rfl (Nat.le_of_ble_eq_true rfl) dX9_doDismiss_5 ⟨Nat.zero_le _, Nat.zero_le _⟩ (fun r5 H locs h1 hP hS => ?_)
  refine lv_istore_n (lv' := [(2, .int r5), (0, .ref (ad 0)), (1, .int x1)]) hx hb dX9_doDismiss_8 rfl hl (by decide) rfl (fun ls hl => ?_)
  refine lv_iload_n hx hb dX9_doDismiss_9 rfl (lv_at hl 0 rfl) ?_
  refine lv_iconst (v := (-1)) hx hb dX9_doDismiss_10 rfl ?_
  refine lv_icmp_ne (tgt := 20) hx hb dX9_doDismiss_11 (by decide) (fun c11 => ?_) (fun c11 => ?_)
  · replace h1 := Ok.neg c11 h1
    refine lv_aload_n hx hb dX9_doDismiss_20 rfl (lv_at hl 1 rfl) ?_
    refine kc_vV0 (b := (ad 0)) (As := []) (rest := []) h1 ⟨hx, hb, hml, hown, hts⟩ (cX9_acceptM l D cy ad hh aa pa H.size u) (cwV 0 hts gX9_doDismiss_X9_accept rfl rfl rfl hdX9_accept ⟨Nat.le_of_ble_eq_true rfl, Nat.le_of_ble_eq_true rfl⟩) hK hP hD hS hA (q0 := 0) rfl rfl rfl hl.1 rfl (Nat.le_of_ble_eq_true rfl) dX9_doDismiss_21 ⟨Nat.zero_le _, Nat.zero_le _⟩ (fun u21 H locs h1 hP hD hS => ?_)
    refine lv_aload_n hx hb dX9_doDismiss_24 rfl (lv_at hl 1 rfl) ?_
    refine k_get (v := .ref (hh 0)) (C := RX9) (T := TX9) (N := 9) hx hb hts inX9_doDismiss_X9 hown hK hP 0 (wF_c0 _ _ _ _ _ _) rfl 0 (by decide) lkX9_doDismiss_10 (fFs_0 _ _ _ _) dX9_doDismiss_25 ?_
    refine lv_iload_n hx hb dX9_doDismiss_28 rfl (lv_at hl 0 rfl) ?_
    refine kc_vV (b := (hh 0)) (As := [.int r5]) (rest := []) h1 ⟨hx, hb, hml, hown, hts⟩ (cX8_takeFromQueueM l D cy (hh 0) (aa 0) H.size (fN u21) r5) (cwV 1 hts gX9_doDismiss_X8_takeFromQueue rfl rfl rfl hdX8_takeFromQueue ⟨Nat.le_of_ble_eq_true rfl, Nat.le_of_ble_eq_true rfl⟩) hK (wF_sel1 _ _ _ _ _ _) hP hD hS hA (q0 := 0) rfl rfl rfl hl.1 rfl (Nat.le_of_ble_eq_true rfl) dX9_doDismiss_29 ⟨Nat.zero_le _, Nat.zero_le _⟩ (fun u29 H locs h1 hP hD hS => ?_)
    replace hP := kP_perm (wF_uns1_0 cy ad hh aa pa u21 u29).symm hP
    replace hD := kD_perm (wF_uns1_0 cy ad hh aa pa u21 u29).symm hD
    refine lv_aload_n hx hb dX9_doDismiss_32 rfl (lv_at hl 1 rfl) ?_
    refine k_get (v := .ref (hh 0)) (C := RX9) (T := TX9) (N := 9) hx hb hts inX9_doDismiss_X9 hown hK hP 0 (wF_c0 _ _ _ _ _ _) rfl 0 (by decide) lkX9_doDismiss_10 (fFs_0 _ _ _ _) dX9_doDismiss_33 ?_
    refine lv_iload_n hx hb dX9_doDismiss_36 rfl (lv_at hl 2 rfl) ?_
    refine lv_iconst (v := 2) hx hb dX9_doDismiss_37 rfl ?_
    refine lv_iconst (v := 4) hx hb dX9_doDismiss_38 rfl ?_
    refine kc_vV (b := (hh 0)) (As := [.int x1, .int 2, .int 4]) (rest := []) h1 ⟨hx, hb, hml, hown, hts⟩ (cX8_setCarFactM l D cy (hh 0) (aa 0) H.size (fN (gN u21 u29)) x1 2 4) (cwV 3 hts gX9_doDismiss_X8_setCarFact rfl rfl rfl hdX8_setCarFact ⟨Nat.le_of_ble_eq_true rfl, Nat.le_of_ble_eq_true rfl⟩) hK (wF_sel1 _ _ _ _ _ _) hP hD hS hA (q0 := 0) rfl rfl rfl hl.1 rfl (Nat.le_of_ble_eq_true rfl) dX9_doDismiss_39 ⟨Nat.zero_le _, Nat.zero_le _⟩ (fun u39 H locs h1 hP hD hS => ?_)
    replace hP := kP_perm (wF_uns1_0 cy ad hh aa pa (gN u21 u29) u39).symm hP
    replace hD := kD_perm (wF_uns1_0 cy ad hh aa pa (gN u21 u29) u39).symm hD
    refine lv_aload_n hx hb dX9_doDismiss_42 rfl (lv_at hl 1 rfl) ?_
    refine k_get (v := .ref (hh 0)) (C := RX9) (T := TX9) (N := 9) hx hb hts inX9_doDismiss_X9 hown hK hP 0 (wF_c0 _ _ _ _ _ _) rfl 0 (by decide) lkX9_doDismiss_10 (fFs_0 _ _ _ _) dX9_doDismiss_43 ?_
    refine k_get (v := .ref ((aa 0) 0)) (C := RX8) (T := TX8) (N := 13) hx hb hts inX9_doDismiss_X8 hown hK hP 5 (wF_c5 _ _ _ _ _ _) rfl 0 (by decide) lkX9_doDismiss_87 (sFs_0 _ _) dX9_doDismiss_46 ?_
    refine lv_iconst (v := 1) hx hb dX9_doDismiss_49 rfl ?_
    refine k_iald (k := 1) hx hb hK hP 6 (wF_c6 _ _ _ _ _ _) rfl rfl dX9_doDismiss_50 ?_
    exact kret_i hx hb hr hlocks hP hD hS h1 dX9_doDismiss_51
  · replace h1 := Ok.pos c11 h1
    refine lv_aload_n hx hb dX9_doDismiss_14 rfl (lv_at hl 1 rfl) ?_
    refine lv_iconst (v := 1) hx hb dX9_doDismiss_15 rfl ?_
    refine kc_iV0 (b := (ad 0)) (As := [.int 1]) (rest := []) h1 ⟨hx, hb, hml, hown, hts⟩ (cX9_refuseM l D cy ad hh aa pa H.size u 1) (cwV 1 hts gX9_doDismiss_X9_refuse rfl rfl rfl hdX9_refuse ⟨Nat.le_of_ble_eq_true rfl, Nat.le_of_ble_eq_true rfl⟩) hK hP hD hS hA (q0 := 0) rfl rfl rfl hl.1 rfl (Nat.le_of_ble_eq_true rfl) dX9_doDismiss_16 ⟨Nat.zero_le _, Nat.zero_le _⟩ (fun r16 u16 H locs h1 hP hD hS => ?_)
    exact kret_i hx hb hr hlocks hP hD hS h1 dX9_doDismiss_19
def fX9_doDismiss (p1 : Int32) (u : FS) : Option (Int32 × FS) := fX9_doDismiss_b0 p1 u
set_option maxHeartbeats 4000000 in
set_option maxRecDepth 100000 in
theorem cX9_doDismissM (l : Launch) (D : va_G) (cy : Nat → ClassId) (ad : Nat → Nat) (hh : Nat → Nat) (aa : Nat → Nat → Nat) (pa : Nat → Nat) (sz : Nat) (u : FS) (p1 : Int32) : ∀ (K : Int32 → FS → Prop), Ok (fX9_doDismiss p1 u) (fun q => K q.1 q.2) → Met l yX9_doDismiss wsX9_doDismiss rmX9_doDismiss (va_Pc [.ref (ad 0), .int p1] (kPre D cy sz (wF cy ad hh aa pa u))) (va_Qi K (fun q => kPost D (va_A (wF cy ad hh aa pa u) sz) (wF cy ad hh aa pa q)) (va_A (wF cy ad hh aa pa u) sz)) 0 0 (va_A (wF cy ad hh aa pa u) sz) := by
  intro K h1
  refine Met.ofW (cc := cX9_doDismiss) (maxL := 3) (ret := (some .int)) (by decide) rfl ?_
  intro p e s m args below meth c s₁ B hml hv
  obtain ⟨rfl, hsz, hP, hK, hD0⟩ := hv
  subst hsz
  have E : mE D cy RX9 cX9_doDismiss 3 (some .int) wsX9_doDismiss (va_A (wF cy ad hh aa pa u) s.heap.size) p s m _ meth c := ⟨B.exec, B.bytes, B.returns, hml, findClass_of_methodNamed B.named, atoms_spec (ws := wsX9_doDismiss) B.pre, B.notSynchronized, hK, fun q h => Or.inr h⟩
  have hl := lv_entry ([.ref (ad 0), .int p1]) (n := 3) (Nat.le_of_ble_eq_true rfl)
  rw [lg_entry_eq]
  generalize (lg_sl ([.ref (ad 0), .int p1]) ++ List.replicate (3 - (lg_sl ([.ref (ad 0), .int p1])).length) Slot.unset).toArray = ls at hl ⊢
  exact tX9_doDismiss_b0 (fun q => K q.1 q.2) E p1 u _ _ _ hl hP hD0.self va_S.rf h1
-- X9_doUnload
theorem inX9_doUnload_X9 : ∀ w ∈ u_ws RX9 TX9 9, w ∈ wsX9_doUnload := k_lays 96 rfl
theorem lkX9_doUnload_10 : Cond.fieldLink RX9 10 "FerryRamp" "now" "LFerryRamp$State;" ∈ wsX9_doUnload := List.mem_of_getElem? (i := 1) rfl
theorem inX9_doUnload_X8 : ∀ w ∈ u_ws RX8 TX8 13, w ∈ wsX9_doUnload := k_lays 105 rfl
theorem lkX9_doUnload_87 : Cond.fieldLink RX9 87 "FerryRamp$State" "counts" "[I" ∈ wsX9_doUnload := List.mem_of_getElem? (i := 2) rfl
theorem lkX9_doUnload_170 : Cond.fieldLink RX9 170 "FerryRamp$State" "slope" "I" ∈ wsX9_doUnload := List.mem_of_getElem? (i := 3) rfl
theorem lkX9_doUnload_173 : Cond.fieldLink RX9 173 "FerryRamp$State" "lip" "I" ∈ wsX9_doUnload := List.mem_of_getElem? (i := 4) rfl
theorem hdX8_takeFromDeck : yX8_takeFromDeck.cls = RX8 ∧ yX8_takeFromDeck.cls ≠ "java/lang/invoke/MethodHandle" ∧ yX8_takeFromDeck.cls ≠ "java/lang/invoke/VarHandle" ∧ (parseMethodDescriptor yX8_takeFromDeck.desc).map (fun d => d.parameters.length) = some 1 := by decide +kernel
abbrev rmX9_doUnload : Room := { frames := 4, cells := 0, slots := 0, locals := 103 }
def fX9_doUnload_b0 (x1 : Int32) (u : FS) : Option (Int32 × FS) :=
  bnd (fX8_lastOnDeck x1 (fN u)) (fun r5 => (if r5 = (-1) then bnd2 (fX9_refuse 1 u) (fun r16 u16 => some (r16, u16)) else (if (sC (fN u) 8) = (-1) then bnd (fX8_carKindFact r5 0 (fN u)) (fun r53 => (if (sp (fN u)) ≤ r53 then bnd (fX8_carKindFact r5 1 (fN u)) (fun r78 => (if (si (fN u)) ≤ r78 then bnd (fX9_accept u) (fun u91 => bnd (fX8_takeFromDeck x1 (fN u91)) (fun u99 => some (r5, gN u91 u99))) else bnd2 (fX9_refuse 4 u) (fun r86 u86 => some (r86, u86)))) else bnd2 (fX9_refuse 3 u) (fun r61 u61 => some (r61, u61)))) else bnd2 (fX9_refuse 2 u) (fun r36 u36 => some (r36, u36)))))
set_option maxHeartbeats 4000000 in
set_option maxRecDepth 100000 in
theorem tX9_doUnload_b0 {p : Program} {l : Launch} {e : Env} {s : State} {m : MethodId} {args : Array Value} {below : List Frame} {meth : Method} {c : Code} {D : va_G} {cy : Nat → ClassId} {A : Nat → Prop} {ad : Nat → Nat} {hh : Nat → Nat} {aa : Nat → Nat → Nat} {pa : Nat → Nat} (K : Int32 × FS → Prop) (E : mE D cy RX9 cX9_doUnload 3 (some .int) wsX9_doUnload A p s m args meth c)
     (x1 : Int32) (u : FS) (H : Heap) (locs : List Loc) (ls : Array Slot) (hl : lv_has ls 3 [(0, .ref (ad 0)), (1, .int x1)]) (hP : va_P D kCl (wF cy ad hh aa pa u) H) (hD : va_D A (wF cy ad hh aa pa u)) (hS : va_S A s.heap H locs) (h1 : Ok (fX9_doUnload_b0 x1 u) K) :
    kW p l e rmX9_doUnload s m args below meth c H locs (va_Qi (fun r q => K (r, q)) (fun q => kPost D A (wF cy ad hh aa pa q)) A) A 0 ls [] := by
  obtain ⟨hx, hb, hr, hml, hown, hts, hlocks, hK, hA⟩ := id E
  unfold fX9_doUnload_b0 at h1
  refine lv_aload_n hx hb dX9_doUnload_0 rfl (lv_at hl 0 rfl) ?_
  refine k_get (v := .ref (hh 0)) (C := RX9) (T := TX9) (N := 9) hx hb hts inX9_doUnload_X9 hown hK hP 0 (wF_c0 _ _ _ _ _ _) rfl 0 (by decide) lkX9_doUnload_10 (fFs_0 _ _ _ _) dX9_doUnload_1 ?_
  refine lv_iload_n hx hb dX9_doUnload_4 rfl (lv_at hl 1 rfl) ?_
  refine kc_rV (b := (hh 0)) (As := [.int x1]) (rest := []) h1 ⟨hx, hb, hml, hown, hts⟩ (cX8_lastOnDeckM l D cy (hh 0) (aa 0) H.size (fN u) x1) (cwV 1 hts gX9_doUnload_X8_lastOnDeck rfl rfl rfl hdX8_lastOnDeck ⟨Nat.le_of_ble_eq_true rfl, Nat.le_of_ble_eq_true rfl⟩) hK (wF_sel1 _ _ _ _ _ _) hP hD hS hA (q0 := 0) rfl rfl rfl hl.1 rfl (Nat.le_of_ble_eq_true rfl) dX9_doUnload_5 ⟨Nat.zero_le _, Nat.zero_le _⟩ (fun r5 H locs h1 hP hS => ?_)
  refine lv_istore_n (lv' := [(2, .int r5), (0, .ref (ad 0)), (1, .int x1)]) hx hb dX9_doUnload_8 rfl hl (by decide) rfl (fun ls hl => ?_)
  refine lv_iload_n hx hb dX9_doUnload_9 rfl (lv_at hl 0 rfl) ?_
  refine lv_iconst (v := (-1)) hx hb dX9_doUnload_10 rfl ?_
  refine lv_icmp_ne (tgt := 20) hx hb dX9_doUnload_11 (by decide) (fun c11 => ?_) (fun c11 => ?_)
  · replace h1 := Ok.neg c11 h1
    refine lv_aload_n hx hb dX9_doUnload_20 rfl (lv_at hl 1 rfl) ?_
    refine k_get (v := .ref (hh 0)) (C := RX9) (T := TX9) (N := 9) hx hb hts inX9_doUnload_X9 hown hK hP 0 (wF_c0 _ _ _ _ _ _) rfl 0 (by decide) lkX9_doUnload_10 (fFs_0 _ _ _ _) dX9_doUnload_21 ?_
    refine k_get (v := .ref ((aa 0) 0)) (C := RX8) (T := TX8) (N := 13) hx hb hts inX9_doUnload_X8 hown hK hP 5 (wF_c5 _ _ _ _ _ _) rfl 0 (by decide) lkX9_doUnload_87 (sFs_0 _ _) dX9_doUnload_24 ?_
    refine lv_bipush (v := 8) hx hb dX9_doUnload_27 rfl ?_
    refine k_iald (k := 8) hx hb hK hP 6 (wF_c6 _ _ _ _ _ _) rfl rfl dX9_doUnload_29 ?_
    refine lv_iconst (v := (-1)) hx hb dX9_doUnload_30 rfl ?_
    refine lv_icmp_eq (tgt := 40) hx hb dX9_doUnload_31 (by decide) (fun c31 => ?_) (fun c31 => ?_)
    · replace h1 := Ok.pos c31 h1
      refine lv_aload_n hx hb dX9_doUnload_40 rfl (lv_at hl 1 rfl) ?_
      refine k_get (v := .ref (hh 0)) (C := RX9) (T := TX9) (N := 9) hx hb hts inX9_doUnload_X9 hown hK hP 0 (wF_c0 _ _ _ _ _ _) rfl 0 (by decide) lkX9_doUnload_10 (fFs_0 _ _ _ _) dX9_doUnload_41 ?_
      refine k_get (v := .int (sp (fN u))) (C := RX8) (T := TX8) (N := 13) hx hb hts inX9_doUnload_X8 hown hK hP 5 (wF_c5 _ _ _ _ _ _) rfl 11 (by decide) lkX9_doUnload_170 (sFs_11 _ _) dX9_doUnload_44 ?_
      refine lv_aload_n hx hb dX9_doUnload_47 rfl (lv_at hl 1 rfl) ?_
      refine k_get (v := .ref (hh 0)) (C := RX9) (T := TX9) (N := 9) hx hb hts inX9_doUnload_X9 hown hK hP 0 (wF_c0 _ _ _ _ _ _) rfl 0 (by decide) lkX9_doUnload_10 (fFs_0 _ _ _ _) dX9_doUnload_48 ?_
      refine lv_iload_n hx hb dX9_doUnload_51 rfl (lv_at hl 0 rfl) ?_
      refine lv_iconst (v := 0) hx hb dX9_doUnload_52 rfl ?_
      refine kc_rV (b := (hh 0)) (As := [.int r5, .int 0]) (rest := [.int (sp (fN u))]) h1 ⟨hx, hb, hml, hown, hts⟩ (cX8_carKindFactM l D cy (hh 0) (aa 0) H.size (fN u) r5 0) (cwV 2 hts gX9_doUnload_X8_carKindFact rfl rfl rfl hdX8_carKindFact ⟨Nat.le_of_ble_eq_true rfl, Nat.le_of_ble_eq_true rfl⟩) hK (wF_sel1 _ _ _ _ _ _) hP hD hS hA (q0 := 0) rfl rfl rfl hl.1 rfl (Nat.le_of_ble_eq_true rfl) dX9_doUnload_53 ⟨Nat.zero_le _, Nat.zero_le _⟩ (fun r53 H locs h1 hP hS => ?_)
      refine lv_icmp_le (tgt := 65) hx hb dX9_doUnload_56 (by decide) (fun c56 => ?_) (fun c56 => ?_)
      · replace h1 := Ok.pos c56 h1
        refine lv_aload_n hx hb dX9_doUnload_65 rfl (lv_at hl 1 rfl) ?_
        refine k_get (v := .ref (hh 0)) (C := RX9) (T := TX9) (N := 9) hx hb hts inX9_doUnload_X9 hown hK hP 0 (wF_c0 _ _ _ _ _ _) rfl 0 (by decide) lkX9_doUnload_10 (fFs_0 _ _ _ _) dX9_doUnload_66 ?_
        refine k_get (v := .int (si (fN u))) (C := RX8) (T := TX8) (N := 13) hx hb hts inX9_doUnload_X8 hown hK hP 5 (wF_c5 _ _ _ _ _ _) rfl 12 (by decide) lkX9_doUnload_173 (sFs_12 _ _) dX9_doUnload_69 ?_
        refine lv_aload_n hx hb dX9_doUnload_72 rfl (lv_at hl 1 rfl) ?_
        refine k_get (v := .ref (hh 0)) (C := RX9) (T := TX9) (N := 9) hx hb hts inX9_doUnload_X9 hown hK hP 0 (wF_c0 _ _ _ _ _ _) rfl 0 (by decide) lkX9_doUnload_10 (fFs_0 _ _ _ _) dX9_doUnload_73 ?_
        refine lv_iload_n hx hb dX9_doUnload_76 rfl (lv_at hl 0 rfl) ?_
        refine lv_iconst (v := 1) hx hb dX9_doUnload_77 rfl ?_
        refine kc_rV (b := (hh 0)) (As := [.int r5, .int 1]) (rest := [.int (si (fN u))]) h1 ⟨hx, hb, hml, hown, hts⟩ (cX8_carKindFactM l D cy (hh 0) (aa 0) H.size (fN u) r5 1) (cwV 2 hts gX9_doUnload_X8_carKindFact rfl rfl rfl hdX8_carKindFact ⟨Nat.le_of_ble_eq_true rfl, Nat.le_of_ble_eq_true rfl⟩) hK (wF_sel1 _ _ _ _ _ _) hP hD hS hA (q0 := 0) rfl rfl rfl hl.1 rfl (Nat.le_of_ble_eq_true rfl) dX9_doUnload_78 ⟨Nat.zero_le _, Nat.zero_le _⟩ (fun r78 H locs h1 hP hS => ?_)
        refine lv_icmp_le (tgt := 90) hx hb dX9_doUnload_81 (by decide) (fun c81 => ?_) (fun c81 => ?_)
        · replace h1 := Ok.pos c81 h1
          refine lv_aload_n hx hb dX9_doUnload_90 rfl (lv_at hl 1 rfl) ?_
          refine kc_vV0 (b := (ad 0)) (As := []) (rest := []) h1 ⟨hx, hb, hml, hown, hts⟩ (cX9_acceptM l D cy ad hh aa pa H.size u) (cwV 0 hts gX9_doUnload_X9_accept rfl rfl rfl hdX9_accept ⟨Nat.le_of_ble_eq_true rfl, Nat.le_of_ble_eq_true rfl⟩) hK hP hD hS hA (q0 := 0) rfl rfl rfl hl.1 rfl (Nat.le_of_ble_eq_true rfl) dX9_doUnload_91 ⟨Nat.zero_le _, Nat.zero_le _⟩ (fun u91 H locs h1 hP hD hS => ?_)
          refine lv_aload_n hx hb dX9_doUnload_94 rfl (lv_at hl 1 rfl) ?_
          refine k_get (v := .ref (hh 0)) (C := RX9) (T := TX9) (N := 9) hx hb hts inX9_doUnload_X9 hown hK hP 0 (wF_c0 _ _ _ _ _ _) rfl 0 (by decide) lkX9_doUnload_10 (fFs_0 _ _ _ _) dX9_doUnload_95 ?_
          refine lv_iload_n hx hb dX9_doUnload_98 rfl (lv_at hl 2 rfl) ?_
          refine kc_vV (b := (hh 0)) (As := [.int x1]) (rest := []) h1 ⟨hx, hb, hml, hown, hts⟩ (cX8_takeFromDeckM l D cy (hh 0) (aa 0) H.size (fN u91) x1) (cwV 1 hts gX9_doUnload_X8_takeFromDeck rfl rfl rfl hdX8_takeFromDeck ⟨Nat.le_of_ble_eq_true rfl, Nat.le_of_ble_eq_true rfl⟩) hK (wF_sel1 _ _ _ _ _ _) hP hD hS hA (q0 := 0) rfl rfl rfl hl.1 rfl (Nat.le_of_ble_eq_true rfl) dX9_doUnload_99 ⟨Nat.zero_le _, Nat.zero_le _⟩ (fun u99 H locs h1 hP hD hS => ?_)
          replace hP := kP_perm (wF_uns1_0 cy ad hh aa pa u91 u99).symm hP
          replace hD := kD_perm (wF_uns1_0 cy ad hh aa pa u91 u99).symm hD
          refine lv_iload_n hx hb dX9_doUnload_102 rfl (lv_at hl 0 rfl) ?_
          exact kret_i hx hb hr hlocks hP hD hS h1 dX9_doUnload_103
        · replace h1 := Ok.neg c81 h1
          refine lv_aload_n hx hb dX9_doUnload_84 rfl (lv_at hl 1 rfl) ?_
          refine lv_iconst (v := 4) hx hb dX9_doUnload_85 rfl ?_
          refine kc_iV0 (b := (ad 0)) (As := [.int 4]) (rest := []) h1 ⟨hx, hb, hml, hown, hts⟩ (cX9_refuseM l D cy ad hh aa pa H.size u 4) (cwV 1 hts gX9_doUnload_X9_refuse rfl rfl rfl hdX9_refuse ⟨Nat.le_of_ble_eq_true rfl, Nat.le_of_ble_eq_true rfl⟩) hK hP hD hS hA (q0 := 0) rfl rfl rfl hl.1 rfl (Nat.le_of_ble_eq_true rfl) dX9_doUnload_86 ⟨Nat.zero_le _, Nat.zero_le _⟩ (fun r86 u86 H locs h1 hP hD hS => ?_)
          exact kret_i hx hb hr hlocks hP hD hS h1 dX9_doUnload_89
      · replace h1 := Ok.neg c56 h1
        refine lv_aload_n hx hb dX9_doUnload_59 rfl (lv_at hl 1 rfl) ?_
        refine lv_iconst (v := 3) hx hb dX9_doUnload_60 rfl ?_
        refine kc_iV0 (b := (ad 0)) (As := [.int 3]) (rest := []) h1 ⟨hx, hb, hml, hown, hts⟩ (cX9_refuseM l D cy ad hh aa pa H.size u 3) (cwV 1 hts gX9_doUnload_X9_refuse rfl rfl rfl hdX9_refuse ⟨Nat.le_of_ble_eq_true rfl, Nat.le_of_ble_eq_true rfl⟩) hK hP hD hS hA (q0 := 0) rfl rfl rfl hl.1 rfl (Nat.le_of_ble_eq_true rfl) dX9_doUnload_61 ⟨Nat.zero_le _, Nat.zero_le _⟩ (fun r61 u61 H locs h1 hP hD hS => ?_)
        exact kret_i hx hb hr hlocks hP hD hS h1 dX9_doUnload_64
    · replace h1 := Ok.neg c31 h1
      refine lv_aload_n hx hb dX9_doUnload_34 rfl (lv_at hl 1 rfl) ?_
      refine lv_iconst (v := 2) hx hb dX9_doUnload_35 rfl ?_
      refine kc_iV0 (b := (ad 0)) (As := [.int 2]) (rest := []) h1 ⟨hx, hb, hml, hown, hts⟩ (cX9_refuseM l D cy ad hh aa pa H.size u 2) (cwV 1 hts gX9_doUnload_X9_refuse rfl rfl rfl hdX9_refuse ⟨Nat.le_of_ble_eq_true rfl, Nat.le_of_ble_eq_true rfl⟩) hK hP hD hS hA (q0 := 0) rfl rfl rfl hl.1 rfl (Nat.le_of_ble_eq_true rfl) dX9_doUnload_36 ⟨Nat.zero_le _, Nat.zero_le _⟩ (fun r36 u36 H locs h1 hP hD hS => ?_)
      exact kret_i hx hb hr hlocks hP hD hS h1 dX9_doUnload_39
  · replace h1 := Ok.pos c11 h1
    refine lv_aload_n hx hb dX9_doUnload_14 rfl (lv_at hl 1 rfl) ?_
    refine lv_iconst (v := 1) hx hb dX9_doUnload_15 rfl ?_
    refine kc_iV0 (b := (ad 0)) (As := [.int 1]) (rest := []) h1 ⟨hx, hb, hml, hown, hts⟩ (cX9_refuseM l D cy ad hh aa pa H.size u 1) (cwV 1 hts gX9_doUnload_X9_refuse rfl rfl rfl hdX9_refuse ⟨Nat.le_of_ble_eq_true rfl, Nat.le_of_ble_eq_true rfl⟩) hK hP hD hS hA (q0 := 0) rfl rfl rfl hl.1 rfl (Nat.le_of_ble_eq_true rfl) dX9_doUnload_16 ⟨Nat.zero_le _, Nat.zero_le _⟩ (fun r16 u16 H locs h1 hP hD hS => ?_)
    exact kret_i hx hb hr hlocks hP hD hS h1 dX9_doUnload_19
def fX9_doUnload (p1 : Int32) (u : FS) : Option (Int32 × FS) := fX9_doUnload_b0 p1 u
set_option maxHeartbeats 4000000 in
set_option maxRecDepth 100000 in
theorem cX9_doUnloadM (l : Launch) (D : va_G) (cy : Nat → ClassId) (ad : Nat → Nat) (hh : Nat → Nat) (aa : Nat → Nat → Nat) (pa : Nat → Nat) (sz : Nat) (u : FS) (p1 : Int32) : ∀ (K : Int32 → FS → Prop), Ok (fX9_doUnload p1 u) (fun q => K q.1 q.2) → Met l yX9_doUnload wsX9_doUnload rmX9_doUnload (va_Pc [.ref (ad 0), .int p1] (kPre D cy sz (wF cy ad hh aa pa u))) (va_Qi K (fun q => kPost D (va_A (wF cy ad hh aa pa u) sz) (wF cy ad hh aa pa q)) (va_A (wF cy ad hh aa pa u) sz)) 0 0 (va_A (wF cy ad hh aa pa u) sz) := by
  intro K h1
  refine Met.ofW (cc := cX9_doUnload) (maxL := 3) (ret := (some .int)) (by decide) rfl ?_
  intro p e s m args below meth c s₁ B hml hv
  obtain ⟨rfl, hsz, hP, hK, hD0⟩ := hv
  subst hsz
  have E : mE D cy RX9 cX9_doUnload 3 (some .int) wsX9_doUnload (va_A (wF cy ad hh aa pa u) s.heap.size) p s m _ meth c := ⟨B.exec, B.bytes, B.returns, hml, findClass_of_methodNamed B.named, atoms_spec (ws := wsX9_doUnload) B.pre, B.notSynchronized, hK, fun q h => Or.inr h⟩
  have hl := lv_entry ([.ref (ad 0), .int p1]) (n := 3) (Nat.le_of_ble_eq_true rfl)
  rw [lg_entry_eq]
  generalize (lg_sl ([.ref (ad 0), .int p1]) ++ List.replicate (3 - (lg_sl ([.ref (ad 0), .int p1])).length) Slot.unset).toArray = ls at hl ⊢
  exact tX9_doUnload_b0 (fun q => K q.1 q.2) E p1 u _ _ _ hl hP hD0.self va_S.rf h1
-- X9_doCrank
theorem inX9_doCrank_X9 : ∀ w ∈ u_ws RX9 TX9 9, w ∈ wsX9_doCrank := k_lays 51 rfl
theorem lkX9_doCrank_10 : Cond.fieldLink RX9 10 "FerryRamp" "now" "LFerryRamp$State;" ∈ wsX9_doCrank := List.mem_of_getElem? (i := 1) rfl
theorem inX9_doCrank_X8 : ∀ w ∈ u_ws RX8 TX8 13, w ∈ wsX9_doCrank := k_lays 60 rfl
theorem lkX9_doCrank_87 : Cond.fieldLink RX9 87 "FerryRamp$State" "counts" "[I" ∈ wsX9_doCrank := List.mem_of_getElem? (i := 2) rfl
theorem wF_s6 (cy : Nat → ClassId) (ad : Nat → Nat) (hh : Nat → Nat) (aa : Nat → Nat → Nat) (pa : Nat → Nat) (u : FS) (i : Nat) (x : Int32) : (wF cy ad hh aa pa u).set 6 (((aa 0) 0), .inl (cy 0, 17, .inl (upd (sC (fN u)) i x))) = wF cy ad hh aa pa (gN u (wC (fN u) i x)) := (fl_setj (l := wFl cy ad hh aa pa u) (j := 1) (q := 1) (Bn := wS cy (hh 0) (aa 0) (wC (fN u) i x)) rfl rfl (Nat.le_of_ble_eq_true rfl) rfl).trans rfl
theorem lkX9_doCrank_173 : Cond.fieldLink RX9 173 "FerryRamp$State" "lip" "I" ∈ wsX9_doCrank := List.mem_of_getElem? (i := 3) rfl
abbrev rmX9_doCrank : Room := { frames := 4, cells := 0, slots := 0, locals := 103 }
def fX9_doCrank_b0 (x1 : Int32) (u : FS) : Option (Int32 × FS) :=
  (if x1 = 0 then bnd2 (fX9_refuse 1 u) (fun r6 u6 => some (r6, u6)) else (if (sC (fN u) 8) = (-1) then bnd (fX9_accept u) (fun u31 => bnd (fX8_measureRamp (fN (gN u31 (wC (fN u31) 4 ((sC (fN u31) 4) + x1))))) (fun u51 => some (si (fN (gN (gN u31 (wC (fN u31) 4 ((sC (fN u31) 4) + x1))) u51)), gN (gN u31 (wC (fN u31) 4 ((sC (fN u31) 4) + x1))) u51))) else bnd2 (fX9_refuse 2 u) (fun r26 u26 => some (r26, u26))))
set_option maxHeartbeats 4000000 in
set_option maxRecDepth 100000 in
theorem tX9_doCrank_b0 {p : Program} {l : Launch} {e : Env} {s : State} {m : MethodId} {args : Array Value} {below : List Frame} {meth : Method} {c : Code} {D : va_G} {cy : Nat → ClassId} {A : Nat → Prop} {ad : Nat → Nat} {hh : Nat → Nat} {aa : Nat → Nat → Nat} {pa : Nat → Nat} (K : Int32 × FS → Prop) (E : mE D cy RX9 cX9_doCrank 2 (some .int) wsX9_doCrank A p s m args meth c)
     (x1 : Int32) (u : FS) (H : Heap) (locs : List Loc) (ls : Array Slot) (hl : lv_has ls 2 [(0, .ref (ad 0)), (1, .int x1)]) (hP : va_P D kCl (wF cy ad hh aa pa u) H) (hD : va_D A (wF cy ad hh aa pa u)) (hS : va_S A s.heap H locs) (h1 : Ok (fX9_doCrank_b0 x1 u) K) :
    kW p l e rmX9_doCrank s m args below meth c H locs (va_Qi (fun r q => K (r, q)) (fun q => kPost D A (wF cy ad hh aa pa q)) A) A 0 ls [] := by
  obtain ⟨hx, hb, hr, hml, hown, hts, hlocks, hK, hA⟩ := id E
  unfold fX9_doCrank_b0 at h1
  refine lv_iload_n hx hb dX9_doCrank_0 rfl (lv_at hl 1 rfl) ?_
  refine lv_if_ne (tgt := 10) hx hb dX9_doCrank_1 (by decide) (fun c1 => ?_) (fun c1 => ?_)
  · replace h1 := Ok.neg c1 h1
    refine lv_aload_n hx hb dX9_doCrank_10 rfl (lv_at hl 0 rfl) ?_
    refine k_get (v := .ref (hh 0)) (C := RX9) (T := TX9) (N := 9) hx hb hts inX9_doCrank_X9 hown hK hP 0 (wF_c0 _ _ _ _ _ _) rfl 0 (by decide) lkX9_doCrank_10 (fFs_0 _ _ _ _) dX9_doCrank_11 ?_
    refine k_get (v := .ref ((aa 0) 0)) (C := RX8) (T := TX8) (N := 13) hx hb hts inX9_doCrank_X8 hown hK hP 5 (wF_c5 _ _ _ _ _ _) rfl 0 (by decide) lkX9_doCrank_87 (sFs_0 _ _) dX9_doCrank_14 ?_
    refine lv_bipush (v := 8) hx hb dX9_doCrank_17 rfl ?_
    refine k_iald (k := 8) hx hb hK hP 6 (wF_c6 _ _ _ _ _ _) rfl rfl dX9_doCrank_19 ?_
    refine lv_iconst (v := (-1)) hx hb dX9_doCrank_20 rfl ?_
    refine lv_icmp_eq (tgt := 30) hx hb dX9_doCrank_21 (by decide) (fun c21 => ?_) (fun c21 => ?_)
    · replace h1 := Ok.pos c21 h1
      refine lv_aload_n hx hb dX9_doCrank_30 rfl (lv_at hl 0 rfl) ?_
      refine kc_vV0 (b := (ad 0)) (As := []) (rest := []) h1 ⟨hx, hb, hml, hown, hts⟩ (cX9_acceptM l D cy ad hh aa pa H.size u) (cwV 0 hts gX9_doCrank_X9_accept rfl rfl rfl hdX9_accept ⟨Nat.le_of_ble_eq_true rfl, Nat.le_of_ble_eq_true rfl⟩) hK hP hD hS hA (q0 := 0) rfl rfl rfl hl.1 rfl (Nat.le_of_ble_eq_true rfl) dX9_doCrank_31 ⟨Nat.zero_le _, Nat.zero_le _⟩ (fun u31 H locs h1 hP hD hS => ?_)
      refine lv_aload_n hx hb dX9_doCrank_34 rfl (lv_at hl 0 rfl) ?_
      refine k_get (v := .ref (hh 0)) (C := RX9) (T := TX9) (N := 9) hx hb hts inX9_doCrank_X9 hown hK hP 0 (wF_c0 _ _ _ _ _ _) rfl 0 (by decide) lkX9_doCrank_10 (fFs_0 _ _ _ _) dX9_doCrank_35 ?_
      refine k_get (v := .ref ((aa 0) 0)) (C := RX8) (T := TX8) (N := 13) hx hb hts inX9_doCrank_X8 hown hK hP 5 (wF_c5 _ _ _ _ _ _) rfl 0 (by decide) lkX9_doCrank_87 (sFs_0 _ _) dX9_doCrank_38 ?_
      refine lv_iconst (v := 4) hx hb dX9_doCrank_41 rfl ?_
      refine lv_dup2_11 hx hb dX9_doCrank_42 rfl rfl ?_
      refine k_iald (k := 4) hx hb hK hP 6 (wF_c6 _ _ _ _ _ _) rfl rfl dX9_doCrank_43 ?_
      refine lv_iload_n hx hb dX9_doCrank_44 rfl (lv_at hl 1 rfl) ?_
      refine lv_iadd hx hb dX9_doCrank_45 ?_
      refine k_iast (k := 4) (ws' := wF cy ad hh aa pa (gN u31 (wC (fN u31) 4 ((sC (fN u31) 4) + x1)))) hx hb hK hP hD hS 6 (wF_c6 _ _ _ _ _ _) rfl rfl (wF_s6 _ _ _ _ _ _ _ _) dX9_doCrank_46 (fun H locs hP hD hS => ?_)
      refine lv_aload_n hx hb dX9_doCrank_47 rfl (lv_at hl 0 rfl) ?_
      refine k_get (v := .ref (hh 0)) (C := RX9) (T := TX9) (N := 9) hx hb hts inX9_doCrank_X9 hown hK hP 0 (wF_c0 _ _ _ _ _ _) rfl 0 (by decide) lkX9_doCrank_10 (fFs_0 _ _ _ _) dX9_doCrank_48 ?_
      refine kc_vV (b := (hh 0)) (As := []) (rest := []) h1 ⟨hx, hb, hml, hown, hts⟩ (cX8_measureRampM l D cy (hh 0) (aa 0) H.size (fN (gN u31 (wC (fN u31) 4 ((sC (fN u31) 4) + x1))))) (cwV 0 hts gX9_doCrank_X8_measureRamp rfl rfl rfl hdX8_measureRamp ⟨Nat.le_of_ble_eq_true rfl, Nat.le_of_ble_eq_true rfl⟩) hK (wF_sel1 _ _ _ _ _ _) hP hD hS hA (q0 := 0) rfl rfl rfl hl.1 rfl (Nat.le_of_ble_eq_true rfl) dX9_doCrank_51 ⟨Nat.zero_le _, Nat.zero_le _⟩ (fun u51 H locs h1 hP hD hS => ?_)
      replace hP := kP_perm (wF_uns1_0 cy ad hh aa pa (gN u31 (wC (fN u31) 4 ((sC (fN u31) 4) + x1))) u51).symm hP
      replace hD := kD_perm (wF_uns1_0 cy ad hh aa pa (gN u31 (wC (fN u31) 4 ((sC (fN u31) 4) + x1))) u51).symm hD
      refine lv_aload_n hx hb dX9_doCrank_54 rfl (lv_at hl 0 rfl) ?_
      refine k_get (v := .ref (hh 0)) (C := RX9) (T := TX9) (N := 9) hx hb hts inX9_doCrank_X9 hown hK hP 0 (wF_c0 _ _ _ _ _ _) rfl 0 (by decide) lkX9_doCrank_10 (fFs_0 _ _ _ _) dX9_doCrank_55 ?_
      refine k_get (v := .int (si (fN (gN (gN u31 (wC (fN u31) 4 ((sC (fN u31) 4) + x1))) u51)))) (C := RX8) (T := TX8) (N := 13) hx hb hts inX9_doCrank_X8 hown hK hP 5 (wF_c5 _ _ _ _ _ _) rfl 12 (by decide) lkX9_doCrank_173 (sFs_12 _ _) dX9_doCrank_58 ?_
      exact kret_i hx hb hr hlocks hP hD hS h1 dX9_doCrank_61
    · replace h1 := Ok.neg c21 h1
      refine lv_aload_n hx hb dX9_doCrank_24 rfl (lv_at hl 0 rfl) ?_
      refine lv_iconst (v := 2) hx hb dX9_doCrank_25 rfl ?_
      refine kc_iV0 (b := (ad 0)) (As := [.int 2]) (rest := []) h1 ⟨hx, hb, hml, hown, hts⟩ (cX9_refuseM l D cy ad hh aa pa H.size u 2) (cwV 1 hts gX9_doCrank_X9_refuse rfl rfl rfl hdX9_refuse ⟨Nat.le_of_ble_eq_true rfl, Nat.le_of_ble_eq_true rfl⟩) hK hP hD hS hA (q0 := 0) rfl rfl rfl hl.1 rfl (Nat.le_of_ble_eq_true rfl) dX9_doCrank_26 ⟨Nat.zero_le _, Nat.zero_le _⟩ (fun r26 u26 H locs h1 hP hD hS => ?_)
      exact kret_i hx hb hr hlocks hP hD hS h1 dX9_doCrank_29
  · replace h1 := Ok.pos c1 h1
    refine lv_aload_n hx hb dX9_doCrank_4 rfl (lv_at hl 0 rfl) ?_
    refine lv_iconst (v := 1) hx hb dX9_doCrank_5 rfl ?_
    refine kc_iV0 (b := (ad 0)) (As := [.int 1]) (rest := []) h1 ⟨hx, hb, hml, hown, hts⟩ (cX9_refuseM l D cy ad hh aa pa H.size u 1) (cwV 1 hts gX9_doCrank_X9_refuse rfl rfl rfl hdX9_refuse ⟨Nat.le_of_ble_eq_true rfl, Nat.le_of_ble_eq_true rfl⟩) hK hP hD hS hA (q0 := 0) rfl rfl rfl hl.1 rfl (Nat.le_of_ble_eq_true rfl) dX9_doCrank_6 ⟨Nat.zero_le _, Nat.zero_le _⟩ (fun r6 u6 H locs h1 hP hD hS => ?_)
    exact kret_i hx hb hr hlocks hP hD hS h1 dX9_doCrank_9
def fX9_doCrank (p1 : Int32) (u : FS) : Option (Int32 × FS) := fX9_doCrank_b0 p1 u
set_option maxHeartbeats 4000000 in
set_option maxRecDepth 100000 in
theorem cX9_doCrankM (l : Launch) (D : va_G) (cy : Nat → ClassId) (ad : Nat → Nat) (hh : Nat → Nat) (aa : Nat → Nat → Nat) (pa : Nat → Nat) (sz : Nat) (u : FS) (p1 : Int32) : ∀ (K : Int32 → FS → Prop), Ok (fX9_doCrank p1 u) (fun q => K q.1 q.2) → Met l yX9_doCrank wsX9_doCrank rmX9_doCrank (va_Pc [.ref (ad 0), .int p1] (kPre D cy sz (wF cy ad hh aa pa u))) (va_Qi K (fun q => kPost D (va_A (wF cy ad hh aa pa u) sz) (wF cy ad hh aa pa q)) (va_A (wF cy ad hh aa pa u) sz)) 0 0 (va_A (wF cy ad hh aa pa u) sz) := by
  intro K h1
  refine Met.ofW (cc := cX9_doCrank) (maxL := 2) (ret := (some .int)) (by decide) rfl ?_
  intro p e s m args below meth c s₁ B hml hv
  obtain ⟨rfl, hsz, hP, hK, hD0⟩ := hv
  subst hsz
  have E : mE D cy RX9 cX9_doCrank 2 (some .int) wsX9_doCrank (va_A (wF cy ad hh aa pa u) s.heap.size) p s m _ meth c := ⟨B.exec, B.bytes, B.returns, hml, findClass_of_methodNamed B.named, atoms_spec (ws := wsX9_doCrank) B.pre, B.notSynchronized, hK, fun q h => Or.inr h⟩
  have hl := lv_entry ([.ref (ad 0), .int p1]) (n := 2) (Nat.le_of_ble_eq_true rfl)
  rw [lg_entry_eq]
  generalize (lg_sl ([.ref (ad 0), .int p1]) ++ List.replicate (2 - (lg_sl ([.ref (ad 0), .int p1])).length) Slot.unset).toArray = ls at hl ⊢
  exact tX9_doCrank_b0 (fun q => K q.1 q.2) E p1 u _ _ _ hl hP hD0.self va_S.rf h1
-- X9_undo
theorem inX9_undo_X9 : ∀ w ∈ u_ws RX9 TX9 9, w ∈ wsX9_undo := k_lays 33 rfl
theorem lkX9_undo_22 : Cond.fieldLink RX9 22 "FerryRamp" "history" "LFerryRamp$History;" ∈ wsX9_undo := List.mem_of_getElem? (i := 1) rfl
theorem lkX9_undo_10 : Cond.fieldLink RX9 10 "FerryRamp" "now" "LFerryRamp$State;" ∈ wsX9_undo := List.mem_of_getElem? (i := 2) rfl
theorem hdX4_takeBack : yX4_takeBack.cls = RX4 ∧ yX4_takeBack.cls ≠ "java/lang/invoke/MethodHandle" ∧ yX4_takeBack.cls ≠ "java/lang/invoke/VarHandle" ∧ (parseMethodDescriptor yX4_takeBack.desc).map (fun d => d.parameters.length) = some 1 := by decide +kernel
abbrev rmX9_undo : Room := { frames := 3, cells := 0, slots := 0, locals := 84 }
def fX9_undo_b0 (u : FS) : Option (Int32 × FS) :=
  bnd2 (fX4_takeBack (fH u)) (fun r8 u8 => some (r8, gH u u8))
set_option maxHeartbeats 4000000 in
set_option maxRecDepth 100000 in
theorem tX9_undo_b0 {p : Program} {l : Launch} {e : Env} {s : State} {m : MethodId} {args : Array Value} {below : List Frame} {meth : Method} {c : Code} {D : va_G} {cy : Nat → ClassId} {A : Nat → Prop} {ad : Nat → Nat} {hh : Nat → Nat} {aa : Nat → Nat → Nat} {pa : Nat → Nat} (K : Int32 × FS → Prop) (E : mE D cy RX9 cX9_undo 1 (some .int) wsX9_undo A p s m args meth c)
     (u : FS) (H : Heap) (locs : List Loc) (ls : Array Slot) (hl : lv_has ls 1 [(0, .ref (ad 0))]) (hP : va_P D kCl (wF cy ad hh aa pa u) H) (hD : va_D A (wF cy ad hh aa pa u)) (hS : va_S A s.heap H locs) (h1 : Ok (fX9_undo_b0 u) K) :
    kW p l e rmX9_undo s m args below meth c H locs (va_Qi (fun r q => K (r, q)) (fun q => kPost D A (wF cy ad hh aa pa q)) A) A 0 ls [] := by
  obtain ⟨hx, hb, hr, hml, hown, hts, hlocks, hK, hA⟩ := id E
  unfold fX9_undo_b0 at h1
  refine lv_aload_n hx hb dX9_undo_0 rfl (lv_at hl 0 rfl) ?_
  refine k_get (v := .ref (ad 5)) (C := RX9) (T := TX9) (N := 9) hx hb hts inX9_undo_X9 hown hK hP 0 (wF_c0 _ _ _ _ _ _) rfl 2 (by decide) lkX9_undo_22 (fFs_2 _ _ _ _) dX9_undo_1 ?_
  refine lv_aload_n hx hb dX9_undo_4 rfl (lv_at hl 0 rfl) ?_
  refine k_get (v := .ref (hh 0)) (C := RX9) (T := TX9) (N := 9) hx hb hts inX9_undo_X9 hown hK hP 0 (wF_c0 _ _ _ _ _ _) rfl 0 (by decide) lkX9_undo_10 (fFs_0 _ _ _ _) dX9_undo_5 ?_
  refine kc_iV (b := (ad 5)) (As := [.ref (hh 0)]) (rest := []) h1 ⟨hx, hb, hml, hown, hts⟩ (cX4_takeBackM l D cy (ad 5) (ad 6) hh aa (hh 0) (aa 0) H.size (fH u)) (cwV 1 hts gX9_undo_X4_takeBack rfl rfl rfl hdX4_takeBack ⟨Nat.le_of_ble_eq_true rfl, Nat.le_of_ble_eq_true rfl⟩) hK (wF_selH _ _ _ _ _ _) hP hD hS hA (q0 := 0) rfl rfl rfl hl.1 rfl (Nat.le_of_ble_eq_true rfl) dX9_undo_8 ⟨Nat.zero_le _, Nat.zero_le _⟩ (fun r8 u8 H locs h1 hP hD hS => ?_)
  replace hP := kP_perm (wF_unsH_0 cy ad hh aa pa u u8).symm hP
  replace hD := kD_perm (wF_unsH_0 cy ad hh aa pa u u8).symm hD
  exact kret_i hx hb hr hlocks hP hD hS h1 dX9_undo_11
def fX9_undo (u : FS) : Option (Int32 × FS) := fX9_undo_b0 u
set_option maxHeartbeats 4000000 in
set_option maxRecDepth 100000 in
theorem cX9_undoM (l : Launch) (D : va_G) (cy : Nat → ClassId) (ad : Nat → Nat) (hh : Nat → Nat) (aa : Nat → Nat → Nat) (pa : Nat → Nat) (sz : Nat) (u : FS) : ∀ (K : Int32 → FS → Prop), Ok (fX9_undo u) (fun q => K q.1 q.2) → Met l yX9_undo wsX9_undo rmX9_undo (va_Pc [.ref (ad 0)] (kPre D cy sz (wF cy ad hh aa pa u))) (va_Qi K (fun q => kPost D (va_A (wF cy ad hh aa pa u) sz) (wF cy ad hh aa pa q)) (va_A (wF cy ad hh aa pa u) sz)) 0 0 (va_A (wF cy ad hh aa pa u) sz) := by
  intro K h1
  refine Met.ofW (cc := cX9_undo) (maxL := 1) (ret := (some .int)) (by decide) rfl ?_
  intro p e s m args below meth c s₁ B hml hv
  obtain ⟨rfl, hsz, hP, hK, hD0⟩ := hv
  subst hsz
  have E : mE D cy RX9 cX9_undo 1 (some .int) wsX9_undo (va_A (wF cy ad hh aa pa u) s.heap.size) p s m _ meth c := ⟨B.exec, B.bytes, B.returns, hml, findClass_of_methodNamed B.named, atoms_spec (ws := wsX9_undo) B.pre, B.notSynchronized, hK, fun q h => Or.inr h⟩
  have hl := lv_entry ([.ref (ad 0)]) (n := 1) (Nat.le_of_ble_eq_true rfl)
  rw [lg_entry_eq]
  generalize (lg_sl ([.ref (ad 0)]) ++ List.replicate (1 - (lg_sl ([.ref (ad 0)])).length) Slot.unset).toArray = ls at hl ⊢
  exact tX9_undo_b0 (fun q => K q.1 q.2) E u _ _ _ hl hP hD0.self va_S.rf h1
-- X9_slope
theorem inX9_slope_X9 : ∀ w ∈ u_ws RX9 TX9 9, w ∈ wsX9_slope := k_lays 3 rfl
theorem lkX9_slope_10 : Cond.fieldLink RX9 10 "FerryRamp" "now" "LFerryRamp$State;" ∈ wsX9_slope := List.mem_of_getElem? (i := 1) rfl
theorem inX9_slope_X8 : ∀ w ∈ u_ws RX8 TX8 13, w ∈ wsX9_slope := k_lays 12 rfl
theorem lkX9_slope_170 : Cond.fieldLink RX9 170 "FerryRamp$State" "slope" "I" ∈ wsX9_slope := List.mem_of_getElem? (i := 2) rfl
abbrev rmX9_slope : Room := { frames := 0, cells := 0, slots := 0, locals := 0 }
def fX9_slope_b0 (u : FS) : Option (Int32) :=
  some (sp (fN u))
set_option maxHeartbeats 4000000 in
set_option maxRecDepth 100000 in
theorem tX9_slope_b0 {p : Program} {l : Launch} {e : Env} {s : State} {m : MethodId} {args : Array Value} {below : List Frame} {meth : Method} {c : Code} {D : va_G} {cy : Nat → ClassId} {A : Nat → Prop} {ad : Nat → Nat} {hh : Nat → Nat} {aa : Nat → Nat → Nat} {pa : Nat → Nat} (K : Int32 → Prop) (E : mE D cy RX9 cX9_slope 1 (some .int) wsX9_slope A p s m args meth c) (u : FS)
     (H : Heap) (locs : List Loc) (ls : Array Slot) (hl : lv_has ls 1 [(0, .ref (ad 0))]) (hP : va_P D kCl (wF cy ad hh aa pa u) H) (hD : va_D A (wF cy ad hh aa pa u)) (hS : va_S A s.heap H locs) (h1 : Ok (fX9_slope_b0 u) K) :
    kW p l e rmX9_slope s m args below meth c H locs (va_Qi (fun r (_ : Unit) => K r) (fun _ => kPost D A (wF cy ad hh aa pa u)) A) A 0 ls [] := by
  obtain ⟨hx, hb, hr, hml, hown, hts, hlocks, hK, hA⟩ := id E
  unfold fX9_slope_b0 at h1
  refine lv_aload_n hx hb dX9_slope_0 rfl (lv_at hl 0 rfl) ?_
  refine k_get (v := .ref (hh 0)) (C := RX9) (T := TX9) (N := 9) hx hb hts inX9_slope_X9 hown hK hP 0 (wF_c0 _ _ _ _ _ _) rfl 0 (by decide) lkX9_slope_10 (fFs_0 _ _ _ _) dX9_slope_1 ?_
  refine k_get (v := .int (sp (fN u))) (C := RX8) (T := TX8) (N := 13) hx hb hts inX9_slope_X8 hown hK hP 5 (wF_c5 _ _ _ _ _ _) rfl 11 (by decide) lkX9_slope_170 (sFs_11 _ _) dX9_slope_4 ?_
  exact kret_r hx hb hr hlocks hP hD hS h1 dX9_slope_7
def fX9_slope (u : FS) : Option (Int32) := fX9_slope_b0 u
set_option maxHeartbeats 4000000 in
set_option maxRecDepth 100000 in
theorem cX9_slopeM (l : Launch) (D : va_G) (cy : Nat → ClassId) (ad : Nat → Nat) (hh : Nat → Nat) (aa : Nat → Nat → Nat) (pa : Nat → Nat) (sz : Nat) (u : FS) : ∀ (K : Int32 → Prop), Ok (fX9_slope u) K → Met l yX9_slope wsX9_slope rmX9_slope (va_Pc [.ref (ad 0)] (kPre D cy sz (wF cy ad hh aa pa u))) (va_Qi (fun r (_ : Unit) => K r) (fun _ => kPost D (va_A (wF cy ad hh aa pa u) sz) (wF cy ad hh aa pa u)) (va_A (wF cy ad hh aa pa u) sz)) 0 0 (va_A (wF cy ad hh aa pa u) sz) := by
  intro K h1
  refine Met.ofW (cc := cX9_slope) (maxL := 1) (ret := (some .int)) (by decide) rfl ?_
  intro p e s m args below meth c s₁ B hml hv
  obtain ⟨rfl, hsz, hP, hK, hD0⟩ := hv
  subst hsz
  have E : mE D cy RX9 cX9_slope 1 (some .int) wsX9_slope (va_A (wF cy ad hh aa pa u) s.heap.size) p s m _ meth c := ⟨B.exec, B.bytes, B.returns, hml, findClass_of_methodNamed B.named, atoms_spec (ws := wsX9_slope) B.pre, B.notSynchronized, hK, fun q h => Or.inr h⟩
  have hl := lv_entry ([.ref (ad 0)]) (n := 1) (Nat.le_of_ble_eq_true rfl)
  rw [lg_entry_eq]
  generalize (lg_sl ([.ref (ad 0)]) ++ List.replicate (1 - (lg_sl ([.ref (ad 0)])).length) Slot.unset).toArray = ls at hl ⊢
  exact tX9_slope_b0 K E u _ _ _ hl hP hD0.self va_S.rf h1
-- X9_lip
theorem inX9_lip_X9 : ∀ w ∈ u_ws RX9 TX9 9, w ∈ wsX9_lip := k_lays 3 rfl
theorem lkX9_lip_10 : Cond.fieldLink RX9 10 "FerryRamp" "now" "LFerryRamp$State;" ∈ wsX9_lip := List.mem_of_getElem? (i := 1) rfl
theorem inX9_lip_X8 : ∀ w ∈ u_ws RX8 TX8 13, w ∈ wsX9_lip := k_lays 12 rfl
theorem lkX9_lip_173 : Cond.fieldLink RX9 173 "FerryRamp$State" "lip" "I" ∈ wsX9_lip := List.mem_of_getElem? (i := 2) rfl
abbrev rmX9_lip : Room := { frames := 0, cells := 0, slots := 0, locals := 0 }
def fX9_lip_b0 (u : FS) : Option (Int32) :=
  some (si (fN u))
set_option maxHeartbeats 4000000 in
set_option maxRecDepth 100000 in
theorem tX9_lip_b0 {p : Program} {l : Launch} {e : Env} {s : State} {m : MethodId} {args : Array Value} {below : List Frame} {meth : Method} {c : Code} {D : va_G} {cy : Nat → ClassId} {A : Nat → Prop} {ad : Nat → Nat} {hh : Nat → Nat} {aa : Nat → Nat → Nat} {pa : Nat → Nat} (K : Int32 → Prop) (E : mE D cy RX9 cX9_lip 1 (some .int) wsX9_lip A p s m args meth c) (u : FS)
     (H : Heap) (locs : List Loc) (ls : Array Slot) (hl : lv_has ls 1 [(0, .ref (ad 0))]) (hP : va_P D kCl (wF cy ad hh aa pa u) H) (hD : va_D A (wF cy ad hh aa pa u)) (hS : va_S A s.heap H locs) (h1 : Ok (fX9_lip_b0 u) K) :
    kW p l e rmX9_lip s m args below meth c H locs (va_Qi (fun r (_ : Unit) => K r) (fun _ => kPost D A (wF cy ad hh aa pa u)) A) A 0 ls [] := by
  obtain ⟨hx, hb, hr, hml, hown, hts, hlocks, hK, hA⟩ := id E
  unfold fX9_lip_b0 at h1
  refine lv_aload_n hx hb dX9_lip_0 rfl (lv_at hl 0 rfl) ?_
  refine k_get (v := .ref (hh 0)) (C := RX9) (T := TX9) (N := 9) hx hb hts inX9_lip_X9 hown hK hP 0 (wF_c0 _ _ _ _ _ _) rfl 0 (by decide) lkX9_lip_10 (fFs_0 _ _ _ _) dX9_lip_1 ?_
  refine k_get (v := .int (si (fN u))) (C := RX8) (T := TX8) (N := 13) hx hb hts inX9_lip_X8 hown hK hP 5 (wF_c5 _ _ _ _ _ _) rfl 12 (by decide) lkX9_lip_173 (sFs_12 _ _) dX9_lip_4 ?_
  exact kret_r hx hb hr hlocks hP hD hS h1 dX9_lip_7
def fX9_lip (u : FS) : Option (Int32) := fX9_lip_b0 u
set_option maxHeartbeats 4000000 in
set_option maxRecDepth 100000 in
theorem cX9_lipM (l : Launch) (D : va_G) (cy : Nat → ClassId) (ad : Nat → Nat) (hh : Nat → Nat) (aa : Nat → Nat → Nat) (pa : Nat → Nat) (sz : Nat) (u : FS) : ∀ (K : Int32 → Prop), Ok (fX9_lip u) K → Met l yX9_lip wsX9_lip rmX9_lip (va_Pc [.ref (ad 0)] (kPre D cy sz (wF cy ad hh aa pa u))) (va_Qi (fun r (_ : Unit) => K r) (fun _ => kPost D (va_A (wF cy ad hh aa pa u) sz) (wF cy ad hh aa pa u)) (va_A (wF cy ad hh aa pa u) sz)) 0 0 (va_A (wF cy ad hh aa pa u) sz) := by
  intro K h1
  refine Met.ofW (cc := cX9_lip) (maxL := 1) (ret := (some .int)) (by decide) rfl ?_
  intro p e s m args below meth c s₁ B hml hv
  obtain ⟨rfl, hsz, hP, hK, hD0⟩ := hv
  subst hsz
  have E : mE D cy RX9 cX9_lip 1 (some .int) wsX9_lip (va_A (wF cy ad hh aa pa u) s.heap.size) p s m _ meth c := ⟨B.exec, B.bytes, B.returns, hml, findClass_of_methodNamed B.named, atoms_spec (ws := wsX9_lip) B.pre, B.notSynchronized, hK, fun q h => Or.inr h⟩
  have hl := lv_entry ([.ref (ad 0)]) (n := 1) (Nat.le_of_ble_eq_true rfl)
  rw [lg_entry_eq]
  generalize (lg_sl ([.ref (ad 0)]) ++ List.replicate (1 - (lg_sl ([.ref (ad 0)])).length) Slot.unset).toArray = ls at hl ⊢
  exact tX9_lip_b0 K E u _ _ _ hl hP hD0.self va_S.rf h1
-- X9_waterIn
theorem inX9_waterIn_X9 : ∀ w ∈ u_ws RX9 TX9 9, w ∈ wsX9_waterIn := k_lays 4 rfl
theorem lkX9_waterIn_10 : Cond.fieldLink RX9 10 "FerryRamp" "now" "LFerryRamp$State;" ∈ wsX9_waterIn := List.mem_of_getElem? (i := 1) rfl
theorem inX9_waterIn_X8 : ∀ w ∈ u_ws RX8 TX8 13, w ∈ wsX9_waterIn := k_lays 13 rfl
theorem lkX9_waterIn_116 : Cond.fieldLink RX9 116 "FerryRamp$State" "settings" "[I" ∈ wsX9_waterIn := List.mem_of_getElem? (i := 2) rfl
theorem wF_c7 (cy : Nat → ClassId) (ad : Nat → Nat) (hh : Nat → Nat) (aa : Nat → Nat → Nat) (pa : Nat → Nat) (u : FS) : (wF cy ad hh aa pa u)[7]? = some (((aa 0) 1), .inl (cy 0, 14, .inl (sT (fN u)))) := fl_atj (l := wFl cy ad hh aa pa u) (j := 1) (q := 2) rfl rfl rfl
theorem lkX9_waterIn_87 : Cond.fieldLink RX9 87 "FerryRamp$State" "counts" "[I" ∈ wsX9_waterIn := List.mem_of_getElem? (i := 3) rfl
abbrev rmX9_waterIn : Room := { frames := 0, cells := 0, slots := 0, locals := 0 }
def fX9_waterIn_b30 (x3 : Int32) (s0 : Int32) (u : FS) : Option (Int32) :=
  grd (nz x3) (grd (nz x3) (some (((s0 + x3) - ((sC (fN u) 0) - (sC (fN u) 0) / x3 * x3)) - ((s0 + x3) - ((sC (fN u) 0) - (sC (fN u) 0) / x3 * x3)) / x3 * x3)))
set_option maxHeartbeats 4000000 in
set_option maxRecDepth 100000 in
theorem tX9_waterIn_b30 {p : Program} {l : Launch} {e : Env} {s : State} {m : MethodId} {args : Array Value} {below : List Frame} {meth : Method} {c : Code} {D : va_G} {cy : Nat → ClassId} {A : Nat → Prop} {ad : Nat → Nat} {hh : Nat → Nat} {aa : Nat → Nat → Nat} {pa : Nat → Nat} (K : Int32 → Prop) (E : mE D cy RX9 cX9_waterIn 5 (some .int) wsX9_waterIn A p s m args meth c) (u : FS)
     (x3 : Int32) (s0 : Int32) (H : Heap) (locs : List Loc) (ls : Array Slot) (hl : lv_has ls 5 [(0, .ref (ad 0)), (3, .int x3)]) (hP : va_P D kCl (wF cy ad hh aa pa u) H) (hD : va_D A (wF cy ad hh aa pa u)) (hS : va_S A s.heap H locs) (h1 : Ok (fX9_waterIn_b30 x3 s0 u) K) :
    kW p l e rmX9_waterIn s m args below meth c H locs (va_Qi (fun r (_ : Unit) => K r) (fun _ => kPost D A (wF cy ad hh aa pa u)) A) A 30 ls [.int s0] := by
  obtain ⟨hx, hb, hr, hml, hown, hts, hlocks, hK, hA⟩ := id E
  unfold fX9_waterIn_b30 at h1
  refine lv_istore (lv' := [(4, .int s0), (0, .ref (ad 0)), (3, .int x3)]) hx hb dX9_waterIn_30 hl (by decide) rfl (fun ls hl => ?_)
  refine lv_iload hx hb dX9_waterIn_32 (lv_at hl 0 rfl) ?_
  refine lv_iload_n hx hb dX9_waterIn_34 rfl (lv_at hl 2 rfl) ?_
  refine lv_iadd hx hb dX9_waterIn_35 ?_
  refine lv_aload_n hx hb dX9_waterIn_36 rfl (lv_at hl 1 rfl) ?_
  refine k_get (v := .ref (hh 0)) (C := RX9) (T := TX9) (N := 9) hx hb hts inX9_waterIn_X9 hown hK hP 0 (wF_c0 _ _ _ _ _ _) rfl 0 (by decide) lkX9_waterIn_10 (fFs_0 _ _ _ _) dX9_waterIn_37 ?_
  refine k_get (v := .ref ((aa 0) 0)) (C := RX8) (T := TX8) (N := 13) hx hb hts inX9_waterIn_X8 hown hK hP 5 (wF_c5 _ _ _ _ _ _) rfl 0 (by decide) lkX9_waterIn_87 (sFs_0 _ _) dX9_waterIn_40 ?_
  refine lv_iconst (v := 0) hx hb dX9_waterIn_43 rfl ?_
  refine k_iald (k := 0) hx hb hK hP 6 (wF_c6 _ _ _ _ _ _) rfl rfl dX9_waterIn_44 ?_
  refine lv_iload_n hx hb dX9_waterIn_45 rfl (lv_at hl 2 rfl) ?_
  have g46 := h1.grd1
  replace h1 := h1.grd2
  refine lv_irem hx hb dX9_waterIn_46 (nz_ne g46) ?_
  refine lv_isub hx hb dX9_waterIn_47 ?_
  refine lv_iload_n hx hb dX9_waterIn_48 rfl (lv_at hl 2 rfl) ?_
  have g49 := h1.grd1
  replace h1 := h1.grd2
  refine lv_irem hx hb dX9_waterIn_49 (nz_ne g49) ?_
  exact kret_r hx hb hr hlocks hP hD hS h1 dX9_waterIn_50
def fX9_waterIn_b0 (x1 : Int32) (u : FS) : Option (Int32) :=
  (if 1 ≤ (sT (fN u) 2) then (if x1 = 0 then fX9_waterIn_b30 (2 * (sT (fN u) 2)) 0 u else fX9_waterIn_b30 (2 * (sT (fN u) 2)) (sT (fN u) 2) u) else some 0)
set_option maxHeartbeats 4000000 in
set_option maxRecDepth 100000 in
theorem tX9_waterIn_b0 {p : Program} {l : Launch} {e : Env} {s : State} {m : MethodId} {args : Array Value} {below : List Frame} {meth : Method} {c : Code} {D : va_G} {cy : Nat → ClassId} {A : Nat → Prop} {ad : Nat → Nat} {hh : Nat → Nat} {aa : Nat → Nat → Nat} {pa : Nat → Nat} (K : Int32 → Prop) (E : mE D cy RX9 cX9_waterIn 5 (some .int) wsX9_waterIn A p s m args meth c) (u : FS)
     (x1 : Int32) (H : Heap) (locs : List Loc) (ls : Array Slot) (hl : lv_has ls 5 [(0, .ref (ad 0)), (1, .int x1)]) (hP : va_P D kCl (wF cy ad hh aa pa u) H) (hD : va_D A (wF cy ad hh aa pa u)) (hS : va_S A s.heap H locs) (h1 : Ok (fX9_waterIn_b0 x1 u) K) :
    kW p l e rmX9_waterIn s m args below meth c H locs (va_Qi (fun r (_ : Unit) => K r) (fun _ => kPost D A (wF cy ad hh aa pa u)) A) A 0 ls [] := by
  obtain ⟨hx, hb, hr, hml, hown, hts, hlocks, hK, hA⟩ := id E
  unfold fX9_waterIn_b0 at h1
  refine lv_aload_n hx hb dX9_waterIn_0 rfl (lv_at hl 0 rfl) ?_
  refine k_get (v := .ref (hh 0)) (C := RX9) (T := TX9) (N := 9) hx hb hts inX9_waterIn_X9 hown hK hP 0 (wF_c0 _ _ _ _ _ _) rfl 0 (by decide) lkX9_waterIn_10 (fFs_0 _ _ _ _) dX9_waterIn_1 ?_
  refine k_get (v := .ref ((aa 0) 1)) (C := RX8) (T := TX8) (N := 13) hx hb hts inX9_waterIn_X8 hown hK hP 5 (wF_c5 _ _ _ _ _ _) rfl 1 (by decide) lkX9_waterIn_116 (sFs_1 _ _) dX9_waterIn_4 ?_
  refine lv_iconst (v := 2) hx hb dX9_waterIn_7 rfl ?_
  refine k_iald (k := 2) hx hb hK hP 7 (wF_c7 _ _ _ _ _ _) rfl rfl dX9_waterIn_8 ?_
  refine lv_istore_n (lv' := [(2, .int (sT (fN u) 2)), (0, .ref (ad 0)), (1, .int x1)]) hx hb dX9_waterIn_9 rfl hl (by decide) rfl (fun ls hl => ?_)
  refine lv_iload_n hx hb dX9_waterIn_10 rfl (lv_at hl 0 rfl) ?_
  refine lv_iconst (v := 1) hx hb dX9_waterIn_11 rfl ?_
  refine lv_icmp_ge (tgt := 17) hx hb dX9_waterIn_12 (by decide) (fun c12 => ?_) (fun c12 => ?_)
  · replace h1 := Ok.pos c12 h1
    refine lv_iconst (v := 2) hx hb dX9_waterIn_17 rfl ?_
    refine lv_iload_n hx hb dX9_waterIn_18 rfl (lv_at hl 0 rfl) ?_
    refine lv_imul hx hb dX9_waterIn_19 ?_
    refine lv_istore_n (lv' := [(3, .int (2 * (sT (fN u) 2))), (2, .int (sT (fN u) 2)), (0, .ref (ad 0)), (1, .int x1)]) hx hb dX9_waterIn_20 rfl hl (by decide) rfl (fun ls hl => ?_)
    refine lv_iload_n hx hb dX9_waterIn_21 rfl (lv_at hl 3 rfl) ?_
    refine lv_if_eq (tgt := 29) hx hb dX9_waterIn_22 (by decide) (fun c22 => ?_) (fun c22 => ?_)
    · replace h1 := Ok.pos c22 h1
      refine lv_iconst (v := 0) hx hb dX9_waterIn_29 rfl ?_
      exact tX9_waterIn_b30 K E u (2 * (sT (fN u) 2)) 0 H locs ls (lv_sub hl [2, 0] rfl) hP hD hS h1
    · replace h1 := Ok.neg c22 h1
      refine lv_iload_n hx hb dX9_waterIn_25 rfl (lv_at hl 1 rfl) ?_
      refine lv_goto (tgt := 30) hx hb dX9_waterIn_26 (by decide) ?_
      exact tX9_waterIn_b30 K E u (2 * (sT (fN u) 2)) (sT (fN u) 2) H locs ls (lv_sub hl [2, 0] rfl) hP hD hS h1
  · replace h1 := Ok.neg c12 h1
    refine lv_iconst (v := 0) hx hb dX9_waterIn_15 rfl ?_
    exact kret_r hx hb hr hlocks hP hD hS h1 dX9_waterIn_16
def fX9_waterIn (p1 : Int32) (u : FS) : Option (Int32) := fX9_waterIn_b0 p1 u
set_option maxHeartbeats 4000000 in
set_option maxRecDepth 100000 in
theorem cX9_waterInM (l : Launch) (D : va_G) (cy : Nat → ClassId) (ad : Nat → Nat) (hh : Nat → Nat) (aa : Nat → Nat → Nat) (pa : Nat → Nat) (sz : Nat) (u : FS) (p1 : Int32) : ∀ (K : Int32 → Prop), Ok (fX9_waterIn p1 u) K → Met l yX9_waterIn wsX9_waterIn rmX9_waterIn (va_Pc [.ref (ad 0), .int p1] (kPre D cy sz (wF cy ad hh aa pa u))) (va_Qi (fun r (_ : Unit) => K r) (fun _ => kPost D (va_A (wF cy ad hh aa pa u) sz) (wF cy ad hh aa pa u)) (va_A (wF cy ad hh aa pa u) sz)) 0 0 (va_A (wF cy ad hh aa pa u) sz) := by
  intro K h1
  refine Met.ofW (cc := cX9_waterIn) (maxL := 5) (ret := (some .int)) (by decide) rfl ?_
  intro p e s m args below meth c s₁ B hml hv
  obtain ⟨rfl, hsz, hP, hK, hD0⟩ := hv
  subst hsz
  have E : mE D cy RX9 cX9_waterIn 5 (some .int) wsX9_waterIn (va_A (wF cy ad hh aa pa u) s.heap.size) p s m _ meth c := ⟨B.exec, B.bytes, B.returns, hml, findClass_of_methodNamed B.named, atoms_spec (ws := wsX9_waterIn) B.pre, B.notSynchronized, hK, fun q h => Or.inr h⟩
  have hl := lv_entry ([.ref (ad 0), .int p1]) (n := 5) (Nat.le_of_ble_eq_true rfl)
  rw [lg_entry_eq]
  generalize (lg_sl ([.ref (ad 0), .int p1]) ++ List.replicate (5 - (lg_sl ([.ref (ad 0), .int p1])).length) Slot.unset).toArray = ls at hl ⊢
  exact tX9_waterIn_b0 K E u p1 _ _ _ hl hP hD0.self va_S.rf h1
-- X9_list
theorem inX9_list_X9 : ∀ w ∈ u_ws RX9 TX9 9, w ∈ wsX9_list := k_lays 3 rfl
theorem lkX9_list_10 : Cond.fieldLink RX9 10 "FerryRamp" "now" "LFerryRamp$State;" ∈ wsX9_list := List.mem_of_getElem? (i := 1) rfl
theorem inX9_list_X8 : ∀ w ∈ u_ws RX8 TX8 13, w ∈ wsX9_list := k_lays 12 rfl
theorem lkX9_list_152 : Cond.fieldLink RX9 152 "FerryRamp$State" "weights" "[I" ∈ wsX9_list := List.mem_of_getElem? (i := 2) rfl
theorem wF_c13 (cy : Nat → ClassId) (ad : Nat → Nat) (hh : Nat → Nat) (aa : Nat → Nat → Nat) (pa : Nat → Nat) (u : FS) : (wF cy ad hh aa pa u)[13]? = some (((aa 0) 7), .inl (cy 0, 3, .inl (sW (fN u)))) := fl_atj (l := wFl cy ad hh aa pa u) (j := 1) (q := 8) rfl rfl rfl
abbrev rmX9_list : Room := { frames := 0, cells := 0, slots := 0, locals := 0 }
def fX9_list_b0 (u : FS) : Option (Int32) :=
  some ((sW (fN u) 0) - (sW (fN u) 2))
set_option maxHeartbeats 4000000 in
set_option maxRecDepth 100000 in
theorem tX9_list_b0 {p : Program} {l : Launch} {e : Env} {s : State} {m : MethodId} {args : Array Value} {below : List Frame} {meth : Method} {c : Code} {D : va_G} {cy : Nat → ClassId} {A : Nat → Prop} {ad : Nat → Nat} {hh : Nat → Nat} {aa : Nat → Nat → Nat} {pa : Nat → Nat} (K : Int32 → Prop) (E : mE D cy RX9 cX9_list 1 (some .int) wsX9_list A p s m args meth c) (u : FS)
     (H : Heap) (locs : List Loc) (ls : Array Slot) (hl : lv_has ls 1 [(0, .ref (ad 0))]) (hP : va_P D kCl (wF cy ad hh aa pa u) H) (hD : va_D A (wF cy ad hh aa pa u)) (hS : va_S A s.heap H locs) (h1 : Ok (fX9_list_b0 u) K) :
    kW p l e rmX9_list s m args below meth c H locs (va_Qi (fun r (_ : Unit) => K r) (fun _ => kPost D A (wF cy ad hh aa pa u)) A) A 0 ls [] := by
  obtain ⟨hx, hb, hr, hml, hown, hts, hlocks, hK, hA⟩ := id E
  unfold fX9_list_b0 at h1
  refine lv_aload_n hx hb dX9_list_0 rfl (lv_at hl 0 rfl) ?_
  refine k_get (v := .ref (hh 0)) (C := RX9) (T := TX9) (N := 9) hx hb hts inX9_list_X9 hown hK hP 0 (wF_c0 _ _ _ _ _ _) rfl 0 (by decide) lkX9_list_10 (fFs_0 _ _ _ _) dX9_list_1 ?_
  refine k_get (v := .ref ((aa 0) 7)) (C := RX8) (T := TX8) (N := 13) hx hb hts inX9_list_X8 hown hK hP 5 (wF_c5 _ _ _ _ _ _) rfl 7 (by decide) lkX9_list_152 (sFs_7 _ _) dX9_list_4 ?_
  refine lv_iconst (v := 0) hx hb dX9_list_7 rfl ?_
  refine k_iald (k := 0) hx hb hK hP 13 (wF_c13 _ _ _ _ _ _) rfl rfl dX9_list_8 ?_
  refine lv_aload_n hx hb dX9_list_9 rfl (lv_at hl 0 rfl) ?_
  refine k_get (v := .ref (hh 0)) (C := RX9) (T := TX9) (N := 9) hx hb hts inX9_list_X9 hown hK hP 0 (wF_c0 _ _ _ _ _ _) rfl 0 (by decide) lkX9_list_10 (fFs_0 _ _ _ _) dX9_list_10 ?_
  refine k_get (v := .ref ((aa 0) 7)) (C := RX8) (T := TX8) (N := 13) hx hb hts inX9_list_X8 hown hK hP 5 (wF_c5 _ _ _ _ _ _) rfl 7 (by decide) lkX9_list_152 (sFs_7 _ _) dX9_list_13 ?_
  refine lv_iconst (v := 2) hx hb dX9_list_16 rfl ?_
  refine k_iald (k := 2) hx hb hK hP 13 (wF_c13 _ _ _ _ _ _) rfl rfl dX9_list_17 ?_
  refine lv_isub hx hb dX9_list_18 ?_
  exact kret_r hx hb hr hlocks hP hD hS h1 dX9_list_19
def fX9_list (u : FS) : Option (Int32) := fX9_list_b0 u
set_option maxHeartbeats 4000000 in
set_option maxRecDepth 100000 in
theorem cX9_listM (l : Launch) (D : va_G) (cy : Nat → ClassId) (ad : Nat → Nat) (hh : Nat → Nat) (aa : Nat → Nat → Nat) (pa : Nat → Nat) (sz : Nat) (u : FS) : ∀ (K : Int32 → Prop), Ok (fX9_list u) K → Met l yX9_list wsX9_list rmX9_list (va_Pc [.ref (ad 0)] (kPre D cy sz (wF cy ad hh aa pa u))) (va_Qi (fun r (_ : Unit) => K r) (fun _ => kPost D (va_A (wF cy ad hh aa pa u) sz) (wF cy ad hh aa pa u)) (va_A (wF cy ad hh aa pa u) sz)) 0 0 (va_A (wF cy ad hh aa pa u) sz) := by
  intro K h1
  refine Met.ofW (cc := cX9_list) (maxL := 1) (ret := (some .int)) (by decide) rfl ?_
  intro p e s m args below meth c s₁ B hml hv
  obtain ⟨rfl, hsz, hP, hK, hD0⟩ := hv
  subst hsz
  have E : mE D cy RX9 cX9_list 1 (some .int) wsX9_list (va_A (wF cy ad hh aa pa u) s.heap.size) p s m _ meth c := ⟨B.exec, B.bytes, B.returns, hml, findClass_of_methodNamed B.named, atoms_spec (ws := wsX9_list) B.pre, B.notSynchronized, hK, fun q h => Or.inr h⟩
  have hl := lv_entry ([.ref (ad 0)]) (n := 1) (Nat.le_of_ble_eq_true rfl)
  rw [lg_entry_eq]
  generalize (lg_sl ([.ref (ad 0)]) ++ List.replicate (1 - (lg_sl ([.ref (ad 0)])).length) Slot.unset).toArray = ls at hl ⊢
  exact tX9_list_b0 K E u _ _ _ hl hP hD0.self va_S.rf h1
-- X9_startIn
theorem inX9_startIn_X9 : ∀ w ∈ u_ws RX9 TX9 9, w ∈ wsX9_startIn := k_lays 115 rfl
theorem lkX9_startIn_16 : Cond.fieldLink RX9 16 "FerryRamp" "trial" "LFerryRamp$State;" ∈ wsX9_startIn := List.mem_of_getElem? (i := 1) rfl
theorem lkX9_startIn_10 : Cond.fieldLink RX9 10 "FerryRamp" "now" "LFerryRamp$State;" ∈ wsX9_startIn := List.mem_of_getElem? (i := 2) rfl
def wF_r2_1 (cy : Nat → ClassId) (ad : Nat → Nat) (hh : Nat → Nat) (aa : Nat → Nat → Nat) (pa : Nat → Nat) (u : FS) : va_W := (([0, 3, 4, 5, 6, 7, 8, 9, 10, 11, 12, 13, 14] : List Nat).filterMap (fun i => (wFl cy ad hh aa pa u)[i]?)).flatten
theorem wF_sel2_1 (cy : Nat → ClassId) (ad : Nat → Nat) (hh : Nat → Nat) (aa : Nat → Nat → Nat) (pa : Nat → Nat) (u : FS) : (wF cy ad hh aa pa u).Perm (([wS cy (hh 1) (aa 1) (fT u), wS cy (hh 0) (aa 0) (fN u)] : List va_W).flatten ++ wF_r2_1 cy ad hh aa pa u) := k_seln (l := wFl cy ad hh aa pa u) (n := 15) [2, 1] [0, 3, 4, 5, 6, 7, 8, 9, 10, 11, 12, 13, 14] rfl rfl (by decide)
theorem wF_uns2_1_0 (cy : Nat → ClassId) (ad : Nat → Nat) (hh : Nat → Nat) (aa : Nat → Nat → Nat) (pa : Nat → Nat) (u : FS) (x : KS) : (wF cy ad hh aa pa (gT u x)).Perm (([wS cy (hh 1) (aa 1) x, wS cy (hh 0) (aa 0) (fN u)] : List va_W).flatten ++ wF_r2_1 cy ad hh aa pa u) := k_seln (l := wFl cy ad hh aa pa (gT u x)) (n := 15) [2, 1] [0, 3, 4, 5, 6, 7, 8, 9, 10, 11, 12, 13, 14] rfl rfl (by decide)
theorem inX9_startIn_X8 : ∀ w ∈ u_ws RX8 TX8 13, w ∈ wsX9_startIn := k_lays 124 rfl
theorem wF_c16 (cy : Nat → ClassId) (ad : Nat → Nat) (hh : Nat → Nat) (aa : Nat → Nat → Nat) (pa : Nat → Nat) (u : FS) : (wF cy ad hh aa pa u)[16]? = some ((hh 1), .inr (2, sFs (aa 1) (fT u))) := fl_atj (l := wFl cy ad hh aa pa u) (j := 2) (q := 0) rfl rfl rfl
theorem lkX9_startIn_87 : Cond.fieldLink RX9 87 "FerryRamp$State" "counts" "[I" ∈ wsX9_startIn := List.mem_of_getElem? (i := 3) rfl
theorem wF_c17 (cy : Nat → ClassId) (ad : Nat → Nat) (hh : Nat → Nat) (aa : Nat → Nat → Nat) (pa : Nat → Nat) (u : FS) : (wF cy ad hh aa pa u)[17]? = some (((aa 1) 0), .inl (cy 0, 17, .inl (sC (fT u)))) := fl_atj (l := wFl cy ad hh aa pa u) (j := 2) (q := 1) rfl rfl rfl
def wF_r2 (cy : Nat → ClassId) (ad : Nat → Nat) (hh : Nat → Nat) (aa : Nat → Nat → Nat) (pa : Nat → Nat) (u : FS) : va_W := (([0, 1, 3, 4, 5, 6, 7, 8, 9, 10, 11, 12, 13, 14] : List Nat).filterMap (fun i => (wFl cy ad hh aa pa u)[i]?)).flatten
theorem wF_sel2 (cy : Nat → ClassId) (ad : Nat → Nat) (hh : Nat → Nat) (aa : Nat → Nat → Nat) (pa : Nat → Nat) (u : FS) : (wF cy ad hh aa pa u).Perm (wS cy (hh 1) (aa 1) (fT u) ++ wF_r2 cy ad hh aa pa u) := k_sel1 (l := wFl cy ad hh aa pa u) (n := 15) 2 [0, 1, 3, 4, 5, 6, 7, 8, 9, 10, 11, 12, 13, 14] rfl rfl (by decide)
theorem wF_uns2_0 (cy : Nat → ClassId) (ad : Nat → Nat) (hh : Nat → Nat) (aa : Nat → Nat → Nat) (pa : Nat → Nat) (u : FS) (x : KS) : (wF cy ad hh aa pa (gT u x)).Perm (wS cy (hh 1) (aa 1) x ++ wF_r2 cy ad hh aa pa u) := k_sel1 (l := wFl cy ad hh aa pa (gT u x)) (n := 15) 2 [0, 1, 3, 4, 5, 6, 7, 8, 9, 10, 11, 12, 13, 14] rfl rfl (by decide)
abbrev rmX9_startIn : Room := { frames := 5, cells := 0, slots := 0, locals := 121 }
def fX9_startIn_b63 (k13 : Int32 × FS → Option (Int32 × FS)) (x1 : Int32) (u : FS) : Option (Int32 × FS) :=
  k13 (x1 + 1, u)
set_option maxHeartbeats 4000000 in
set_option maxRecDepth 100000 in
theorem tX9_startIn_b63 {p : Program} {l : Launch} {e : Env} {s : State} {m : MethodId} {args : Array Value} {below : List Frame} {meth : Method} {c : Code} {D : va_G} {cy : Nat → ClassId} {A : Nat → Prop} {ad : Nat → Nat} {hh : Nat → Nat} {aa : Nat → Nat → Nat} {pa : Nat → Nat} (K : Int32 × FS → Prop) (E : mE D cy RX9 cX9_startIn 4 (some .int) wsX9_startIn A p s m args meth c)
    (k13 : Int32 × FS → Option (Int32 × FS)) (hk13 : ∀ (x1 : Int32) (u : FS) (H : Heap) (locs : List Loc) (ls : Array Slot), lv_has ls 4 [(0, .ref (ad 0)), (1, .int x1)] → va_P D kCl (wF cy ad hh aa pa u) H → va_D A (wF cy ad hh aa pa u) → va_S A s.heap H locs → Ok (k13 (x1, u)) K → kW p l e rmX9_startIn s m args below meth c H locs (va_Qi (fun r q => K (r, q)) (fun q => kPost D A (wF cy ad hh aa pa q)) A) A 13 ls [])
     (x1 : Int32) (u : FS) (H : Heap) (locs : List Loc) (ls : Array Slot) (hl : lv_has ls 4 [(0, .ref (ad 0)), (1, .int x1)]) (hP : va_P D kCl (wF cy ad hh aa pa u) H) (hD : va_D A (wF cy ad hh aa pa u)) (hS : va_S A s.heap H locs) (h1 : Ok (fX9_startIn_b63 k13 x1 u) K) :
    kW p l e rmX9_startIn s m args below meth c H locs (va_Qi (fun r q => K (r, q)) (fun q => kPost D A (wF cy ad hh aa pa q)) A) A 63 ls [] := by
  obtain ⟨hx, hb, hr, hml, hown, hts, hlocks, hK, hA⟩ := id E
  unfold fX9_startIn_b63 at h1
  refine lv_iinc (v := x1 + 1) (lv' := [(1, .int (x1 + 1)), (0, .ref (ad 0))]) hx hb dX9_startIn_63 hl (k := 1) rfl rfl (by decide) rfl (fun ls hl => ?_)
  refine lv_goto (tgt := 13) hx hb dX9_startIn_66 (by decide) ?_
  exact hk13 (x1 + 1) u H locs ls (lv_sub hl [1, 0] rfl) hP hD hS h1
def fX9_startIn_b13 (k13 : Int32 × FS → Option (Int32 × FS)) (x1 : Int32) (u : FS) : Option (Int32 × FS) :=
  (if 200 < x1 then some ((-1), u) else bnd2 (fX8_passTicks 1 (fT u)) (fun r36 u36 => (if (sC (fT (gT u u36)) 8) = (-1) then fX9_startIn_b63 k13 x1 (gT u u36) else (if (sC (fT (gT u u36)) 8) = (sC (fT u) 8) then fX9_startIn_b63 k13 x1 (gT u u36) else some (x1, gT u u36)))))
set_option maxHeartbeats 4000000 in
set_option maxRecDepth 100000 in
theorem tX9_startIn_b13 {p : Program} {l : Launch} {e : Env} {s : State} {m : MethodId} {args : Array Value} {below : List Frame} {meth : Method} {c : Code} {D : va_G} {cy : Nat → ClassId} {A : Nat → Prop} {ad : Nat → Nat} {hh : Nat → Nat} {aa : Nat → Nat → Nat} {pa : Nat → Nat} (K : Int32 × FS → Prop) (E : mE D cy RX9 cX9_startIn 4 (some .int) wsX9_startIn A p s m args meth c)
    (k13 : Int32 × FS → Option (Int32 × FS)) (hk13 : ∀ (x1 : Int32) (u : FS) (H : Heap) (locs : List Loc) (ls : Array Slot), lv_has ls 4 [(0, .ref (ad 0)), (1, .int x1)] → va_P D kCl (wF cy ad hh aa pa u) H → va_D A (wF cy ad hh aa pa u) → va_S A s.heap H locs → Ok (k13 (x1, u)) K → kW p l e rmX9_startIn s m args below meth c H locs (va_Qi (fun r q => K (r, q)) (fun q => kPost D A (wF cy ad hh aa pa q)) A) A 13 ls [])
     (x1 : Int32) (u : FS) (H : Heap) (locs : List Loc) (ls : Array Slot) (hl : lv_has ls 4 [(0, .ref (ad 0)), (1, .int x1)]) (hP : va_P D kCl (wF cy ad hh aa pa u) H) (hD : va_D A (wF cy ad hh aa pa u)) (hS : va_S A s.heap H locs) (h1 : Ok (fX9_startIn_b13 k13 x1 u) K) :
    kW p l e rmX9_startIn s m args below meth c H locs (va_Qi (fun r q => K (r, q)) (fun q => kPost D A (wF cy ad hh aa pa q)) A) A 13 ls [] := by
  obtain ⟨hx, hb, hr, hml, hown, hts, hlocks, hK, hA⟩ := id E
  unfold fX9_startIn_b13 at h1
  refine lv_iload_n hx hb dX9_startIn_13 rfl (lv_at hl 1 rfl) ?_
  refine lv_sipush (v := 200) hx hb dX9_startIn_14 rfl ?_
  refine lv_icmp_gt (tgt := 69) hx hb dX9_startIn_17 (by decide) (fun c17 => ?_) (fun c17 => ?_)
  · replace h1 := Ok.pos c17 h1
    refine lv_iconst (v := (-1)) hx hb dX9_startIn_69 rfl ?_
    exact kret_i hx hb hr hlocks hP hD hS h1 dX9_startIn_70
  · replace h1 := Ok.neg c17 h1
    refine lv_aload_n hx hb dX9_startIn_20 rfl (lv_at hl 0 rfl) ?_
    refine k_get (v := .ref (hh 1)) (C := RX9) (T := TX9) (N := 9) hx hb hts inX9_startIn_X9 hown hK hP 0 (wF_c0 _ _ _ _ _ _) rfl 1 (by decide) lkX9_startIn_16 (fFs_1 _ _ _ _) dX9_startIn_21 ?_
    refine k_get (v := .ref ((aa 1) 0)) (C := RX8) (T := TX8) (N := 13) hx hb hts inX9_startIn_X8 hown hK hP 16 (wF_c16 _ _ _ _ _ _) rfl 0 (by decide) lkX9_startIn_87 (sFs_0 _ _) dX9_startIn_24 ?_
    refine lv_bipush (v := 8) hx hb dX9_startIn_27 rfl ?_
    refine k_iald (k := 8) hx hb hK hP 17 (wF_c17 _ _ _ _ _ _) rfl rfl dX9_startIn_29 ?_
    refine lv_istore_n (lv' := [(2, .int (sC (fT u) 8)), (0, .ref (ad 0)), (1, .int x1)]) hx hb dX9_startIn_30 rfl hl (by decide) rfl (fun ls hl => ?_)
    refine lv_aload_n hx hb dX9_startIn_31 rfl (lv_at hl 1 rfl) ?_
    refine k_get (v := .ref (hh 1)) (C := RX9) (T := TX9) (N := 9) hx hb hts inX9_startIn_X9 hown hK hP 0 (wF_c0 _ _ _ _ _ _) rfl 1 (by decide) lkX9_startIn_16 (fFs_1 _ _ _ _) dX9_startIn_32 ?_
    refine lv_iconst (v := 1) hx hb dX9_startIn_35 rfl ?_
    refine kc_iV (b := (hh 1)) (As := [.int 1]) (rest := []) h1 ⟨hx, hb, hml, hown, hts⟩ (cX8_passTicksM l D cy (hh 1) (aa 1) H.size (fT u) 1) (cwV 1 hts gX9_startIn_X8_passTicks rfl rfl rfl hdX8_passTicks ⟨Nat.le_of_ble_eq_true rfl, Nat.le_of_ble_eq_true rfl⟩) hK (wF_sel2 _ _ _ _ _ _) hP hD hS hA (q0 := 0) rfl rfl rfl hl.1 rfl (Nat.le_of_ble_eq_true rfl) dX9_startIn_36 ⟨Nat.zero_le _, Nat.zero_le _⟩ (fun r36 u36 H locs h1 hP hD hS => ?_)
    replace hP := kP_perm (wF_uns2_0 cy ad hh aa pa u u36).symm hP
    replace hD := kD_perm (wF_uns2_0 cy ad hh aa pa u u36).symm hD
    refine lv_pop hx hb dX9_startIn_39 rfl ?_
    refine lv_aload_n hx hb dX9_startIn_40 rfl (lv_at hl 1 rfl) ?_
    refine k_get (v := .ref (hh 1)) (C := RX9) (T := TX9) (N := 9) hx hb hts inX9_startIn_X9 hown hK hP 0 (wF_c0 _ _ _ _ _ _) rfl 1 (by decide) lkX9_startIn_16 (fFs_1 _ _ _ _) dX9_startIn_41 ?_
    refine k_get (v := .ref ((aa 1) 0)) (C := RX8) (T := TX8) (N := 13) hx hb hts inX9_startIn_X8 hown hK hP 16 (wF_c16 _ _ _ _ _ _) rfl 0 (by decide) lkX9_startIn_87 (sFs_0 _ _) dX9_startIn_44 ?_
    refine lv_bipush (v := 8) hx hb dX9_startIn_47 rfl ?_
    refine k_iald (k := 8) hx hb hK hP 17 (wF_c17 _ _ _ _ _ _) rfl rfl dX9_startIn_49 ?_
    refine lv_istore_n (lv' := [(3, .int (sC (fT (gT u u36)) 8)), (2, .int (sC (fT u) 8)), (0, .ref (ad 0)), (1, .int x1)]) hx hb dX9_startIn_50 rfl hl (by decide) rfl (fun ls hl => ?_)
    refine lv_iload_n hx hb dX9_startIn_51 rfl (lv_at hl 0 rfl) ?_
    refine lv_iconst (v := (-1)) hx hb dX9_startIn_52 rfl ?_
    refine lv_icmp_eq (tgt := 63) hx hb dX9_startIn_53 (by decide) (fun c53 => ?_) (fun c53 => ?_)
    · replace h1 := Ok.pos c53 h1
      exact tX9_startIn_b63 K E k13 hk13 x1 (gT u u36) H locs ls (lv_sub hl [2, 3] rfl) hP hD hS h1
    · replace h1 := Ok.neg c53 h1
      refine lv_iload_n hx hb dX9_startIn_56 rfl (lv_at hl 0 rfl) ?_
      refine lv_iload_n hx hb dX9_startIn_57 rfl (lv_at hl 1 rfl) ?_
      refine lv_icmp_eq (tgt := 63) hx hb dX9_startIn_58 (by decide) (fun c58 => ?_) (fun c58 => ?_)
      · replace h1 := Ok.pos c58 h1
        exact tX9_startIn_b63 K E k13 hk13 x1 (gT u u36) H locs ls (lv_sub hl [2, 3] rfl) hP hD hS h1
      · replace h1 := Ok.neg c58 h1
        refine lv_iload_n hx hb dX9_startIn_61 rfl (lv_at hl 3 rfl) ?_
        exact kret_i hx hb hr hlocks hP hD hS h1 dX9_startIn_62
theorem tX9_startIn_l13 {p : Program} {l : Launch} {e : Env} {s : State} {m : MethodId} {args : Array Value} {below : List Frame} {meth : Method} {c : Code} {D : va_G} {cy : Nat → ClassId} {A : Nat → Prop} {ad : Nat → Nat} {hh : Nat → Nat} {aa : Nat → Nat → Nat} {pa : Nat → Nat} (K : Int32 × FS → Prop) (E : mE D cy RX9 cX9_startIn 4 (some .int) wsX9_startIn A p s m args meth c) : ∀ (n9 : Nat) (x1 : Int32) (u : FS) (H : Heap) (locs : List Loc) (ls : Array Slot), lv_has ls 4 [(0, .ref (ad 0)), (1, .int x1)] → va_P D kCl (wF cy ad hh aa pa u) H → va_D A (wF cy ad hh aa pa u) → va_S A s.heap H locs → Ok (lop (fun y z => fX9_startIn_b13 y z.1 z.2) n9 (x1, u)) K → kW p l e rmX9_startIn s m args below meth c H locs (va_Qi (fun r q => K (r, q)) (fun q => kPost D A (wF cy ad hh aa pa q)) A) A 13 ls [] := by
  intro n9
  induction n9 with
  | zero =>
    intro x1 u H locs ls hl hP hD hS h1
    exact h1.no
  | succ n9 ih =>
    intro x1 u H locs ls hl hP hD hS h1
    exact tX9_startIn_b13 K E (lop (fun y z => fX9_startIn_b13 y z.1 z.2) n9) (fun x1 u H locs ls hl hP hD hS h1 => ih x1 u H locs ls hl hP hD hS h1) x1 u H locs ls hl hP hD hS h1
def fX9_startIn_b0 (u : FS) : Option (Int32 × FS) :=
  bnd (fX8_copyFrom (fT u) (fN u)) (fun u8 => lop (fun y z => fX9_startIn_b13 y z.1 z.2) LF (1, gT u u8))
set_option maxHeartbeats 4000000 in
set_option maxRecDepth 100000 in
theorem tX9_startIn_b0 {p : Program} {l : Launch} {e : Env} {s : State} {m : MethodId} {args : Array Value} {below : List Frame} {meth : Method} {c : Code} {D : va_G} {cy : Nat → ClassId} {A : Nat → Prop} {ad : Nat → Nat} {hh : Nat → Nat} {aa : Nat → Nat → Nat} {pa : Nat → Nat} (K : Int32 × FS → Prop) (E : mE D cy RX9 cX9_startIn 4 (some .int) wsX9_startIn A p s m args meth c)
     (u : FS) (H : Heap) (locs : List Loc) (ls : Array Slot) (hl : lv_has ls 4 [(0, .ref (ad 0))]) (hP : va_P D kCl (wF cy ad hh aa pa u) H) (hD : va_D A (wF cy ad hh aa pa u)) (hS : va_S A s.heap H locs) (h1 : Ok (fX9_startIn_b0 u) K) :
    kW p l e rmX9_startIn s m args below meth c H locs (va_Qi (fun r q => K (r, q)) (fun q => kPost D A (wF cy ad hh aa pa q)) A) A 0 ls [] := by
  obtain ⟨hx, hb, hr, hml, hown, hts, hlocks, hK, hA⟩ := id E
  unfold fX9_startIn_b0 at h1
  refine lv_aload_n hx hb dX9_startIn_0 rfl (lv_at hl 0 rfl) ?_
  refine k_get (v := .ref (hh 1)) (C := RX9) (T := TX9) (N := 9) hx hb hts inX9_startIn_X9 hown hK hP 0 (wF_c0 _ _ _ _ _ _) rfl 1 (by decide) lkX9_startIn_16 (fFs_1 _ _ _ _) dX9_startIn_1 ?_
  refine lv_aload_n hx hb dX9_startIn_4 rfl (lv_at hl 0 rfl) ?_
  refine k_get (v := .ref (hh 0)) (C := RX9) (T := TX9) (N := 9) hx hb hts inX9_startIn_X9 hown hK hP 0 (wF_c0 _ _ _ _ _ _) rfl 0 (by decide) lkX9_startIn_10 (fFs_0 _ _ _ _) dX9_startIn_5 ?_
  refine kc_vV (b := (hh 1)) (As := [.ref (hh 0)]) (rest := []) h1 ⟨hx, hb, hml, hown, hts⟩ (cX8_copyFromM l D cy (hh 1) (aa 1) (hh 0) (aa 0) H.size (fT u) (fN u)) (cwV 1 hts gX9_startIn_X8_copyFrom rfl rfl rfl hdX8_copyFrom ⟨Nat.le_of_ble_eq_true rfl, Nat.le_of_ble_eq_true rfl⟩) hK (wF_sel2_1 _ _ _ _ _ _) hP hD hS hA (q0 := 0) rfl rfl rfl hl.1 rfl (Nat.le_of_ble_eq_true rfl) dX9_startIn_8 ⟨Nat.zero_le _, Nat.zero_le _⟩ (fun u8 H locs h1 hP hD hS => ?_)
  replace hP := kP_perm (wF_uns2_1_0 cy ad hh aa pa u u8).symm hP
  replace hD := kD_perm (wF_uns2_1_0 cy ad hh aa pa u u8).symm hD
  refine lv_iconst (v := 1) hx hb dX9_startIn_11 rfl ?_
  refine lv_istore_n (lv' := [(1, .int 1), (0, .ref (ad 0))]) hx hb dX9_startIn_12 rfl hl (by decide) rfl (fun ls hl => ?_)
  exact tX9_startIn_l13 K E LF 1 (gT u u8) H locs ls (lv_sub hl [1, 0] rfl) hP hD hS h1
def fX9_startIn (u : FS) : Option (Int32 × FS) := fX9_startIn_b0 u
set_option maxHeartbeats 4000000 in
set_option maxRecDepth 100000 in
theorem cX9_startInM (l : Launch) (D : va_G) (cy : Nat → ClassId) (ad : Nat → Nat) (hh : Nat → Nat) (aa : Nat → Nat → Nat) (pa : Nat → Nat) (sz : Nat) (u : FS) : ∀ (K : Int32 → FS → Prop), Ok (fX9_startIn u) (fun q => K q.1 q.2) → Met l yX9_startIn wsX9_startIn rmX9_startIn (va_Pc [.ref (ad 0)] (kPre D cy sz (wF cy ad hh aa pa u))) (va_Qi K (fun q => kPost D (va_A (wF cy ad hh aa pa u) sz) (wF cy ad hh aa pa q)) (va_A (wF cy ad hh aa pa u) sz)) 0 0 (va_A (wF cy ad hh aa pa u) sz) := by
  intro K h1
  refine Met.ofW (cc := cX9_startIn) (maxL := 4) (ret := (some .int)) (by decide) rfl ?_
  intro p e s m args below meth c s₁ B hml hv
  obtain ⟨rfl, hsz, hP, hK, hD0⟩ := hv
  subst hsz
  have E : mE D cy RX9 cX9_startIn 4 (some .int) wsX9_startIn (va_A (wF cy ad hh aa pa u) s.heap.size) p s m _ meth c := ⟨B.exec, B.bytes, B.returns, hml, findClass_of_methodNamed B.named, atoms_spec (ws := wsX9_startIn) B.pre, B.notSynchronized, hK, fun q h => Or.inr h⟩
  have hl := lv_entry ([.ref (ad 0)]) (n := 4) (Nat.le_of_ble_eq_true rfl)
  rw [lg_entry_eq]
  generalize (lg_sl ([.ref (ad 0)]) ++ List.replicate (4 - (lg_sl ([.ref (ad 0)])).length) Slot.unset).toArray = ls at hl ⊢
  exact tX9_startIn_b0 (fun q => K q.1 q.2) E u _ _ _ hl hP hD0.self va_S.rf h1
-- X9_wakesIn
theorem inX9_wakesIn_X9 : ∀ w ∈ u_ws RX9 TX9 9, w ∈ wsX9_wakesIn := k_lays 115 rfl
theorem lkX9_wakesIn_16 : Cond.fieldLink RX9 16 "FerryRamp" "trial" "LFerryRamp$State;" ∈ wsX9_wakesIn := List.mem_of_getElem? (i := 1) rfl
theorem lkX9_wakesIn_10 : Cond.fieldLink RX9 10 "FerryRamp" "now" "LFerryRamp$State;" ∈ wsX9_wakesIn := List.mem_of_getElem? (i := 2) rfl
theorem inX9_wakesIn_X8 : ∀ w ∈ u_ws RX8 TX8 13, w ∈ wsX9_wakesIn := k_lays 124 rfl
theorem lkX9_wakesIn_87 : Cond.fieldLink RX9 87 "FerryRamp$State" "counts" "[I" ∈ wsX9_wakesIn := List.mem_of_getElem? (i := 3) rfl
abbrev rmX9_wakesIn : Room := { frames := 5, cells := 0, slots := 0, locals := 121 }
def fX9_wakesIn_b13 (k13 : Int32 × FS → Option (Int32 × FS)) (x1 : Int32) (u : FS) : Option (Int32 × FS) :=
  (if 200 < x1 then some ((-1), u) else (if (sC (fT u) 5) = 0 then bnd2 (fX8_passTicks 1 (fT u)) (fun r39 u39 => k13 (x1 + 1, gT u u39)) else some (x1, u)))
set_option maxHeartbeats 4000000 in
set_option maxRecDepth 100000 in
theorem tX9_wakesIn_b13 {p : Program} {l : Launch} {e : Env} {s : State} {m : MethodId} {args : Array Value} {below : List Frame} {meth : Method} {c : Code} {D : va_G} {cy : Nat → ClassId} {A : Nat → Prop} {ad : Nat → Nat} {hh : Nat → Nat} {aa : Nat → Nat → Nat} {pa : Nat → Nat} (K : Int32 × FS → Prop) (E : mE D cy RX9 cX9_wakesIn 2 (some .int) wsX9_wakesIn A p s m args meth c)
    (k13 : Int32 × FS → Option (Int32 × FS)) (hk13 : ∀ (x1 : Int32) (u : FS) (H : Heap) (locs : List Loc) (ls : Array Slot), lv_has ls 2 [(0, .ref (ad 0)), (1, .int x1)] → va_P D kCl (wF cy ad hh aa pa u) H → va_D A (wF cy ad hh aa pa u) → va_S A s.heap H locs → Ok (k13 (x1, u)) K → kW p l e rmX9_wakesIn s m args below meth c H locs (va_Qi (fun r q => K (r, q)) (fun q => kPost D A (wF cy ad hh aa pa q)) A) A 13 ls [])
     (x1 : Int32) (u : FS) (H : Heap) (locs : List Loc) (ls : Array Slot) (hl : lv_has ls 2 [(0, .ref (ad 0)), (1, .int x1)]) (hP : va_P D kCl (wF cy ad hh aa pa u) H) (hD : va_D A (wF cy ad hh aa pa u)) (hS : va_S A s.heap H locs) (h1 : Ok (fX9_wakesIn_b13 k13 x1 u) K) :
    kW p l e rmX9_wakesIn s m args below meth c H locs (va_Qi (fun r q => K (r, q)) (fun q => kPost D A (wF cy ad hh aa pa q)) A) A 13 ls [] := by
  obtain ⟨hx, hb, hr, hml, hown, hts, hlocks, hK, hA⟩ := id E
  unfold fX9_wakesIn_b13 at h1
  refine lv_iload_n hx hb dX9_wakesIn_13 rfl (lv_at hl 1 rfl) ?_
  refine lv_sipush (v := 200) hx hb dX9_wakesIn_14 rfl ?_
  refine lv_icmp_gt (tgt := 49) hx hb dX9_wakesIn_17 (by decide) (fun c17 => ?_) (fun c17 => ?_)
  · replace h1 := Ok.pos c17 h1
    refine lv_iconst (v := (-1)) hx hb dX9_wakesIn_49 rfl ?_
    exact kret_i hx hb hr hlocks hP hD hS h1 dX9_wakesIn_50
  · replace h1 := Ok.neg c17 h1
    refine lv_aload_n hx hb dX9_wakesIn_20 rfl (lv_at hl 0 rfl) ?_
    refine k_get (v := .ref (hh 1)) (C := RX9) (T := TX9) (N := 9) hx hb hts inX9_wakesIn_X9 hown hK hP 0 (wF_c0 _ _ _ _ _ _) rfl 1 (by decide) lkX9_wakesIn_16 (fFs_1 _ _ _ _) dX9_wakesIn_21 ?_
    refine k_get (v := .ref ((aa 1) 0)) (C := RX8) (T := TX8) (N := 13) hx hb hts inX9_wakesIn_X8 hown hK hP 16 (wF_c16 _ _ _ _ _ _) rfl 0 (by decide) lkX9_wakesIn_87 (sFs_0 _ _) dX9_wakesIn_24 ?_
    refine lv_iconst (v := 5) hx hb dX9_wakesIn_27 rfl ?_
    refine k_iald (k := 5) hx hb hK hP 17 (wF_c17 _ _ _ _ _ _) rfl rfl dX9_wakesIn_28 ?_
    refine lv_if_eq (tgt := 34) hx hb dX9_wakesIn_29 (by decide) (fun c29 => ?_) (fun c29 => ?_)
    · replace h1 := Ok.pos c29 h1
      refine lv_aload_n hx hb dX9_wakesIn_34 rfl (lv_at hl 0 rfl) ?_
      refine k_get (v := .ref (hh 1)) (C := RX9) (T := TX9) (N := 9) hx hb hts inX9_wakesIn_X9 hown hK hP 0 (wF_c0 _ _ _ _ _ _) rfl 1 (by decide) lkX9_wakesIn_16 (fFs_1 _ _ _ _) dX9_wakesIn_35 ?_
      refine lv_iconst (v := 1) hx hb dX9_wakesIn_38 rfl ?_
      refine kc_iV (b := (hh 1)) (As := [.int 1]) (rest := []) h1 ⟨hx, hb, hml, hown, hts⟩ (cX8_passTicksM l D cy (hh 1) (aa 1) H.size (fT u) 1) (cwV 1 hts gX9_wakesIn_X8_passTicks rfl rfl rfl hdX8_passTicks ⟨Nat.le_of_ble_eq_true rfl, Nat.le_of_ble_eq_true rfl⟩) hK (wF_sel2 _ _ _ _ _ _) hP hD hS hA (q0 := 0) rfl rfl rfl hl.1 rfl (Nat.le_of_ble_eq_true rfl) dX9_wakesIn_39 ⟨Nat.zero_le _, Nat.zero_le _⟩ (fun r39 u39 H locs h1 hP hD hS => ?_)
      replace hP := kP_perm (wF_uns2_0 cy ad hh aa pa u u39).symm hP
      replace hD := kD_perm (wF_uns2_0 cy ad hh aa pa u u39).symm hD
      refine lv_pop hx hb dX9_wakesIn_42 rfl ?_
      refine lv_iinc (v := x1 + 1) (lv' := [(1, .int (x1 + 1)), (0, .ref (ad 0))]) hx hb dX9_wakesIn_43 hl (k := 1) rfl rfl (by decide) rfl (fun ls hl => ?_)
      refine lv_goto (tgt := 13) hx hb dX9_wakesIn_46 (by decide) ?_
      exact hk13 (x1 + 1) (gT u u39) H locs ls (lv_sub hl [1, 0] rfl) hP hD hS h1
    · replace h1 := Ok.neg c29 h1
      refine lv_iload_n hx hb dX9_wakesIn_32 rfl (lv_at hl 1 rfl) ?_
      exact kret_i hx hb hr hlocks hP hD hS h1 dX9_wakesIn_33
theorem tX9_wakesIn_l13 {p : Program} {l : Launch} {e : Env} {s : State} {m : MethodId} {args : Array Value} {below : List Frame} {meth : Method} {c : Code} {D : va_G} {cy : Nat → ClassId} {A : Nat → Prop} {ad : Nat → Nat} {hh : Nat → Nat} {aa : Nat → Nat → Nat} {pa : Nat → Nat} (K : Int32 × FS → Prop) (E : mE D cy RX9 cX9_wakesIn 2 (some .int) wsX9_wakesIn A p s m args meth c) : ∀ (n9 : Nat) (x1 : Int32) (u : FS) (H : Heap) (locs : List Loc) (ls : Array Slot), lv_has ls 2 [(0, .ref (ad 0)), (1, .int x1)] → va_P D kCl (wF cy ad hh aa pa u) H → va_D A (wF cy ad hh aa pa u) → va_S A s.heap H locs → Ok (lop (fun y z => fX9_wakesIn_b13 y z.1 z.2) n9 (x1, u)) K → kW p l e rmX9_wakesIn s m args below meth c H locs (va_Qi (fun r q => K (r, q)) (fun q => kPost D A (wF cy ad hh aa pa q)) A) A 13 ls [] := by
  intro n9
  induction n9 with
  | zero =>
    intro x1 u H locs ls hl hP hD hS h1
    exact h1.no
  | succ n9 ih =>
    intro x1 u H locs ls hl hP hD hS h1
    exact tX9_wakesIn_b13 K E (lop (fun y z => fX9_wakesIn_b13 y z.1 z.2) n9) (fun x1 u H locs ls hl hP hD hS h1 => ih x1 u H locs ls hl hP hD hS h1) x1 u H locs ls hl hP hD hS h1
def fX9_wakesIn_b0 (u : FS) : Option (Int32 × FS) :=
  bnd (fX8_copyFrom (fT u) (fN u)) (fun u8 => lop (fun y z => fX9_wakesIn_b13 y z.1 z.2) LF (0, gT u u8))
set_option maxHeartbeats 4000000 in
set_option maxRecDepth 100000 in
theorem tX9_wakesIn_b0 {p : Program} {l : Launch} {e : Env} {s : State} {m : MethodId} {args : Array Value} {below : List Frame} {meth : Method} {c : Code} {D : va_G} {cy : Nat → ClassId} {A : Nat → Prop} {ad : Nat → Nat} {hh : Nat → Nat} {aa : Nat → Nat → Nat} {pa : Nat → Nat} (K : Int32 × FS → Prop) (E : mE D cy RX9 cX9_wakesIn 2 (some .int) wsX9_wakesIn A p s m args meth c)
     (u : FS) (H : Heap) (locs : List Loc) (ls : Array Slot) (hl : lv_has ls 2 [(0, .ref (ad 0))]) (hP : va_P D kCl (wF cy ad hh aa pa u) H) (hD : va_D A (wF cy ad hh aa pa u)) (hS : va_S A s.heap H locs) (h1 : Ok (fX9_wakesIn_b0 u) K) :
    kW p l e rmX9_wakesIn s m args below meth c H locs (va_Qi (fun r q => K (r, q)) (fun q => kPost D A (wF cy ad hh aa pa q)) A) A 0 ls [] := by
  obtain ⟨hx, hb, hr, hml, hown, hts, hlocks, hK, hA⟩ := id E
  unfold fX9_wakesIn_b0 at h1
  refine lv_aload_n hx hb dX9_wakesIn_0 rfl (lv_at hl 0 rfl) ?_
  refine k_get (v := .ref (hh 1)) (C := RX9) (T := TX9) (N := 9) hx hb hts inX9_wakesIn_X9 hown hK hP 0 (wF_c0 _ _ _ _ _ _) rfl 1 (by decide) lkX9_wakesIn_16 (fFs_1 _ _ _ _) dX9_wakesIn_1 ?_
  refine lv_aload_n hx hb dX9_wakesIn_4 rfl (lv_at hl 0 rfl) ?_
  refine k_get (v := .ref (hh 0)) (C := RX9) (T := TX9) (N := 9) hx hb hts inX9_wakesIn_X9 hown hK hP 0 (wF_c0 _ _ _ _ _ _) rfl 0 (by decide) lkX9_wakesIn_10 (fFs_0 _ _ _ _) dX9_wakesIn_5 ?_
  refine kc_vV (b := (hh 1)) (As := [.ref (hh 0)]) (rest := []) h1 ⟨hx, hb, hml, hown, hts⟩ (cX8_copyFromM l D cy (hh 1) (aa 1) (hh 0) (aa 0) H.size (fT u) (fN u)) (cwV 1 hts gX9_wakesIn_X8_copyFrom rfl rfl rfl hdX8_copyFrom ⟨Nat.le_of_ble_eq_true rfl, Nat.le_of_ble_eq_true rfl⟩) hK (wF_sel2_1 _ _ _ _ _ _) hP hD hS hA (q0 := 0) rfl rfl rfl hl.1 rfl (Nat.le_of_ble_eq_true rfl) dX9_wakesIn_8 ⟨Nat.zero_le _, Nat.zero_le _⟩ (fun u8 H locs h1 hP hD hS => ?_)
  replace hP := kP_perm (wF_uns2_1_0 cy ad hh aa pa u u8).symm hP
  replace hD := kD_perm (wF_uns2_1_0 cy ad hh aa pa u u8).symm hD
  refine lv_iconst (v := 0) hx hb dX9_wakesIn_11 rfl ?_
  refine lv_istore_n (lv' := [(1, .int 0), (0, .ref (ad 0))]) hx hb dX9_wakesIn_12 rfl hl (by decide) rfl (fun ls hl => ?_)
  exact tX9_wakesIn_l13 K E LF 0 (gT u u8) H locs ls (lv_sub hl [1, 0] rfl) hP hD hS h1
def fX9_wakesIn (u : FS) : Option (Int32 × FS) := fX9_wakesIn_b0 u
set_option maxHeartbeats 4000000 in
set_option maxRecDepth 100000 in
theorem cX9_wakesInM (l : Launch) (D : va_G) (cy : Nat → ClassId) (ad : Nat → Nat) (hh : Nat → Nat) (aa : Nat → Nat → Nat) (pa : Nat → Nat) (sz : Nat) (u : FS) : ∀ (K : Int32 → FS → Prop), Ok (fX9_wakesIn u) (fun q => K q.1 q.2) → Met l yX9_wakesIn wsX9_wakesIn rmX9_wakesIn (va_Pc [.ref (ad 0)] (kPre D cy sz (wF cy ad hh aa pa u))) (va_Qi K (fun q => kPost D (va_A (wF cy ad hh aa pa u) sz) (wF cy ad hh aa pa q)) (va_A (wF cy ad hh aa pa u) sz)) 0 0 (va_A (wF cy ad hh aa pa u) sz) := by
  intro K h1
  refine Met.ofW (cc := cX9_wakesIn) (maxL := 2) (ret := (some .int)) (by decide) rfl ?_
  intro p e s m args below meth c s₁ B hml hv
  obtain ⟨rfl, hsz, hP, hK, hD0⟩ := hv
  subst hsz
  have E : mE D cy RX9 cX9_wakesIn 2 (some .int) wsX9_wakesIn (va_A (wF cy ad hh aa pa u) s.heap.size) p s m _ meth c := ⟨B.exec, B.bytes, B.returns, hml, findClass_of_methodNamed B.named, atoms_spec (ws := wsX9_wakesIn) B.pre, B.notSynchronized, hK, fun q h => Or.inr h⟩
  have hl := lv_entry ([.ref (ad 0)]) (n := 2) (Nat.le_of_ble_eq_true rfl)
  rw [lg_entry_eq]
  generalize (lg_sl ([.ref (ad 0)]) ++ List.replicate (2 - (lg_sl ([.ref (ad 0)])).length) Slot.unset).toArray = ls at hl ⊢
  exact tX9_wakesIn_b0 (fun q => K q.1 q.2) E u _ _ _ hl hP hD0.self va_S.rf h1
-- X9_queued
theorem inX9_queued_X9 : ∀ w ∈ u_ws RX9 TX9 9, w ∈ wsX9_queued := k_lays 8 rfl
theorem lkX9_queued_10 : Cond.fieldLink RX9 10 "FerryRamp" "now" "LFerryRamp$State;" ∈ wsX9_queued := List.mem_of_getElem? (i := 1) rfl
theorem inX9_queued_X8 : ∀ w ∈ u_ws RX8 TX8 13, w ∈ wsX9_queued := k_lays 17 rfl
theorem lkX9_queued_87 : Cond.fieldLink RX9 87 "FerryRamp$State" "counts" "[I" ∈ wsX9_queued := List.mem_of_getElem? (i := 2) rfl
theorem lkX9_queued_137 : Cond.fieldLink RX9 137 "FerryRamp$State" "queue" "[I" ∈ wsX9_queued := List.mem_of_getElem? (i := 3) rfl
theorem wF_c10 (cy : Nat → ClassId) (ad : Nat → Nat) (hh : Nat → Nat) (aa : Nat → Nat → Nat) (pa : Nat → Nat) (u : FS) : (wF cy ad hh aa pa u)[10]? = some (((aa 0) 4), .inl (cy 0, 20, .inl (sQ (fN u)))) := fl_atj (l := wFl cy ad hh aa pa u) (j := 1) (q := 5) rfl rfl rfl
abbrev rmX9_queued : Room := { frames := 1, cells := 0, slots := 0, locals := 21 }
def fX9_queued_b0 (x1 : Int32) (u : FS) : Option (Int32) :=
  (if x1 < 0 then some (-1) else (if (sC (fN u) 1) ≤ x1 then some (-1) else bnd (fX9_at x1 20 (sQ (fN u))) (fun r25 => some r25)))
set_option maxHeartbeats 4000000 in
set_option maxRecDepth 100000 in
theorem tX9_queued_b0 {p : Program} {l : Launch} {e : Env} {s : State} {m : MethodId} {args : Array Value} {below : List Frame} {meth : Method} {c : Code} {D : va_G} {cy : Nat → ClassId} {A : Nat → Prop} {ad : Nat → Nat} {hh : Nat → Nat} {aa : Nat → Nat → Nat} {pa : Nat → Nat} (K : Int32 → Prop) (E : mE D cy RX9 cX9_queued 2 (some .int) wsX9_queued A p s m args meth c) (u : FS)
     (x1 : Int32) (H : Heap) (locs : List Loc) (ls : Array Slot) (hl : lv_has ls 2 [(0, .ref (ad 0)), (1, .int x1)]) (hP : va_P D kCl (wF cy ad hh aa pa u) H) (hD : va_D A (wF cy ad hh aa pa u)) (hS : va_S A s.heap H locs) (h1 : Ok (fX9_queued_b0 x1 u) K) :
    kW p l e rmX9_queued s m args below meth c H locs (va_Qi (fun r (_ : Unit) => K r) (fun _ => kPost D A (wF cy ad hh aa pa u)) A) A 0 ls [] := by
  obtain ⟨hx, hb, hr, hml, hown, hts, hlocks, hK, hA⟩ := id E
  unfold fX9_queued_b0 at h1
  refine lv_iload_n hx hb dX9_queued_0 rfl (lv_at hl 1 rfl) ?_
  refine lv_if_lt (tgt := 31) hx hb dX9_queued_1 (by decide) (fun c1 => ?_) (fun c1 => ?_)
  · replace h1 := Ok.pos c1 h1
    refine lv_iconst (v := (-1)) hx hb dX9_queued_31 rfl ?_
    exact kret_r hx hb hr hlocks hP hD hS h1 dX9_queued_32
  · replace h1 := Ok.neg c1 h1
    refine lv_iload_n hx hb dX9_queued_4 rfl (lv_at hl 1 rfl) ?_
    refine lv_aload_n hx hb dX9_queued_5 rfl (lv_at hl 0 rfl) ?_
    refine k_get (v := .ref (hh 0)) (C := RX9) (T := TX9) (N := 9) hx hb hts inX9_queued_X9 hown hK hP 0 (wF_c0 _ _ _ _ _ _) rfl 0 (by decide) lkX9_queued_10 (fFs_0 _ _ _ _) dX9_queued_6 ?_
    refine k_get (v := .ref ((aa 0) 0)) (C := RX8) (T := TX8) (N := 13) hx hb hts inX9_queued_X8 hown hK hP 5 (wF_c5 _ _ _ _ _ _) rfl 0 (by decide) lkX9_queued_87 (sFs_0 _ _) dX9_queued_9 ?_
    refine lv_iconst (v := 1) hx hb dX9_queued_12 rfl ?_
    refine k_iald (k := 1) hx hb hK hP 6 (wF_c6 _ _ _ _ _ _) rfl rfl dX9_queued_13 ?_
    refine lv_icmp_ge (tgt := 31) hx hb dX9_queued_14 (by decide) (fun c14 => ?_) (fun c14 => ?_)
    · replace h1 := Ok.pos c14 h1
      refine lv_iconst (v := (-1)) hx hb dX9_queued_31 rfl ?_
      exact kret_r hx hb hr hlocks hP hD hS h1 dX9_queued_32
    · replace h1 := Ok.neg c14 h1
      refine lv_aload_n hx hb dX9_queued_17 rfl (lv_at hl 0 rfl) ?_
      refine k_get (v := .ref (hh 0)) (C := RX9) (T := TX9) (N := 9) hx hb hts inX9_queued_X9 hown hK hP 0 (wF_c0 _ _ _ _ _ _) rfl 0 (by decide) lkX9_queued_10 (fFs_0 _ _ _ _) dX9_queued_18 ?_
      refine k_get (v := .ref ((aa 0) 4)) (C := RX8) (T := TX8) (N := 13) hx hb hts inX9_queued_X8 hown hK hP 5 (wF_c5 _ _ _ _ _ _) rfl 4 (by decide) lkX9_queued_137 (sFs_4 _ _) dX9_queued_21 ?_
      refine lv_iload_n hx hb dX9_queued_24 rfl (lv_at hl 1 rfl) ?_
      refine kc_rS (As := [.ref ((aa 0) 4), .int x1]) (rest := []) h1 ⟨hx, hb, hml, hown, hts⟩ (cX9_atM l D cy ((aa 0) 4) H.size 20 (sQ (fN u)) x1) (va_cwS 2 hts gX9_queued_X9_at rfl rfl rfl heX9_at ⟨Nat.le_of_ble_eq_true rfl, Nat.le_of_ble_eq_true rfl⟩) hK (k_pick (k := 10) (wF_c10 _ _ _ _ _ _)) hP hD hS hA rfl hl.1 rfl (Nat.le_of_ble_eq_true rfl) dX9_queued_25 ⟨Nat.zero_le _, Nat.zero_le _⟩ (fun r25 H locs h1 hP hS => ?_)
      refine lv_goto (tgt := 32) hx hb dX9_queued_28 (by decide) ?_
      exact kret_r hx hb hr hlocks hP hD hS h1 dX9_queued_32
def fX9_queued (p1 : Int32) (u : FS) : Option (Int32) := fX9_queued_b0 p1 u
set_option maxHeartbeats 4000000 in
set_option maxRecDepth 100000 in
theorem cX9_queuedM (l : Launch) (D : va_G) (cy : Nat → ClassId) (ad : Nat → Nat) (hh : Nat → Nat) (aa : Nat → Nat → Nat) (pa : Nat → Nat) (sz : Nat) (u : FS) (p1 : Int32) : ∀ (K : Int32 → Prop), Ok (fX9_queued p1 u) K → Met l yX9_queued wsX9_queued rmX9_queued (va_Pc [.ref (ad 0), .int p1] (kPre D cy sz (wF cy ad hh aa pa u))) (va_Qi (fun r (_ : Unit) => K r) (fun _ => kPost D (va_A (wF cy ad hh aa pa u) sz) (wF cy ad hh aa pa u)) (va_A (wF cy ad hh aa pa u) sz)) 0 0 (va_A (wF cy ad hh aa pa u) sz) := by
  intro K h1
  refine Met.ofW (cc := cX9_queued) (maxL := 2) (ret := (some .int)) (by decide) rfl ?_
  intro p e s m args below meth c s₁ B hml hv
  obtain ⟨rfl, hsz, hP, hK, hD0⟩ := hv
  subst hsz
  have E : mE D cy RX9 cX9_queued 2 (some .int) wsX9_queued (va_A (wF cy ad hh aa pa u) s.heap.size) p s m _ meth c := ⟨B.exec, B.bytes, B.returns, hml, findClass_of_methodNamed B.named, atoms_spec (ws := wsX9_queued) B.pre, B.notSynchronized, hK, fun q h => Or.inr h⟩
  have hl := lv_entry ([.ref (ad 0), .int p1]) (n := 2) (Nat.le_of_ble_eq_true rfl)
  rw [lg_entry_eq]
  generalize (lg_sl ([.ref (ad 0), .int p1]) ++ List.replicate (2 - (lg_sl ([.ref (ad 0), .int p1])).length) Slot.unset).toArray = ls at hl ⊢
  exact tX9_queued_b0 K E u p1 _ _ _ hl hP hD0.self va_S.rf h1
-- X9_load
theorem inX9_load_X9 : ∀ w ∈ u_ws RX9 TX9 9, w ∈ wsX9_load := k_lays 211 rfl
theorem lkX9_load_37 : Cond.fieldLink RX9 37 "FerryRamp" "parser" "LFerryRamp$Parser;" ∈ wsX9_load := List.mem_of_getElem? (i := 1) rfl
theorem lkX9_load_16 : Cond.fieldLink RX9 16 "FerryRamp" "trial" "LFerryRamp$State;" ∈ wsX9_load := List.mem_of_getElem? (i := 2) rfl
theorem hdX6_readSetup : yX6_readSetup.cls = RX6 ∧ yX6_readSetup.cls ≠ "java/lang/invoke/MethodHandle" ∧ yX6_readSetup.cls ≠ "java/lang/invoke/VarHandle" ∧ (parseMethodDescriptor yX6_readSetup.desc).map (fun d => d.parameters.length) = some 1 := by decide +kernel
def wF_r12_2 (cy : Nat → ClassId) (ad : Nat → Nat) (hh : Nat → Nat) (aa : Nat → Nat → Nat) (pa : Nat → Nat) (u : FS) : va_W := (([0, 1, 3, 4, 5, 6, 7, 8, 9, 10, 11, 13, 14] : List Nat).filterMap (fun i => (wFl cy ad hh aa pa u)[i]?)).flatten
theorem wF_sel12_2 (cy : Nat → ClassId) (ad : Nat → Nat) (hh : Nat → Nat) (aa : Nat → Nat → Nat) (pa : Nat → Nat) (u : FS) : (wF cy ad hh aa pa u).Perm (([wP cy pa (fP u), wS cy (hh 1) (aa 1) (fT u)] : List va_W).flatten ++ wF_r12_2 cy ad hh aa pa u) := k_seln (l := wFl cy ad hh aa pa u) (n := 15) [12, 2] [0, 1, 3, 4, 5, 6, 7, 8, 9, 10, 11, 13, 14] rfl rfl (by decide)
theorem wF_uns12_2_01 (cy : Nat → ClassId) (ad : Nat → Nat) (hh : Nat → Nat) (aa : Nat → Nat → Nat) (pa : Nat → Nat) (u : FS) (x : PS × KS) : (wF cy ad hh aa pa (gT (gP u x.1) x.2)).Perm (([wP cy pa x.1, wS cy (hh 1) (aa 1) x.2] : List va_W).flatten ++ wF_r12_2 cy ad hh aa pa u) := k_seln (l := wFl cy ad hh aa pa (gT (gP u x.1) x.2)) (n := 15) [12, 2] [0, 1, 3, 4, 5, 6, 7, 8, 9, 10, 11, 13, 14] rfl rfl (by decide)
theorem wF_c117 (cy : Nat → ClassId) (ad : Nat → Nat) (hh : Nat → Nat) (aa : Nat → Nat → Nat) (pa : Nat → Nat) (u : FS) : (wF cy ad hh aa pa u)[117]? = some ((pa 0), .inr (1, pFs pa (fP u))) := fl_atj (l := wFl cy ad hh aa pa u) (j := 12) (q := 0) rfl rfl rfl
theorem wF_s117_1 (cy : Nat → ClassId) (ad : Nat → Nat) (hh : Nat → Nat) (aa : Nat → Nat → Nat) (pa : Nat → Nat) (u : FS) (x : Int32) : (wF cy ad hh aa pa u).set 117 ((pa 0), .inr (1, (pFs pa (fP u)).set 1 (.int x))) = wF cy ad hh aa pa (gP u (tLe (fP u) x)) := (fl_setj (l := wFl cy ad hh aa pa u) (j := 12) (q := 0) (Bn := wP cy pa (tLe (fP u) x)) rfl rfl (Nat.le_of_ble_eq_true rfl) rfl).trans rfl
theorem inX9_load_X6 : ∀ w ∈ u_ws RX6 TX6 11, w ∈ wsX9_load := k_lays 220 rfl
theorem lkX9_load_58 : Cond.fieldLink RX9 58 "FerryRamp$Parser" "length" "I" ∈ wsX9_load := List.mem_of_getElem? (i := 3) rfl
theorem lkX9_load_10 : Cond.fieldLink RX9 10 "FerryRamp" "now" "LFerryRamp$State;" ∈ wsX9_load := List.mem_of_getElem? (i := 4) rfl
def wF_r1_2 (cy : Nat → ClassId) (ad : Nat → Nat) (hh : Nat → Nat) (aa : Nat → Nat → Nat) (pa : Nat → Nat) (u : FS) : va_W := (([0, 3, 4, 5, 6, 7, 8, 9, 10, 11, 12, 13, 14] : List Nat).filterMap (fun i => (wFl cy ad hh aa pa u)[i]?)).flatten
theorem wF_sel1_2 (cy : Nat → ClassId) (ad : Nat → Nat) (hh : Nat → Nat) (aa : Nat → Nat → Nat) (pa : Nat → Nat) (u : FS) : (wF cy ad hh aa pa u).Perm (([wS cy (hh 0) (aa 0) (fN u), wS cy (hh 1) (aa 1) (fT u)] : List va_W).flatten ++ wF_r1_2 cy ad hh aa pa u) := k_seln (l := wFl cy ad hh aa pa u) (n := 15) [1, 2] [0, 3, 4, 5, 6, 7, 8, 9, 10, 11, 12, 13, 14] rfl rfl (by decide)
theorem wF_uns1_2_0 (cy : Nat → ClassId) (ad : Nat → Nat) (hh : Nat → Nat) (aa : Nat → Nat → Nat) (pa : Nat → Nat) (u : FS) (x : KS) : (wF cy ad hh aa pa (gN u x)).Perm (([wS cy (hh 0) (aa 0) x, wS cy (hh 1) (aa 1) (fT u)] : List va_W).flatten ++ wF_r1_2 cy ad hh aa pa u) := k_seln (l := wFl cy ad hh aa pa (gN u x)) (n := 15) [1, 2] [0, 3, 4, 5, 6, 7, 8, 9, 10, 11, 12, 13, 14] rfl rfl (by decide)
theorem lkX9_load_22 : Cond.fieldLink RX9 22 "FerryRamp" "history" "LFerryRamp$History;" ∈ wsX9_load := List.mem_of_getElem? (i := 5) rfl
theorem hdX4_forget : yX4_forget.cls = RX4 ∧ yX4_forget.cls ≠ "java/lang/invoke/MethodHandle" ∧ yX4_forget.cls ≠ "java/lang/invoke/VarHandle" ∧ (parseMethodDescriptor yX4_forget.desc).map (fun d => d.parameters.length) = some 0 := by decide +kernel
theorem inX9_load_X8 : ∀ w ∈ u_ws RX8 TX8 13, w ∈ wsX9_load := k_lays 231 rfl
theorem lkX9_load_87 : Cond.fieldLink RX9 87 "FerryRamp$State" "counts" "[I" ∈ wsX9_load := List.mem_of_getElem? (i := 6) rfl
abbrev rmX9_load : Room := { frames := 9, cells := 0, slots := 0, locals := 195 }
def fX9_load_b0 (u : FS) : Option (Int32 × FS) :=
  bnd2 (fX6_readSetup (fP u) (fT u)) (fun r8 u8 => (if r8 = 0 then some ((-1), gP (gT (gP u u8.1) u8.2) (tLe (fP (gT (gP u u8.1) u8.2)) 0)) else bnd (fX8_copyFrom (fN (gP (gT (gP u u8.1) u8.2) (tLe (fP (gT (gP u u8.1) u8.2)) 0))) (fT (gP (gT (gP u u8.1) u8.2) (tLe (fP (gT (gP u u8.1) u8.2)) 0)))) (fun u34 => bnd (fX4_forget (fH (gN (gP (gT (gP u u8.1) u8.2) (tLe (fP (gT (gP u u8.1) u8.2)) 0)) u34))) (fun u41 => some (sC (fN (gH (gN (gP (gT (gP u u8.1) u8.2) (tLe (fP (gT (gP u u8.1) u8.2)) 0)) u34) u41)) 1, gH (gN (gP (gT (gP u u8.1) u8.2) (tLe (fP (gT (gP u u8.1) u8.2)) 0)) u34) u41)))))
set_option maxHeartbeats 4000000 in
set_option maxRecDepth 100000 in
theorem tX9_load_b0 {p : Program} {l : Launch} {e : Env} {s : State} {m : MethodId} {args : Array Value} {below : List Frame} {meth : Method} {c : Code} {D : va_G} {cy : Nat → ClassId} {A : Nat → Prop} {ad : Nat → Nat} {hh : Nat → Nat} {aa : Nat → Nat → Nat} {pa : Nat → Nat} {za zv : Nat → Nat} (K : Int32 × FS → Prop) (E : mE D cy RX9 cX9_load 2 (some .int) wsX9_load A p s m args meth c) (hZ : mZ za zv A s s.heap)
     (u : FS) (H : Heap) (locs : List Loc) (ls : Array Slot) (hl : lv_has ls 2 [(0, .ref (ad 0))]) (hP : va_P D kCl (wF cy ad hh aa pa u) H) (hD : va_D A (wF cy ad hh aa pa u)) (hS : va_S A s.heap H locs) (h1 : Ok (fX9_load_b0 u) K) :
    kW p l e rmX9_load s m args below meth c H locs (va_Qi (fun r q => K (r, q)) (fun q => kPost D A (wF cy ad hh aa pa q)) A) A 0 ls [] := by
  obtain ⟨hx, hb, hr, hml, hown, hts, hlocks, hK, hA⟩ := id E
  unfold fX9_load_b0 at h1
  refine lv_aload_n hx hb dX9_load_0 rfl (lv_at hl 0 rfl) ?_
  refine k_get (v := .ref (pa 0)) (C := RX9) (T := TX9) (N := 9) hx hb hts inX9_load_X9 hown hK hP 0 (wF_c0 _ _ _ _ _ _) rfl 5 (by decide) lkX9_load_37 (fFs_5 _ _ _ _) dX9_load_1 ?_
  refine lv_aload_n hx hb dX9_load_4 rfl (lv_at hl 0 rfl) ?_
  refine k_get (v := .ref (hh 1)) (C := RX9) (T := TX9) (N := 9) hx hb hts inX9_load_X9 hown hK hP 0 (wF_c0 _ _ _ _ _ _) rfl 1 (by decide) lkX9_load_16 (fFs_1 _ _ _ _) dX9_load_5 ?_
  refine kz_iV (b := (pa 0)) (As := [.ref (hh 1)]) (rest := []) h1 ⟨hx, hb, hml, hown, hts⟩ (cX6_readSetupM l D cy za zv pa (hh 1) (aa 1) H.size (fP u) (fT u)) (cwV 1 hts gX9_load_X6_readSetup rfl rfl rfl hdX6_readSetup ⟨Nat.le_of_ble_eq_true rfl, Nat.le_of_ble_eq_true rfl⟩) hZ hK (wF_sel12_2 _ _ _ _ _ _) hP hD hS hA (q0 := 0) rfl rfl rfl hl.1 rfl (Nat.le_of_ble_eq_true rfl) dX9_load_8 ⟨Nat.zero_le _, Nat.zero_le _⟩ (fun r8 u8 H locs h1 hP hD hS => ?_)
  replace hP := kP_perm (wF_uns12_2_01 cy ad hh aa pa u u8).symm hP
  replace hD := kD_perm (wF_uns12_2_01 cy ad hh aa pa u u8).symm hD
  refine lv_istore_n (lv' := [(1, .int r8), (0, .ref (ad 0))]) hx hb dX9_load_11 rfl hl (by decide) rfl (fun ls hl => ?_)
  refine lv_aload_n hx hb dX9_load_12 rfl (lv_at hl 1 rfl) ?_
  refine k_get (v := .ref (pa 0)) (C := RX9) (T := TX9) (N := 9) hx hb hts inX9_load_X9 hown hK hP 0 (wF_c0 _ _ _ _ _ _) rfl 5 (by decide) lkX9_load_37 (fFs_5 _ _ _ _) dX9_load_13 ?_
  refine lv_iconst (v := 0) hx hb dX9_load_16 rfl ?_
  refine k_put (v := .int 0) (ty := .int) (C := RX6) (T := TX6) (N := 11) hx hb hts inX9_load_X6 tyX6 tyX6_ok nmX6 hown hK hP hD hS 117 (wF_c117 _ _ _ _ _ _) rfl 1 (by decide) lkX9_load_58 rfl (by decide +kernel) rfl rfl (Nat.le_of_ble_eq_true rfl) (ws' := wF cy ad hh aa pa (gP (gT (gP u u8.1) u8.2) (tLe (fP (gT (gP u u8.1) u8.2)) 0))) (wF_s117_1 _ _ _ _ _ _ _) dX9_load_17 (fun H locs hP hD hS => ?_)
  refine lv_iload_n hx hb dX9_load_20 rfl (lv_at hl 0 rfl) ?_
  refine lv_if_ne (tgt := 26) hx hb dX9_load_21 (by decide) (fun c21 => ?_) (fun c21 => ?_)
  · replace h1 := Ok.neg c21 h1
    refine lv_aload_n hx hb dX9_load_26 rfl (lv_at hl 1 rfl) ?_
    refine k_get (v := .ref (hh 0)) (C := RX9) (T := TX9) (N := 9) hx hb hts inX9_load_X9 hown hK hP 0 (wF_c0 _ _ _ _ _ _) rfl 0 (by decide) lkX9_load_10 (fFs_0 _ _ _ _) dX9_load_27 ?_
    refine lv_aload_n hx hb dX9_load_30 rfl (lv_at hl 1 rfl) ?_
    refine k_get (v := .ref (hh 1)) (C := RX9) (T := TX9) (N := 9) hx hb hts inX9_load_X9 hown hK hP 0 (wF_c0 _ _ _ _ _ _) rfl 1 (by decide) lkX9_load_16 (fFs_1 _ _ _ _) dX9_load_31 ?_
    refine kc_vV (b := (hh 0)) (As := [.ref (hh 1)]) (rest := []) h1 ⟨hx, hb, hml, hown, hts⟩ (cX8_copyFromM l D cy (hh 0) (aa 0) (hh 1) (aa 1) H.size (fN (gP (gT (gP u u8.1) u8.2) (tLe (fP (gT (gP u u8.1) u8.2)) 0))) (fT (gP (gT (gP u u8.1) u8.2) (tLe (fP (gT (gP u u8.1) u8.2)) 0)))) (cwV 1 hts gX9_load_X8_copyFrom rfl rfl rfl hdX8_copyFrom ⟨Nat.le_of_ble_eq_true rfl, Nat.le_of_ble_eq_true rfl⟩) hK (wF_sel1_2 _ _ _ _ _ _) hP hD hS hA (q0 := 0) rfl rfl rfl hl.1 rfl (Nat.le_of_ble_eq_true rfl) dX9_load_34 ⟨Nat.zero_le _, Nat.zero_le _⟩ (fun u34 H locs h1 hP hD hS => ?_)
    replace hP := kP_perm (wF_uns1_2_0 cy ad hh aa pa (gP (gT (gP u u8.1) u8.2) (tLe (fP (gT (gP u u8.1) u8.2)) 0)) u34).symm hP
    replace hD := kD_perm (wF_uns1_2_0 cy ad hh aa pa (gP (gT (gP u u8.1) u8.2) (tLe (fP (gT (gP u u8.1) u8.2)) 0)) u34).symm hD
    refine lv_aload_n hx hb dX9_load_37 rfl (lv_at hl 1 rfl) ?_
    refine k_get (v := .ref (ad 5)) (C := RX9) (T := TX9) (N := 9) hx hb hts inX9_load_X9 hown hK hP 0 (wF_c0 _ _ _ _ _ _) rfl 2 (by decide) lkX9_load_22 (fFs_2 _ _ _ _) dX9_load_38 ?_
    refine kc_vV (b := (ad 5)) (As := []) (rest := []) h1 ⟨hx, hb, hml, hown, hts⟩ (cX4_forgetM l D cy (ad 5) (ad 6) hh aa (hh 0) (aa 0) H.size (fH (gN (gP (gT (gP u u8.1) u8.2) (tLe (fP (gT (gP u u8.1) u8.2)) 0)) u34))) (cwV 0 hts gX9_load_X4_forget rfl rfl rfl hdX4_forget ⟨Nat.le_of_ble_eq_true rfl, Nat.le_of_ble_eq_true rfl⟩) hK (wF_selH _ _ _ _ _ _) hP hD hS hA (q0 := 0) rfl rfl rfl hl.1 rfl (Nat.le_of_ble_eq_true rfl) dX9_load_41 ⟨Nat.zero_le _, Nat.zero_le _⟩ (fun u41 H locs h1 hP hD hS => ?_)
    replace hP := kP_perm (wF_unsH_0 cy ad hh aa pa (gN (gP (gT (gP u u8.1) u8.2) (tLe (fP (gT (gP u u8.1) u8.2)) 0)) u34) u41).symm hP
    replace hD := kD_perm (wF_unsH_0 cy ad hh aa pa (gN (gP (gT (gP u u8.1) u8.2) (tLe (fP (gT (gP u u8.1) u8.2)) 0)) u34) u41).symm hD
    refine lv_aload_n hx hb dX9_load_44 rfl (lv_at hl 1 rfl) ?_
    refine k_get (v := .ref (hh 0)) (C := RX9) (T := TX9) (N := 9) hx hb hts inX9_load_X9 hown hK hP 0 (wF_c0 _ _ _ _ _ _) rfl 0 (by decide) lkX9_load_10 (fFs_0 _ _ _ _) dX9_load_45 ?_
    refine k_get (v := .ref ((aa 0) 0)) (C := RX8) (T := TX8) (N := 13) hx hb hts inX9_load_X8 hown hK hP 5 (wF_c5 _ _ _ _ _ _) rfl 0 (by decide) lkX9_load_87 (sFs_0 _ _) dX9_load_48 ?_
    refine lv_iconst (v := 1) hx hb dX9_load_51 rfl ?_
    refine k_iald (k := 1) hx hb hK hP 6 (wF_c6 _ _ _ _ _ _) rfl rfl dX9_load_52 ?_
    exact kret_i hx hb hr hlocks hP hD hS h1 dX9_load_53
  · replace h1 := Ok.pos c21 h1
    refine lv_iconst (v := (-1)) hx hb dX9_load_24 rfl ?_
    exact kret_i hx hb hr hlocks hP hD hS h1 dX9_load_25
def fX9_load (u : FS) : Option (Int32 × FS) := fX9_load_b0 u
set_option maxHeartbeats 4000000 in
set_option maxRecDepth 100000 in
theorem cX9_loadM (l : Launch) (D : va_G) (cy : Nat → ClassId) (za zv : Nat → Nat) (ad : Nat → Nat) (hh : Nat → Nat) (aa : Nat → Nat → Nat) (pa : Nat → Nat) (sz : Nat) (u : FS) : ∀ (K : Int32 → FS → Prop), Ok (fX9_load u) (fun q => K q.1 q.2) → Met l yX9_load wsX9_load rmX9_load (va_Pc [.ref (ad 0)] (kPreZ D cy za zv sz (wF cy ad hh aa pa u))) (va_Qi K (fun q => kPost D (va_A (wF cy ad hh aa pa u) sz) (wF cy ad hh aa pa q)) (va_A (wF cy ad hh aa pa u) sz)) 0 0 (va_A (wF cy ad hh aa pa u) sz) := by
  intro K h1
  refine Met.ofW (cc := cX9_load) (maxL := 2) (ret := (some .int)) (by decide) rfl ?_
  intro p e s m args below meth c s₁ B hml hv
  obtain ⟨rfl, ⟨hsz, hP, hK, hD0⟩, hZ⟩ := hv
  subst hsz
  have E : mE D cy RX9 cX9_load 2 (some .int) wsX9_load (va_A (wF cy ad hh aa pa u) s.heap.size) p s m _ meth c := ⟨B.exec, B.bytes, B.returns, hml, findClass_of_methodNamed B.named, atoms_spec (ws := wsX9_load) B.pre, B.notSynchronized, hK, fun q h => Or.inr h⟩
  have hl := lv_entry ([.ref (ad 0)]) (n := 2) (Nat.le_of_ble_eq_true rfl)
  rw [lg_entry_eq]
  generalize (lg_sl ([.ref (ad 0)]) ++ List.replicate (2 - (lg_sl ([.ref (ad 0)])).length) Slot.unset).toArray = ls at hl ⊢
  exact tX9_load_b0 (fun q => K q.1 q.2) E hZ u _ _ _ hl hP hD0.self va_S.rf h1
