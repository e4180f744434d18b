-- X9_save
abbrev rmX9_save : Room := { frames := 2, cells := 0, slots := 0, locals := 61 }
def hX9_save_b0 (x1 : Int32) (u : FS) : Option (FS) :=
  (if x1 < 0 then none else (if x1 < 2 then grd (inb x1 2) ((if x1 = 0 then bnd (fX8_copyFrom (fA u) (fN u)) (fun u35 => grd (inb x1 2) (some (gI (gA u u35) (ix x1) 1))) else (if x1 = 1 then bnd (fX8_copyFrom (fB u) (fN u)) (fun u35 => grd (inb x1 2) (some (gI (gB u u35) (ix x1) 1))) else none))) else none))
set_option maxHeartbeats 4000000 in
set_option maxRecDepth 100000 in
theorem tX9_save_b0 {p : Program} {l : Launch} {e : Env} {s : State} {m : MethodId} {args : Array Value} {below : List Frame} {meth : Method} {c : Code} {D : va_G} {cy : Nat → ClassId} {A : Nat → Prop} {ad : Nat → Nat} {hh : Nat → Nat} {aa : Nat → Nat → Nat} {pa : Nat → Nat} (K : FS → Prop) (E : mE D cy RX9 cX9_save 3 none wsX9_save A p s m args meth c)
     (x1 : Int32) (u : FS) (H : Heap) (locs : List Loc) (ls : Array Slot) (hl : lv_has ls 3 [(0, .ref (ad 0)), (1, .int x1)]) (hP : va_P D kCl (wF cy ad hh aa pa u) H) (hD : va_D A (wF cy ad hh aa pa u)) (hS : va_S A s.heap H locs) (h1 : Ok (hX9_save_b0 x1 u) K) :
    kW p l e rmX9_save s m args below meth c H locs (va_Qv K (fun q => kPost D A (wF cy ad hh aa pa q)) A) A 0 ls [] := by
  obtain ⟨hx, hb, hr, hml, hown, hts, hlocks, hK, hA⟩ := id E
  unfold hX9_save_b0 at h1
  refine lv_iload_n hx hb dX9_save_0 rfl (lv_at hl 1 rfl) ?_
  refine lv_if_lt (tgt := 9) hx hb dX9_save_1 (by decide) (fun c1 => ?_) (fun c1 => ?_)
  · replace h1 := Ok.pos c1 h1
    exact h1.no
  · replace h1 := Ok.neg c1 h1
    refine lv_iload_n hx hb dX9_save_4 rfl (lv_at hl 1 rfl) ?_
    refine lv_iconst (v := 2) hx hb dX9_save_5 rfl ?_
    refine lv_icmp_lt (tgt := 19) hx hb dX9_save_6 (by decide) (fun c6 => ?_) (fun c6 => ?_)
    · replace h1 := Ok.pos c6 h1
      refine lv_aload_n hx hb dX9_save_19 rfl (lv_at hl 0 rfl) ?_
      refine k_get (v := .ref (ad 1)) (C := RX9) (T := TX9) (N := 9) hx hb hts inX9_save_X9 hown hK hP 0 (wF_c0 _ _ _ _ _ _) rfl 3 (by decide) lkX9_save_26 (fFs_3 _ _ _ _) dX9_save_20 ?_
      refine lv_iload_n hx hb dX9_save_23 rfl (lv_at hl 1 rfl) ?_
      have g24 := h1.grd1
      replace h1 := h1.grd2
      by_cases c24_0 : x1 = 0
      · replace h1 := Ok.pos c24_0 h1
        refine k_aald (v := .ref (hh 2)) hx hb hK hP 1 (wF_c1 _ _ _ _ _ _) g24 (by rw [c24_0]; rfl) dX9_save_24 ?_
        refine lv_astore_n (lv' := [(2, .ref (hh 2)), (0, .ref (ad 0)), (1, .int x1)]) hx hb dX9_save_25 rfl hl (by decide) rfl (fun ls hl => ?_)
        refine lv_aload_n hx hb dX9_save_26 rfl (lv_at hl 0 rfl) ?_
        refine lv_ifnull hx hb dX9_save_27 ?_
        refine lv_aload_n hx hb dX9_save_30 rfl (lv_at hl 0 rfl) ?_
        refine lv_aload_n hx hb dX9_save_31 rfl (lv_at hl 1 rfl) ?_
        refine k_get (v := .ref (hh 0)) (C := RX9) (T := TX9) (N := 9) hx hb hts inX9_save_X9 hown hK hP 0 (wF_c0 _ _ _ _ _ _) rfl 0 (by decide) lkX9_save_10 (fFs_0 _ _ _ _) dX9_save_32 ?_
        refine kc_vV (b := (hh 2)) (As := [.ref (hh 0)]) (rest := []) h1 ⟨hx, hb, hml, hown, hts⟩ (cX8_copyFromM l D cy (hh 2) (aa 2) (hh 0) (aa 0) H.size (fA u) (fN u)) (cwV 1 hts gX9_save_X8_copyFrom rfl rfl rfl hdX8_copyFrom ⟨Nat.le_of_ble_eq_true rfl, Nat.le_of_ble_eq_true rfl⟩) hK (wF_sel13_1 _ _ _ _ _ _) hP hD hS hA (q0 := 0) rfl rfl rfl hl.1 rfl (Nat.le_of_ble_eq_true rfl) dX9_save_35 ⟨Nat.zero_le _, Nat.zero_le _⟩ (fun u35 H locs h1 hP hD hS => ?_)
        replace hP := kP_perm (wF_uns13_1_0 cy ad hh aa pa u u35).symm hP
        replace hD := kD_perm (wF_uns13_1_0 cy ad hh aa pa u u35).symm hD
        refine lv_aload_n hx hb dX9_save_38 rfl (lv_at hl 1 rfl) ?_
        refine k_get (v := .ref (ad 2)) (C := RX9) (T := TX9) (N := 9) hx hb hts inX9_save_X9 hown hK hP 0 (wF_c0 _ _ _ _ _ _) rfl 4 (by decide) lkX9_save_30 (fFs_4 _ _ _ _) dX9_save_39 ?_
        refine lv_iload_n hx hb dX9_save_42 rfl (lv_at hl 2 rfl) ?_
        refine lv_iconst (v := 1) hx hb dX9_save_43 rfl ?_
        have g44 := h1.grd1
        replace h1 := h1.grd2
        refine k_zast (k := (ix x1)) (ws' := wF cy ad hh aa pa (gI (gA u u35) (ix x1) 1)) hx hb hK hP hD hS 2 (wF_c2 _ _ _ _ _ _) g44 rfl rfl (wF_s2 _ _ _ _ _ _ _ _) dX9_save_44 (fun H locs hP hD hS => ?_)
        exact kret_v hx hb hr hlocks hP hD hS h1 dX9_save_45
      replace h1 := Ok.neg c24_0 h1
      by_cases c24_1 : x1 = 1
      · replace h1 := Ok.pos c24_1 h1
        refine k_aald (v := .ref (hh 3)) hx hb hK hP 1 (wF_c1 _ _ _ _ _ _) g24 (by rw [c24_1]; rfl) dX9_save_24 ?_
        refine lv_astore_n (lv' := [(2, .ref (hh 3)), (0, .ref (ad 0)), (1, .int x1)]) hx hb dX9_save_25 rfl hl (by decide) rfl (fun ls hl => ?_)
        refine lv_aload_n hx hb dX9_save_26 rfl (lv_at hl 0 rfl) ?_
        refine lv_ifnull hx hb dX9_save_27 ?_
        refine lv_aload_n hx hb dX9_save_30 rfl (lv_at hl 0 rfl) ?_
        refine lv_aload_n hx hb dX9_save_31 rfl (lv_at hl 1 rfl) ?_
        refine k_get (v := .ref (hh 0)) (C := RX9) (T := TX9) (N := 9) hx hb hts inX9_save_X9 hown hK hP 0 (wF_c0 _ _ _ _ _ _) rfl 0 (by decide) lkX9_save_10 (fFs_0 _ _ _ _) dX9_save_32 ?_
        refine kc_vV (b := (hh 3)) (As := [.ref (hh 0)]) (rest := []) h1 ⟨hx, hb, hml, hown, hts⟩ (cX8_copyFromM l D cy (hh 3) (aa 3) (hh 0) (aa 0) H.size (fB u) (fN u)) (cwV 1 hts gX9_save_X8_copyFrom rfl rfl rfl hdX8_copyFrom ⟨Nat.le_of_ble_eq_true rfl, Nat.le_of_ble_eq_true rfl⟩) hK (wF_sel14_1 _ _ _ _ _ _) hP hD hS hA (q0 := 0) rfl rfl rfl hl.1 rfl (Nat.le_of_ble_eq_true rfl) dX9_save_35 ⟨Nat.zero_le _, Nat.zero_le _⟩ (fun u35 H locs h1 hP hD hS => ?_)
        replace hP := kP_perm (wF_uns14_1_0 cy ad hh aa pa u u35).symm hP
        replace hD := kD_perm (wF_uns14_1_0 cy ad hh aa pa u u35).symm hD
        refine lv_aload_n hx hb dX9_save_38 rfl (lv_at hl 1 rfl) ?_
        refine k_get (v := .ref (ad 2)) (C := RX9) (T := TX9) (N := 9) hx hb hts inX9_save_X9 hown hK hP 0 (wF_c0 _ _ _ _ _ _) rfl 4 (by decide) lkX9_save_30 (fFs_4 _ _ _ _) dX9_save_39 ?_
        refine lv_iload_n hx hb dX9_save_42 rfl (lv_at hl 2 rfl) ?_
        refine lv_iconst (v := 1) hx hb dX9_save_43 rfl ?_
        have g44 := h1.grd1
        replace h1 := h1.grd2
        refine k_zast (k := (ix x1)) (ws' := wF cy ad hh aa pa (gI (gB u u35) (ix x1) 1)) hx hb hK hP hD hS 2 (wF_c2 _ _ _ _ _ _) g44 rfl rfl (wF_s2 _ _ _ _ _ _ _ _) dX9_save_44 (fun H locs hP hD hS => ?_)
        exact kret_v hx hb hr hlocks hP hD hS h1 dX9_save_45
      replace h1 := Ok.neg c24_1 h1
      exact h1.no
    · replace h1 := Ok.neg c6 h1
      exact h1.no
def hX9_save (p1 : Int32) (u : FS) : Option (FS) := hX9_save_b0 p1 u
set_option maxHeartbeats 4000000 in
set_option maxRecDepth 100000 in
theorem cX9_saveM (l : Launch) (D : va_G) (cy : Nat → ClassId) (ad : Nat → Nat) (hh : Nat → Nat) (aa : Nat → Nat → Nat) (pa : Nat → Nat) (sz : Nat) (u : FS) (p1 : Int32) : ∀ (K : FS → Prop), Ok (hX9_save p1 u) K → Met l yX9_save wsX9_save rmX9_save (va_Pc [.ref (ad 0), .int p1] (kPre D cy sz (wF cy ad hh aa pa u))) (va_Qv K (fun q => kPost D (va_A (wF cy ad hh aa pa u) sz) (wF cy ad hh aa pa q)) (va_A (wF cy ad hh aa pa u) sz)) 0 0 (va_A (wF cy ad hh aa pa u) sz) := by
  intro K h1
  refine Met.ofW (cc := cX9_save) (maxL := 3) (ret := none) (by decide) rfl ?_
  intro p e s m args below meth c s₁ B hml hv
  obtain ⟨rfl, hsz, hP, hK, hD0⟩ := hv
  subst hsz
  have E : mE D cy RX9 cX9_save 3 none wsX9_save (va_A (wF cy ad hh aa pa u) s.heap.size) p s m _ meth c := ⟨B.exec, B.bytes, B.returns, hml, findClass_of_methodNamed B.named, atoms_spec (ws := wsX9_save) B.pre, B.notSynchronized, hK, fun q h => Or.inr h⟩
  have hl := lv_entry ([.ref (ad 0), .int p1]) (n := 3) (Nat.le_of_ble_eq_true rfl)
  rw [lg_entry_eq]
  generalize (lg_sl ([.ref (ad 0), .int p1]) ++ List.replicate (3 - (lg_sl ([.ref (ad 0), .int p1])).length) Slot.unset).toArray = ls at hl ⊢
  exact tX9_save_b0 K E p1 u _ _ _ hl hP hD0.self va_S.rf h1
-- X9_restore
abbrev rmX9_restore : Room := { frames := 2, cells := 0, slots := 0, locals := 61 }
def hX9_restore_b0 (x1 : Int32) (u : FS) : Option (FS) :=
  (if x1 < 0 then none else (if x1 < 2 then grd (inb x1 2) ((if x1 = 0 then grd (inb x1 2) ((if (fI u (ix x1)) = 0 then none else bnd (fX8_copyFrom (fN u) (fA u)) (fun u54 => bnd (fX4_forget (fH (gN u u54))) (fun u61 => some (gH (gN u u54) u61))))) else (if x1 = 1 then grd (inb x1 2) ((if (fI u (ix x1)) = 0 then none else bnd (fX8_copyFrom (fN u) (fB u)) (fun u54 => bnd (fX4_forget (fH (gN u u54))) (fun u61 => some (gH (gN u u54) u61))))) else none))) else none))
set_option maxHeartbeats 4000000 in
set_option maxRecDepth 100000 in
theorem tX9_restore_b0 {p : Program} {l : Launch} {e : Env} {s : State} {m : MethodId} {args : Array Value} {below : List Frame} {meth : Method} {c : Code} {D : va_G} {cy : Nat → ClassId} {A : Nat → Prop} {ad : Nat → Nat} {hh : Nat → Nat} {aa : Nat → Nat → Nat} {pa : Nat → Nat} (K : FS → Prop) (E : mE D cy RX9 cX9_restore 3 none wsX9_restore A p s m args meth c)
     (x1 : Int32) (u : FS) (H : Heap) (locs : List Loc) (ls : Array Slot) (hl : lv_has ls 3 [(0, .ref (ad 0)), (1, .int x1)]) (hP : va_P D kCl (wF cy ad hh aa pa u) H) (hD : va_D A (wF cy ad hh aa pa u)) (hS : va_S A s.heap H locs) (h1 : Ok (hX9_restore_b0 x1 u) K) :
    kW p l e rmX9_restore s m args below meth c H locs (va_Qv K (fun q => kPost D A (wF cy ad hh aa pa q)) A) A 0 ls [] := by
  obtain ⟨hx, hb, hr, hml, hown, hts, hlocks, hK, hA⟩ := id E
  unfold hX9_restore_b0 at h1
  refine lv_iload_n hx hb dX9_restore_0 rfl (lv_at hl 1 rfl) ?_
  refine lv_if_lt (tgt := 9) hx hb dX9_restore_1 (by decide) (fun c1 => ?_) (fun c1 => ?_)
  · replace h1 := Ok.pos c1 h1
    exact h1.no
  · replace h1 := Ok.neg c1 h1
    refine lv_iload_n hx hb dX9_restore_4 rfl (lv_at hl 1 rfl) ?_
    refine lv_iconst (v := 2) hx hb dX9_restore_5 rfl ?_
    refine lv_icmp_lt (tgt := 19) hx hb dX9_restore_6 (by decide) (fun c6 => ?_) (fun c6 => ?_)
    · replace h1 := Ok.pos c6 h1
      refine lv_aload_n hx hb dX9_restore_19 rfl (lv_at hl 0 rfl) ?_
      refine k_get (v := .ref (ad 1)) (C := RX9) (T := TX9) (N := 9) hx hb hts inX9_restore_X9 hown hK hP 0 (wF_c0 _ _ _ _ _ _) rfl 3 (by decide) lkX9_restore_26 (fFs_3 _ _ _ _) dX9_restore_20 ?_
      refine lv_iload_n hx hb dX9_restore_23 rfl (lv_at hl 1 rfl) ?_
      have g24 := h1.grd1
      replace h1 := h1.grd2
      by_cases c24_0 : x1 = 0
      · replace h1 := Ok.pos c24_0 h1
        refine k_aald (v := .ref (hh 2)) hx hb hK hP 1 (wF_c1 _ _ _ _ _ _) g24 (by rw [c24_0]; rfl) dX9_restore_24 ?_
        refine lv_astore_n (lv' := [(2, .ref (hh 2)), (0, .ref (ad 0)), (1, .int x1)]) hx hb dX9_restore_25 rfl hl (by decide) rfl (fun ls hl => ?_)
        refine lv_aload_n hx hb dX9_restore_26 rfl (lv_at hl 1 rfl) ?_
        refine k_get (v := .ref (ad 2)) (C := RX9) (T := TX9) (N := 9) hx hb hts inX9_restore_X9 hown hK hP 0 (wF_c0 _ _ _ _ _ _) rfl 4 (by decide) lkX9_restore_30 (fFs_4 _ _ _ _) dX9_restore_27 ?_
        refine lv_iload_n hx hb dX9_restore_30 rfl (lv_at hl 2 rfl) ?_
        have g31 := h1.grd1
        replace h1 := h1.grd2
        refine k_zald (k := (ix x1)) hx hb hK hP 2 (wF_c2 _ _ _ _ _ _) g31 rfl dX9_restore_31 ?_
        refine lv_if_eq (tgt := 39) hx hb dX9_restore_32 (by decide) (fun c32 => ?_) (fun c32 => ?_)
        · replace h1 := Ok.pos c32 h1
          exact h1.no
        · replace h1 := Ok.neg c32 h1
          refine lv_aload_n hx hb dX9_restore_35 rfl (lv_at hl 0 rfl) ?_
          refine lv_ifnonnull (tgt := 49) hx hb dX9_restore_36 (by decide) ?_
          refine lv_aload_n hx hb dX9_restore_49 rfl (lv_at hl 1 rfl) ?_
          refine k_get (v := .ref (hh 0)) (C := RX9) (T := TX9) (N := 9) hx hb hts inX9_restore_X9 hown hK hP 0 (wF_c0 _ _ _ _ _ _) rfl 0 (by decide) lkX9_restore_10 (fFs_0 _ _ _ _) dX9_restore_50 ?_
          refine lv_aload_n hx hb dX9_restore_53 rfl (lv_at hl 0 rfl) ?_
          refine kc_vV (b := (hh 0)) (As := [.ref (hh 2)]) (rest := []) h1 ⟨hx, hb, hml, hown, hts⟩ (cX8_copyFromM l D cy (hh 0) (aa 0) (hh 2) (aa 2) H.size (fN u) (fA u)) (cwV 1 hts gX9_restore_X8_copyFrom rfl rfl rfl hdX8_copyFrom ⟨Nat.le_of_ble_eq_true rfl, Nat.le_of_ble_eq_true rfl⟩) hK (wF_sel1_13 _ _ _ _ _ _) hP hD hS hA (q0 := 0) rfl rfl rfl hl.1 rfl (Nat.le_of_ble_eq_true rfl) dX9_restore_54 ⟨Nat.zero_le _, Nat.zero_le _⟩ (fun u54 H locs h1 hP hD hS => ?_)
          replace hP := kP_perm (wF_uns1_13_0 cy ad hh aa pa u u54).symm hP
          replace hD := kD_perm (wF_uns1_13_0 cy ad hh aa pa u u54).symm hD
          refine lv_aload_n hx hb dX9_restore_57 rfl (lv_at hl 1 rfl) ?_
          refine k_get (v := .ref (ad 5)) (C := RX9) (T := TX9) (N := 9) hx hb hts inX9_restore_X9 hown hK hP 0 (wF_c0 _ _ _ _ _ _) rfl 2 (by decide) lkX9_restore_22 (fFs_2 _ _ _ _) dX9_restore_58 ?_
          refine kc_vV (b := (ad 5)) (As := []) (rest := []) h1 ⟨hx, hb, hml, hown, hts⟩ (cX4_forgetM l D cy (ad 5) (ad 6) hh aa (hh 0) (aa 0) H.size (fH (gN u u54))) (cwV 0 hts gX9_restore_X4_forget rfl rfl rfl hdX4_forget ⟨Nat.le_of_ble_eq_true rfl, Nat.le_of_ble_eq_true rfl⟩) hK (wF_selH _ _ _ _ _ _) hP hD hS hA (q0 := 0) rfl rfl rfl hl.1 rfl (Nat.le_of_ble_eq_true rfl) dX9_restore_61 ⟨Nat.zero_le _, Nat.zero_le _⟩ (fun u61 H locs h1 hP hD hS => ?_)
          replace hP := kP_perm (wF_unsH_0 cy ad hh aa pa (gN u u54) u61).symm hP
          replace hD := kD_perm (wF_unsH_0 cy ad hh aa pa (gN u u54) u61).symm hD
          exact kret_v hx hb hr hlocks hP hD hS h1 dX9_restore_64
      replace h1 := Ok.neg c24_0 h1
      by_cases c24_1 : x1 = 1
      · replace h1 := Ok.pos c24_1 h1
        refine k_aald (v := .ref (hh 3)) hx hb hK hP 1 (wF_c1 _ _ _ _ _ _) g24 (by rw [c24_1]; rfl) dX9_restore_24 ?_
        refine lv_astore_n (lv' := [(2, .ref (hh 3)), (0, .ref (ad 0)), (1, .int x1)]) hx hb dX9_restore_25 rfl hl (by decide) rfl (fun ls hl => ?_)
        refine lv_aload_n hx hb dX9_restore_26 rfl (lv_at hl 1 rfl) ?_
        refine k_get (v := .ref (ad 2)) (C := RX9) (T := TX9) (N := 9) hx hb hts inX9_restore_X9 hown hK hP 0 (wF_c0 _ _ _ _ _ _) rfl 4 (by decide) lkX9_restore_30 (fFs_4 _ _ _ _) dX9_restore_27 ?_
        refine lv_iload_n hx hb dX9_restore_30 rfl (lv_at hl 2 rfl) ?_
        have g31 := h1.grd1
        replace h1 := h1.grd2
        refine k_zald (k := (ix x1)) hx hb hK hP 2 (wF_c2 _ _ _ _ _ _) g31 rfl dX9_restore_31 ?_
        refine lv_if_eq (tgt := 39) hx hb dX9_restore_32 (by decide) (fun c32 => ?_) (fun c32 => ?_)
        · replace h1 := Ok.pos c32 h1
          exact h1.no
        · replace h1 := Ok.neg c32 h1
          refine lv_aload_n hx hb dX9_restore_35 rfl (lv_at hl 0 rfl) ?_
          refine lv_ifnonnull (tgt := 49) hx hb dX9_restore_36 (by decide) ?_
          refine lv_aload_n hx hb dX9_restore_49 rfl (lv_at hl 1 rfl) ?_
          refine k_get (v := .ref (hh 0)) (C := RX9) (T := TX9) (N := 9) hx hb hts inX9_restore_X9 hown hK hP 0 (wF_c0 _ _ _ _ _ _) rfl 0 (by decide) lkX9_restore_10 (fFs_0 _ _ _ _) dX9_restore_50 ?_
          refine lv_aload_n hx hb dX9_restore_53 rfl (lv_at hl 0 rfl) ?_
          refine kc_vV (b := (hh 0)) (As := [.ref (hh 3)]) (rest := []) h1 ⟨hx, hb, hml, hown, hts⟩ (cX8_copyFromM l D cy (hh 0) (aa 0) (hh 3) (aa 3) H.size (fN u) (fB u)) (cwV 1 hts gX9_restore_X8_copyFrom rfl rfl rfl hdX8_copyFrom ⟨Nat.le_of_ble_eq_true rfl, Nat.le_of_ble_eq_true rfl⟩) hK (wF_sel1_14 _ _ _ _ _ _) hP hD hS hA (q0 := 0) rfl rfl rfl hl.1 rfl (Nat.le_of_ble_eq_true rfl) dX9_restore_54 ⟨Nat.zero_le _, Nat.zero_le _⟩ (fun u54 H locs h1 hP hD hS => ?_)
          replace hP := kP_perm (wF_uns1_14_0 cy ad hh aa pa u u54).symm hP
          replace hD := kD_perm (wF_uns1_14_0 cy ad hh aa pa u u54).symm hD
          refine lv_aload_n hx hb dX9_restore_57 rfl (lv_at hl 1 rfl) ?_
          refine k_get (v := .ref (ad 5)) (C := RX9) (T := TX9) (N := 9) hx hb hts inX9_restore_X9 hown hK hP 0 (wF_c0 _ _ _ _ _ _) rfl 2 (by decide) lkX9_restore_22 (fFs_2 _ _ _ _) dX9_restore_58 ?_
          refine kc_vV (b := (ad 5)) (As := []) (rest := []) h1 ⟨hx, hb, hml, hown, hts⟩ (cX4_forgetM l D cy (ad 5) (ad 6) hh aa (hh 0) (aa 0) H.size (fH (gN u u54))) (cwV 0 hts gX9_restore_X4_forget rfl rfl rfl hdX4_forget ⟨Nat.le_of_ble_eq_true rfl, Nat.le_of_ble_eq_true rfl⟩) hK (wF_selH _ _ _ _ _ _) hP hD hS hA (q0 := 0) rfl rfl rfl hl.1 rfl (Nat.le_of_ble_eq_true rfl) dX9_restore_61 ⟨Nat.zero_le _, Nat.zero_le _⟩ (fun u61 H locs h1 hP hD hS => ?_)
          replace hP := kP_perm (wF_unsH_0 cy ad hh aa pa (gN u u54) u61).symm hP
          replace hD := kD_perm (wF_unsH_0 cy ad hh aa pa (gN u u54) u61).symm hD
          exact kret_v hx hb hr hlocks hP hD hS h1 dX9_restore_64
      replace h1 := Ok.neg c24_1 h1
      exact h1.no
    · replace h1 := Ok.neg c6 h1
      exact h1.no
def hX9_restore (p1 : Int32) (u : FS) : Option (FS) := hX9_restore_b0 p1 u
set_option maxHeartbeats 4000000 in
set_option maxRecDepth 100000 in
theorem cX9_restoreM (l : Launch) (D : va_G) (cy : Nat → ClassId) (ad : Nat → Nat) (hh : Nat → Nat) (aa : Nat → Nat → Nat) (pa : Nat → Nat) (sz : Nat) (u : FS) (p1 : Int32) : ∀ (K : FS → Prop), Ok (hX9_restore p1 u) K → Met l yX9_restore wsX9_restore rmX9_restore (va_Pc [.ref (ad 0), .int p1] (kPre D cy sz (wF cy ad hh aa pa u))) (va_Qv K (fun q => kPost D (va_A (wF cy ad hh aa pa u) sz) (wF cy ad hh aa pa q)) (va_A (wF cy ad hh aa pa u) sz)) 0 0 (va_A (wF cy ad hh aa pa u) sz) := by
  intro K h1
  refine Met.ofW (cc := cX9_restore) (maxL := 3) (ret := none) (by decide) rfl ?_
  intro p e s m args below meth c s₁ B hml hv
  obtain ⟨rfl, hsz, hP, hK, hD0⟩ := hv
  subst hsz
  have E : mE D cy RX9 cX9_restore 3 none wsX9_restore (va_A (wF cy ad hh aa pa u) s.heap.size) p s m _ meth c := ⟨B.exec, B.bytes, B.returns, hml, findClass_of_methodNamed B.named, atoms_spec (ws := wsX9_restore) B.pre, B.notSynchronized, hK, fun q h => Or.inr h⟩
  have hl := lv_entry ([.ref (ad 0), .int p1]) (n := 3) (Nat.le_of_ble_eq_true rfl)
  rw [lg_entry_eq]
  generalize (lg_sl ([.ref (ad 0), .int p1]) ++ List.replicate (3 - (lg_sl ([.ref (ad 0), .int p1])).length) Slot.unset).toArray = ls at hl ⊢
  exact tX9_restore_b0 K E p1 u _ _ _ hl hP hD0.self va_S.rf h1
