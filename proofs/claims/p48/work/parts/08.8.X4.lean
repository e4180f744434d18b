-- X9_save
theorem k_fm {α : Type} {l : List α} {k : Nat} {B : α} : ∀ js : List Nat, k ∉ js → js.filterMap (fun i => (l.set k B)[i]?) = js.filterMap (fun i => l[i]?)
  | [], _ => rfl
  | j :: js, h => by
    have h1 : k ≠ j := fun e => h (e ▸ List.mem_cons_self)
    have h2 : k ∉ js := fun e => h (List.mem_cons_of_mem _ e)
    rw [List.filterMap_cons, List.filterMap_cons, List.getElem?_set_ne h1, k_fm js h2]
theorem k_selset {l : List va_W} {k : Nat} {B : va_W} (is js : List Nat) {cs : List va_W} {n : Nat} (h : is.map (fun i => (l.set k B)[i]?) = cs.map some) (hl : l.length = n) (hp : (is ++ js).Perm (List.range n)) (hk : k ∉ js) : (l.set k B).flatten.Perm (cs.flatten ++ (js.filterMap (fun i => l[i]?)).flatten) := by
  rw [← k_fm (B := B) js hk]
  exact k_seln is js h (by rw [List.length_set]; exact hl) hp
theorem xaX9_save_75 : ∀ w ∈ (vx_atS RX9 75 "java/lang/IllegalArgumentException" ["java/lang/RuntimeException", "java/lang/Exception"]).filter goodWord, w ∈ wsX9_save := fun w h => List.mem_cons_of_mem _ (List.mem_append_right _ h)
theorem inX9_save_X9 : ∀ w ∈ u_ws RX9 TX9 9, w ∈ wsX9_save := k_lays 28 rfl
theorem lkX9_save_26 : Cond.fieldLink RX9 26 "FerryRamp" "saved" "[LFerryRamp$State;" ∈ wsX9_save := List.mem_of_getElem? (i := 3) rfl
theorem wF_c1 (cy : Nat → ClassId) (ad : Nat → Nat) (hh : Nat → Nat) (aa : Nat → Nat → Nat) (pa : Nat → Nat) (u : FS) : (wF cy ad hh aa pa u)[1]? = some ((ad 1), .inl (cy 2, 2, .inr (.inr (.inr (.inr (fun i => some (hh (2 + i)))))))) := fl_atj (l := wFl cy ad hh aa pa u) (j := 0) (q := 1) rfl rfl rfl
theorem lkX9_save_10 : Cond.fieldLink RX9 10 "FerryRamp" "now" "LFerryRamp$State;" ∈ wsX9_save := List.mem_of_getElem? (i := 4) rfl
def wF_r13_1 (cy : Nat → ClassId) (ad : Nat → Nat) (hh : Nat → Nat) (aa : Nat → Nat → Nat) (pa : Nat → Nat) (u : FS) : va_W := (([0, 2, 3, 4, 5, 6, 7, 8, 9, 10, 11, 12, 14] : List Nat).filterMap (fun i => (wFl cy ad hh aa pa u)[i]?)).flatten
theorem wF_sel13_1 (cy : Nat → ClassId) (ad : Nat → Nat) (hh : Nat → Nat) (aa : Nat → Nat → Nat) (pa : Nat → Nat) (u : FS) : (wF cy ad hh aa pa u).Perm (([wS cy (hh 2) (aa 2) (fA u), wS cy (hh 0) (aa 0) (fN u)] : List va_W).flatten ++ wF_r13_1 cy ad hh aa pa u) := k_seln (l := wFl cy ad hh aa pa u) (n := 15) [13, 1] [0, 2, 3, 4, 5, 6, 7, 8, 9, 10, 11, 12, 14] rfl rfl (by decide)
theorem wF_uns13_1_0 (cy : Nat → ClassId) (ad : Nat → Nat) (hh : Nat → Nat) (aa : Nat → Nat → Nat) (pa : Nat → Nat) (u : FS) (x : KS) : (wF cy ad hh aa pa (gA u x)).Perm (([wS cy (hh 2) (aa 2) x, wS cy (hh 0) (aa 0) (fN u)] : List va_W).flatten ++ wF_r13_1 cy ad hh aa pa u) := by
  have e : wFl cy ad hh aa pa (gA u x) = (wFl cy ad hh aa pa u).set 13 (wS cy (hh 2) (aa 2) x) := rfl
  unfold wF
  rw [e]
  exact k_selset (l := wFl cy ad hh aa pa u) (n := 15) [13, 1] [0, 2, 3, 4, 5, 6, 7, 8, 9, 10, 11, 12, 14] rfl rfl (by decide) (by decide)
theorem lkX9_save_30 : Cond.fieldLink RX9 30 "FerryRamp" "isSaved" "[Z" ∈ wsX9_save := List.mem_of_getElem? (i := 5) rfl
theorem wF_c2 (cy : Nat → ClassId) (ad : Nat → Nat) (hh : Nat → Nat) (aa : Nat → Nat → Nat) (pa : Nat → Nat) (u : FS) : (wF cy ad hh aa pa u)[2]? = some ((ad 2), .inl (cy 1, 2, .inl (fI u))) := fl_atj (l := wFl cy ad hh aa pa u) (j := 0) (q := 2) rfl rfl rfl
theorem wF_s2 (cy : Nat → ClassId) (ad : Nat → Nat) (hh : Nat → Nat) (aa : Nat → Nat → Nat) (pa : Nat → Nat) (u : FS) (i : Nat) (x : Int32) : (wF cy ad hh aa pa u).set 2 ((ad 2), .inl (cy 1, 2, .inl (upd (fI u) i x))) = wF cy ad hh aa pa (gI u i x) := (fl_setj (l := wFl cy ad hh aa pa u) (j := 0) (q := 2) (Bn := (wFl cy ad hh aa pa (gI u i x)).getD 0 []) rfl rfl (Nat.le_of_ble_eq_true rfl) rfl).trans rfl
def wF_r14_1 (cy : Nat → ClassId) (ad : Nat → Nat) (hh : Nat → Nat) (aa : Nat → Nat → Nat) (pa : Nat → Nat) (u : FS) : va_W := (([0, 2, 3, 4, 5, 6, 7, 8, 9, 10, 11, 12, 13] : List Nat).filterMap (fun i => (wFl cy ad hh aa pa u)[i]?)).flatten
theorem wF_sel14_1 (cy : Nat → ClassId) (ad : Nat → Nat) (hh : Nat → Nat) (aa : Nat → Nat → Nat) (pa : Nat → Nat) (u : FS) : (wF cy ad hh aa pa u).Perm (([wS cy (hh 3) (aa 3) (fB u), wS cy (hh 0) (aa 0) (fN u)] : List va_W).flatten ++ wF_r14_1 cy ad hh aa pa u) := k_seln (l := wFl cy ad hh aa pa u) (n := 15) [14, 1] [0, 2, 3, 4, 5, 6, 7, 8, 9, 10, 11, 12, 13] rfl rfl (by decide)
theorem wF_uns14_1_0 (cy : Nat → ClassId) (ad : Nat → Nat) (hh : Nat → Nat) (aa : Nat → Nat → Nat) (pa : Nat → Nat) (u : FS) (x : KS) : (wF cy ad hh aa pa (gB u x)).Perm (([wS cy (hh 3) (aa 3) x, wS cy (hh 0) (aa 0) (fN u)] : List va_W).flatten ++ wF_r14_1 cy ad hh aa pa u) := by
  have e : wFl cy ad hh aa pa (gB u x) = (wFl cy ad hh aa pa u).set 14 (wS cy (hh 3) (aa 3) x) := rfl
  unfold wF
  rw [e]
  exact k_selset (l := wFl cy ad hh aa pa u) (n := 15) [14, 1] [0, 2, 3, 4, 5, 6, 7, 8, 9, 10, 11, 12, 13] rfl rfl (by decide) (by decide)
abbrev rmX9_save : Room := { frames := 6, cells := 1, slots := 6, locals := 90 }
def fX9_save_b0 (x1 : Int32) (u : FS) : Option ((String ⊕ Int32) × FS) :=
  (if x1 < 0 then some (.inl "java/lang/IllegalArgumentException", u) else (if x1 < 2 then grd (inb x1 2) ((if x1 = 0 then bnd (fX8_copyFrom (fA u) (fN u)) (fun u35 => grd (inb x1 2) (some (.inr 0, gI (gA u u35) (ix x1) 1))) else (if x1 = 1 then bnd (fX8_copyFrom (fB u) (fN u)) (fun u35 => grd (inb x1 2) (some (.inr 0, gI (gB u u35) (ix x1) 1))) else none))) else some (.inl "java/lang/IllegalArgumentException", u)))
set_option maxHeartbeats 4000000 in
set_option maxRecDepth 100000 in
theorem tX9_save_b0 {p : Program} {l : Launch} {e : Env} {s : State} {m : MethodId} {args : Array Value} {below : List Frame} {meth : Method} {c : Code} {D : va_G} {cy : Nat → ClassId} {A : Nat → Prop} {ad : Nat → Nat} {hh : Nat → Nat} {aa : Nat → Nat → Nat} {pa : Nat → Nat} {za zv : Nat → Nat} (K : (String ⊕ Int32) × FS → Prop) (E : mE D cy RX9 cX9_save 3 none wsX9_save A p s m args meth c) (hfl : l.stackTraces = false) (hex : ∀ x ∈ c.exceptionTable.toList, False) (hZ : mZ za zv A s s.heap)
     (x1 : Int32) (u : FS) (H : Heap) (locs : List Loc) (ls : Array Slot) (hl : lv_has ls 3 [(0, .ref (ad 0)), (1, .int x1)]) (hP : va_P D kCl (wF cy ad hh aa pa u) H) (hD : va_D A (wF cy ad hh aa pa u)) (hS : va_S A s.heap H locs) (h1 : Ok (fX9_save_b0 x1 u) K) :
    kWx p l e rmX9_save s m args below meth c H locs (va_Qv (fun q => K (.inr 0, q)) (fun q => kPost D A (wF cy ad hh aa pa q)) A) (vx_X (fun _ : FS => True) (fun E q t => K (.inl E, q) ∧ kPost D A (wF cy ad hh aa pa q) t) A) A 0 ls [] := by
  obtain ⟨hx, hb, hr, hml, hown, hts, hlocks, hK, hA⟩ := id E
  unfold fX9_save_b0 at h1
  refine lv_iload_n hx hb dX9_save_0 rfl (lv_at hl 1 rfl) ?_
  refine lv_if_lt (tgt := 9) hx hb dX9_save_1 (by decide) (fun c1 => ?_) (fun c1 => ?_)
  · replace h1 := Ok.pos c1 h1
    exact kx_throwv (names := ["java/lang/RuntimeException", "java/lang/Exception"]) (text := "slot") (sa := za 17) hx hb hfl hml hown (by decide) (by decide) (hts _ (List.mem_of_getElem? (i := 1) rfl)) (hts _ (List.mem_of_getElem? (i := 2) rfl)) (k_site hZ 17 (by decide)) (vx_hat (fun w h => hts w (xaX9_save_75 w h)) xbRX9_75 (hZ.cast (by decide))) xgRX9_72_75 hZ hK hP hD hS hl.1 dX9_save_9 dX9_save_12 dX9_save_13 dX9_save_15 dX9_save_18 hex hlocks h1 (Nat.le_of_ble_eq_true rfl) (Nat.le_of_ble_eq_true rfl) (Nat.le_of_ble_eq_true rfl) (Nat.le_of_ble_eq_true rfl)
  · replace h1 := Ok.neg c1 h1
    refine lv_iload_n hx hb dX9_save_4 rfl (lv_at hl 1 rfl) ?_
    refine lv_iconst (v := 2) hx hb dX9_save_5 rfl ?_
    refine lv_icmp_lt (tgt := 19) hx hb dX9_save_6 (by decide) (fun c6 => ?_) (fun c6 => ?_)
    · replace h1 := Ok.pos c6 h1
      refine lv_aload_n hx hb dX9_save_19 rfl (lv_at hl 0 rfl) ?_
      refine k_get (v := .ref (ad 1)) (C := RX9) (T := TX9) (N := 9) hx hb hts inX9_save_X9 hown hK hP 0 (wF_c0 _ _ _ _ _ _) rfl 3 (by decide) lkX9_save_26 (fFs_3 _ _ _ _) dX9_save_20 ?_
      refine lv_iload_n hx hb dX9_save_23 rfl (lv_at hl 1 rfl) ?_
      have g24 := h1.grd1
      replace h1 := h1.grd2
      by_cases c24_0 : x1 = 0
      · replace h1 := Ok.pos c24_0 h1
        refine k_aald (v := .ref (hh 2)) hx hb hK hP 1 (wF_c1 _ _ _ _ _ _) g24 (by rw [c24_0]; rfl) dX9_save_24 ?_
        refine lv_astore_n (lv' := [(2, .ref (hh 2)), (0, .ref (ad 0)), (1, .int x1)]) hx hb dX9_save_25 rfl hl (by decide) rfl (fun ls hl => ?_)
        refine lv_aload_n hx hb dX9_save_26 rfl (lv_at hl 0 rfl) ?_
        refine lv_ifnull hx hb dX9_save_27 ?_
        refine lv_aload_n hx hb dX9_save_30 rfl (lv_at hl 0 rfl) ?_
        refine lv_aload_n hx hb dX9_save_31 rfl (lv_at hl 1 rfl) ?_
        refine k_get (v := .ref (hh 0)) (C := RX9) (T := TX9) (N := 9) hx hb hts inX9_save_X9 hown hK hP 0 (wF_c0 _ _ _ _ _ _) rfl 0 (by decide) lkX9_save_10 (fFs_0 _ _ _ _) dX9_save_32 ?_
        refine kc_vV (b := (hh 2)) (As := [.ref (hh 0)]) (rest := []) h1 ⟨hx, hb, hml, hown, hts⟩ (cX8_copyFromM l D cy (hh 2) (aa 2) (hh 0) (aa 0) H.size (fA u) (fN u)) (cwV 1 hts gX9_save_X8_copyFrom rfl rfl rfl hdX8_copyFrom ⟨Nat.le_of_ble_eq_true rfl, Nat.le_of_ble_eq_true rfl⟩) hK (wF_sel13_1 _ _ _ _ _ _) hP hD hS hA (q0 := 0) rfl rfl rfl hl.1 rfl (Nat.le_of_ble_eq_true rfl) dX9_save_35 ⟨Nat.zero_le _, Nat.zero_le _⟩ (fun u35 H locs h1 hP hD hS => ?_)
        replace hP := kP_perm (wF_uns13_1_0 cy ad hh aa pa u u35).symm hP
        replace hD := kD_perm (wF_uns13_1_0 cy ad hh aa pa u u35).symm hD
        refine lv_aload_n hx hb dX9_save_38 rfl (lv_at hl 1 rfl) ?_
        refine k_get (v := .ref (ad 2)) (C := RX9) (T := TX9) (N := 9) hx hb hts inX9_save_X9 hown hK hP 0 (wF_c0 _ _ _ _ _ _) rfl 4 (by decide) lkX9_save_30 (fFs_4 _ _ _ _) dX9_save_39 ?_
        refine lv_iload_n hx hb dX9_save_42 rfl (lv_at hl 2 rfl) ?_
        refine lv_iconst (v := 1) hx hb dX9_save_43 rfl ?_
        have g44 := h1.grd1
        replace h1 := h1.grd2
        refine k_zast (k := (ix x1)) (ws' := wF cy ad hh aa pa (gI (gA u u35) (ix x1) 1)) hx hb hK hP hD hS 2 (wF_c2 _ _ _ _ _ _) g44 rfl rfl (wF_s2 _ _ _ _ _ _ _ _) dX9_save_44 (fun H locs hP hD hS => ?_)
        exact kret_xv hx hb hr hlocks hP hD hS h1 dX9_save_45
      replace h1 := Ok.neg c24_0 h1
      by_cases c24_1 : x1 = 1
      · replace h1 := Ok.pos c24_1 h1
        refine k_aald (v := .ref (hh 3)) hx hb hK hP 1 (wF_c1 _ _ _ _ _ _) g24 (by rw [c24_1]; rfl) dX9_save_24 ?_
        refine lv_astore_n (lv' := [(2, .ref (hh 3)), (0, .ref (ad 0)), (1, .int x1)]) hx hb dX9_save_25 rfl hl (by decide) rfl (fun ls hl => ?_)
        refine lv_aload_n hx hb dX9_save_26 rfl (lv_at hl 0 rfl) ?_
        refine lv_ifnull hx hb dX9_save_27 ?_
        refine lv_aload_n hx hb dX9_save_30 rfl (lv_at hl 0 rfl) ?_
        refine lv_aload_n hx hb dX9_save_31 rfl (lv_at hl 1 rfl) ?_
        refine k_get (v := .ref (hh 0)) (C := RX9) (T := TX9) (N := 9) hx hb hts inX9_save_X9 hown hK hP 0 (wF_c0 _ _ _ _ _ _) rfl 0 (by decide) lkX9_save_10 (fFs_0 _ _ _ _) dX9_save_32 ?_
        refine kc_vV (b := (hh 3)) (As := [.ref (hh 0)]) (rest := []) h1 ⟨hx, hb, hml, hown, hts⟩ (cX8_copyFromM l D cy (hh 3) (aa 3) (hh 0) (aa 0) H.size (fB u) (fN u)) (cwV 1 hts gX9_save_X8_copyFrom rfl rfl rfl hdX8_copyFrom ⟨Nat.le_of_ble_eq_true rfl, Nat.le_of_ble_eq_true rfl⟩) hK (wF_sel14_1 _ _ _ _ _ _) hP hD hS hA (q0 := 0) rfl rfl rfl hl.1 rfl (Nat.le_of_ble_eq_true rfl) dX9_save_35 ⟨Nat.zero_le _, Nat.zero_le _⟩ (fun u35 H locs h1 hP hD hS => ?_)
        replace hP := kP_perm (wF_uns14_1_0 cy ad hh aa pa u u35).symm hP
        replace hD := kD_perm (wF_uns14_1_0 cy ad hh aa pa u u35).symm hD
        refine lv_aload_n hx hb dX9_save_38 rfl (lv_at hl 1 rfl) ?_
        refine k_get (v := .ref (ad 2)) (C := RX9) (T := TX9) (N := 9) hx hb hts inX9_save_X9 hown hK hP 0 (wF_c0 _ _ _ _ _ _) rfl 4 (by decide) lkX9_save_30 (fFs_4 _ _ _ _) dX9_save_39 ?_
        refine lv_iload_n hx hb dX9_save_42 rfl (lv_at hl 2 rfl) ?_
        refine lv_iconst (v := 1) hx hb dX9_save_43 rfl ?_
        have g44 := h1.grd1
        replace h1 := h1.grd2
        refine k_zast (k := (ix x1)) (ws' := wF cy ad hh aa pa (gI (gB u u35) (ix x1) 1)) hx hb hK hP hD hS 2 (wF_c2 _ _ _ _ _ _) g44 rfl rfl (wF_s2 _ _ _ _ _ _ _ _) dX9_save_44 (fun H locs hP hD hS => ?_)
        exact kret_xv hx hb hr hlocks hP hD hS h1 dX9_save_45
      replace h1 := Ok.neg c24_1 h1
      exact h1.no
    · replace h1 := Ok.neg c6 h1
      exact kx_throwv (names := ["java/lang/RuntimeException", "java/lang/Exception"]) (text := "slot") (sa := za 17) hx hb hfl hml hown (by decide) (by decide) (hts _ (List.mem_of_getElem? (i := 1) rfl)) (hts _ (List.mem_of_getElem? (i := 2) rfl)) (k_site hZ 17 (by decide)) (vx_hat (fun w h => hts w (xaX9_save_75 w h)) xbRX9_75 (hZ.cast (by decide))) xgRX9_72_75 hZ hK hP hD hS hl.1 dX9_save_9 dX9_save_12 dX9_save_13 dX9_save_15 dX9_save_18 hex hlocks h1 (Nat.le_of_ble_eq_true rfl) (Nat.le_of_ble_eq_true rfl) (Nat.le_of_ble_eq_true rfl) (Nat.le_of_ble_eq_true rfl)
def fX9_save (p1 : Int32) (u : FS) : Option ((String ⊕ Int32) × FS) := fX9_save_b0 p1 u
set_option maxHeartbeats 4000000 in
set_option maxRecDepth 100000 in
theorem cX9_saveM (l : Launch) (hfl : l.stackTraces = false) (D : va_G) (cy : Nat → ClassId) (za zv : Nat → Nat) (ad : Nat → Nat) (hh : Nat → Nat) (aa : Nat → Nat → Nat) (pa : Nat → Nat) (sz : Nat) (u : FS) (p1 : Int32) : ∀ (K : (String ⊕ Int32) × FS → Prop), Ok (fX9_save p1 u) K → vx_Met l yX9_save wsX9_save rmX9_save (va_Pc [.ref (ad 0), .int p1] (kPreZ D cy za zv sz (wF cy ad hh aa pa u))) (va_Qv (fun q => K (.inr 0, q)) (fun q => kPost D (va_A (wF cy ad hh aa pa u) sz) (wF cy ad hh aa pa q)) (va_A (wF cy ad hh aa pa u) sz)) (vx_X (fun _ : FS => True) (fun E q t => K (.inl E, q) ∧ kPost D (va_A (wF cy ad hh aa pa u) sz) (wF cy ad hh aa pa q) t) (va_A (wF cy ad hh aa pa u) sz)) 1 6 (va_A (wF cy ad hh aa pa u) sz) := by
  intro K h1
  refine vx_ofW (cc := cX9_save) (maxL := 3) (ret := none) (by decide) rfl ?_
  intro p e s m args below meth c s₁ B hml hex hv
  obtain ⟨rfl, ⟨hsz, hP, hK, hD0⟩, hZ⟩ := hv
  subst hsz
  have E : mE D cy RX9 cX9_save 3 none wsX9_save (va_A (wF cy ad hh aa pa u) s.heap.size) p s m _ meth c := ⟨B.exec, B.bytes, B.returns, hml, findClass_of_methodNamed B.named, atoms_spec (ws := wsX9_save) B.pre, B.notSynchronized, hK, fun q h => Or.inr h⟩
  have hl := lv_entry ([.ref (ad 0), .int p1]) (n := 3) (Nat.le_of_ble_eq_true rfl)
  rw [lg_entry_eq]
  generalize (lg_sl ([.ref (ad 0), .int p1]) ++ List.replicate (3 - (lg_sl ([.ref (ad 0), .int p1])).length) Slot.unset).toArray = ls at hl ⊢
  exact tX9_save_b0 K E hfl hex hZ p1 u _ _ _ hl hP hD0.self va_S.rf h1
-- X9_restore
theorem xaX9_restore_75 : ∀ w ∈ (vx_atS RX9 75 "java/lang/IllegalArgumentException" ["java/lang/RuntimeException", "java/lang/Exception"]).filter goodWord, w ∈ wsX9_restore := fun w h => List.mem_cons_of_mem _ (List.mem_append_left _ (List.mem_append_right _ h))
theorem inX9_restore_X9 : ∀ w ∈ u_ws RX9 TX9 9, w ∈ wsX9_restore := k_lays 37 rfl
theorem lkX9_restore_26 : Cond.fieldLink RX9 26 "FerryRamp" "saved" "[LFerryRamp$State;" ∈ wsX9_restore := List.mem_of_getElem? (i := 5) rfl
theorem lkX9_restore_30 : Cond.fieldLink RX9 30 "FerryRamp" "isSaved" "[Z" ∈ wsX9_restore := List.mem_of_getElem? (i := 6) rfl
theorem xaX9_restore_65 : ∀ w ∈ (vx_atS RX9 65 "java/lang/IllegalStateException" ["java/lang/RuntimeException", "java/lang/Exception"]).filter goodWord, w ∈ wsX9_restore := fun w h => List.mem_cons_of_mem _ (List.mem_append_right _ h)
theorem lkX9_restore_10 : Cond.fieldLink RX9 10 "FerryRamp" "now" "LFerryRamp$State;" ∈ wsX9_restore := List.mem_of_getElem? (i := 7) rfl
def wF_r1_13 (cy : Nat → ClassId) (ad : Nat → Nat) (hh : Nat → Nat) (aa : Nat → Nat → Nat) (pa : Nat → Nat) (u : FS) : va_W := (([0, 2, 3, 4, 5, 6, 7, 8, 9, 10, 11, 12, 14] : List Nat).filterMap (fun i => (wFl cy ad hh aa pa u)[i]?)).flatten
theorem wF_sel1_13 (cy : Nat → ClassId) (ad : Nat → Nat) (hh : Nat → Nat) (aa : Nat → Nat → Nat) (pa : Nat → Nat) (u : FS) : (wF cy ad hh aa pa u).Perm (([wS cy (hh 0) (aa 0) (fN u), wS cy (hh 2) (aa 2) (fA u)] : List va_W).flatten ++ wF_r1_13 cy ad hh aa pa u) := k_seln (l := wFl cy ad hh aa pa u) (n := 15) [1, 13] [0, 2, 3, 4, 5, 6, 7, 8, 9, 10, 11, 12, 14] rfl rfl (by decide)
theorem wF_uns1_13_0 (cy : Nat → ClassId) (ad : Nat → Nat) (hh : Nat → Nat) (aa : Nat → Nat → Nat) (pa : Nat → Nat) (u : FS) (x : KS) : (wF cy ad hh aa pa (gN u x)).Perm (([wS cy (hh 0) (aa 0) x, wS cy (hh 2) (aa 2) (fA u)] : List va_W).flatten ++ wF_r1_13 cy ad hh aa pa u) := by
  have e : wFl cy ad hh aa pa (gN u x) = (wFl cy ad hh aa pa u).set 1 (wS cy (hh 0) (aa 0) x) := rfl
  unfold wF
  rw [e]
  exact k_selset (l := wFl cy ad hh aa pa u) (n := 15) [1, 13] [0, 2, 3, 4, 5, 6, 7, 8, 9, 10, 11, 12, 14] rfl rfl (by decide) (by decide)
theorem lkX9_restore_22 : Cond.fieldLink RX9 22 "FerryRamp" "history" "LFerryRamp$History;" ∈ wsX9_restore := List.mem_of_getElem? (i := 8) rfl
def wF_r1_14 (cy : Nat → ClassId) (ad : Nat → Nat) (hh : Nat → Nat) (aa : Nat → Nat → Nat) (pa : Nat → Nat) (u : FS) : va_W := (([0, 2, 3, 4, 5, 6, 7, 8, 9, 10, 11, 12, 13] : List Nat).filterMap (fun i => (wFl cy ad hh aa pa u)[i]?)).flatten
theorem wF_sel1_14 (cy : Nat → ClassId) (ad : Nat → Nat) (hh : Nat → Nat) (aa : Nat → Nat → Nat) (pa : Nat → Nat) (u : FS) : (wF cy ad hh aa pa u).Perm (([wS cy (hh 0) (aa 0) (fN u), wS cy (hh 3) (aa 3) (fB u)] : List va_W).flatten ++ wF_r1_14 cy ad hh aa pa u) := k_seln (l := wFl cy ad hh aa pa u) (n := 15) [1, 14] [0, 2, 3, 4, 5, 6, 7, 8, 9, 10, 11, 12, 13] rfl rfl (by decide)
theorem wF_uns1_14_0 (cy : Nat → ClassId) (ad : Nat → Nat) (hh : Nat → Nat) (aa : Nat → Nat → Nat) (pa : Nat → Nat) (u : FS) (x : KS) : (wF cy ad hh aa pa (gN u x)).Perm (([wS cy (hh 0) (aa 0) x, wS cy (hh 3) (aa 3) (fB u)] : List va_W).flatten ++ wF_r1_14 cy ad hh aa pa u) := by
  have e : wFl cy ad hh aa pa (gN u x) = (wFl cy ad hh aa pa u).set 1 (wS cy (hh 0) (aa 0) x) := rfl
  unfold wF
  rw [e]
  exact k_selset (l := wFl cy ad hh aa pa u) (n := 15) [1, 14] [0, 2, 3, 4, 5, 6, 7, 8, 9, 10, 11, 12, 13] rfl rfl (by decide) (by decide)
abbrev rmX9_restore : Room := { frames := 6, cells := 1, slots := 6, locals := 90 }
def fX9_restore_b0 (x1 : Int32) (u : FS) : Option ((String ⊕ Int32) × FS) :=
  (if x1 < 0 then some (.inl "java/lang/IllegalArgumentException", u) else (if x1 < 2 then grd (inb x1 2) ((if x1 = 0 then grd (inb x1 2) ((if (fI u (ix x1)) = 0 then some (.inl "java/lang/IllegalStateException", u) else bnd (fX8_copyFrom (fN u) (fA u)) (fun u54 => bnd (fX4_forget (fH (gN u u54))) (fun u61 => some (.inr 0, gH (gN u u54) u61))))) else (if x1 = 1 then grd (inb x1 2) ((if (fI u (ix x1)) = 0 then some (.inl "java/lang/IllegalStateException", u) else bnd (fX8_copyFrom (fN u) (fB u)) (fun u54 => bnd (fX4_forget (fH (gN u u54))) (fun u61 => some (.inr 0, gH (gN u u54) u61))))) else none))) else some (.inl "java/lang/IllegalArgumentException", u)))
set_option maxHeartbeats 4000000 in
set_option maxRecDepth 100000 in
theorem tX9_restore_b0 {p : Program} {l : Launch} {e : Env} {s : State} {m : MethodId} {args : Array Value} {below : List Frame} {meth : Method} {c : Code} {D : va_G} {cy : Nat → ClassId} {A : Nat → Prop} {ad : Nat → Nat} {hh : Nat → Nat} {aa : Nat → Nat → Nat} {pa : Nat → Nat} {za zv : Nat → Nat} (K : (String ⊕ Int32) × FS → Prop) (E : mE D cy RX9 cX9_restore 3 none wsX9_restore A p s m args meth c) (hfl : l.stackTraces = false) (hex : ∀ x ∈ c.exceptionTable.toList, False) (hZ : mZ za zv A s s.heap)
     (x1 : Int32) (u : FS) (H : Heap) (locs : List Loc) (ls : Array Slot) (hl : lv_has ls 3 [(0, .ref (ad 0)), (1, .int x1)]) (hP : va_P D kCl (wF cy ad hh aa pa u) H) (hD : va_D A (wF cy ad hh aa pa u)) (hS : va_S A s.heap H locs) (h1 : Ok (fX9_restore_b0 x1 u) K) :
    kWx p l e rmX9_restore s m args below meth c H locs (va_Qv (fun q => K (.inr 0, q)) (fun q => kPost D A (wF cy ad hh aa pa q)) A) (vx_X (fun _ : FS => True) (fun E q t => K (.inl E, q) ∧ kPost D A (wF cy ad hh aa pa q) t) A) A 0 ls [] := by
  obtain ⟨hx, hb, hr, hml, hown, hts, hlocks, hK, hA⟩ := id E
  unfold fX9_restore_b0 at h1
  refine lv_iload_n hx hb dX9_restore_0 rfl (lv_at hl 1 rfl) ?_
  refine lv_if_lt (tgt := 9) hx hb dX9_restore_1 (by decide) (fun c1 => ?_) (fun c1 => ?_)
  · replace h1 := Ok.pos c1 h1
    exact kx_throwv (names := ["java/lang/RuntimeException", "java/lang/Exception"]) (text := "slot") (sa := za 17) hx hb hfl hml hown (by decide) (by decide) (hts _ (List.mem_of_getElem? (i := 1) rfl)) (hts _ (List.mem_of_getElem? (i := 2) rfl)) (k_site hZ 17 (by decide)) (vx_hat (fun w h => hts w (xaX9_restore_75 w h)) xbRX9_75 (hZ.cast (by decide))) xgRX9_72_75 hZ hK hP hD hS hl.1 dX9_restore_9 dX9_restore_12 dX9_restore_13 dX9_restore_15 dX9_restore_18 hex hlocks h1 (Nat.le_of_ble_eq_true rfl) (Nat.le_of_ble_eq_true rfl) (Nat.le_of_ble_eq_true rfl) (Nat.le_of_ble_eq_true rfl)
  · replace h1 := Ok.neg c1 h1
    refine lv_iload_n hx hb dX9_restore_4 rfl (lv_at hl 1 rfl) ?_
    refine lv_iconst (v := 2) hx hb dX9_restore_5 rfl ?_
    refine lv_icmp_lt (tgt := 19) hx hb dX9_restore_6 (by decide) (fun c6 => ?_) (fun c6 => ?_)
    · replace h1 := Ok.pos c6 h1
      refine lv_aload_n hx hb dX9_restore_19 rfl (lv_at hl 0 rfl) ?_
      refine k_get (v := .ref (ad 1)) (C := RX9) (T := TX9) (N := 9) hx hb hts inX9_restore_X9 hown hK hP 0 (wF_c0 _ _ _ _ _ _) rfl 3 (by decide) lkX9_restore_26 (fFs_3 _ _ _ _) dX9_restore_20 ?_
      refine lv_iload_n hx hb dX9_restore_23 rfl (lv_at hl 1 rfl) ?_
      have g24 := h1.grd1
      replace h1 := h1.grd2
      by_cases c24_0 : x1 = 0
      · replace h1 := Ok.pos c24_0 h1
        refine k_aald (v := .ref (hh 2)) hx hb hK hP 1 (wF_c1 _ _ _ _ _ _) g24 (by rw [c24_0]; rfl) dX9_restore_24 ?_
        refine lv_astore_n (lv' := [(2, .ref (hh 2)), (0, .ref (ad 0)), (1, .int x1)]) hx hb dX9_restore_25 rfl hl (by decide) rfl (fun ls hl => ?_)
        refine lv_aload_n hx hb dX9_restore_26 rfl (lv_at hl 1 rfl) ?_
        refine k_get (v := .ref (ad 2)) (C := RX9) (T := TX9) (N := 9) hx hb hts inX9_restore_X9 hown hK hP 0 (wF_c0 _ _ _ _ _ _) rfl 4 (by decide) lkX9_restore_30 (fFs_4 _ _ _ _) dX9_restore_27 ?_
        refine lv_iload_n hx hb dX9_restore_30 rfl (lv_at hl 2 rfl) ?_
        have g31 := h1.grd1
        replace h1 := h1.grd2
        refine k_zald (k := (ix x1)) hx hb hK hP 2 (wF_c2 _ _ _ _ _ _) g31 rfl dX9_restore_31 ?_
        refine lv_if_eq (tgt := 39) hx hb dX9_restore_32 (by decide) (fun c32 => ?_) (fun c32 => ?_)
        · replace h1 := Ok.pos c32 h1
          exact kx_throwv (names := ["java/lang/RuntimeException", "java/lang/Exception"]) (text := "nothing is saved there") (sa := za 18) hx hb hfl hml hown (by decide) (by decide) (hts _ (List.mem_of_getElem? (i := 3) rfl)) (hts _ (List.mem_of_getElem? (i := 4) rfl)) (k_site hZ 18 (by decide)) (vx_hat (fun w h => hts w (xaX9_restore_65 w h)) xbRX9_65 (hZ.cast (by decide))) xgRX9_61_65 hZ hK hP hD hS hl.1 dX9_restore_39 dX9_restore_42 dX9_restore_43 dX9_restore_45 dX9_restore_48 hex hlocks h1 (Nat.le_of_ble_eq_true rfl) (Nat.le_of_ble_eq_true rfl) (Nat.le_of_ble_eq_true rfl) (Nat.le_of_ble_eq_true rfl)
        · replace h1 := Ok.neg c32 h1
          refine lv_aload_n hx hb dX9_restore_35 rfl (lv_at hl 0 rfl) ?_
          refine lv_ifnonnull (tgt := 49) hx hb dX9_restore_36 (by decide) ?_
          refine lv_aload_n hx hb dX9_restore_49 rfl (lv_at hl 1 rfl) ?_
          refine k_get (v := .ref (hh 0)) (C := RX9) (T := TX9) (N := 9) hx hb hts inX9_restore_X9 hown hK hP 0 (wF_c0 _ _ _ _ _ _) rfl 0 (by decide) lkX9_restore_10 (fFs_0 _ _ _ _) dX9_restore_50 ?_
          refine lv_aload_n hx hb dX9_restore_53 rfl (lv_at hl 0 rfl) ?_
          refine kc_vV (b := (hh 0)) (As := [.ref (hh 2)]) (rest := []) h1 ⟨hx, hb, hml, hown, hts⟩ (cX8_copyFromM l D cy (hh 0) (aa 0) (hh 2) (aa 2) H.size (fN u) (fA u)) (cwV 1 hts gX9_restore_X8_copyFrom rfl rfl rfl hdX8_copyFrom ⟨Nat.le_of_ble_eq_true rfl, Nat.le_of_ble_eq_true rfl⟩) hK (wF_sel1_13 _ _ _ _ _ _) hP hD hS hA (q0 := 0) rfl rfl rfl hl.1 rfl (Nat.le_of_ble_eq_true rfl) dX9_restore_54 ⟨Nat.zero_le _, Nat.zero_le _⟩ (fun u54 H locs h1 hP hD hS => ?_)
          replace hP := kP_perm (wF_uns1_13_0 cy ad hh aa pa u u54).symm hP
          replace hD := kD_perm (wF_uns1_13_0 cy ad hh aa pa u u54).symm hD
          refine lv_aload_n hx hb dX9_restore_57 rfl (lv_at hl 1 rfl) ?_
          refine k_get (v := .ref (ad 5)) (C := RX9) (T := TX9) (N := 9) hx hb hts inX9_restore_X9 hown hK hP 0 (wF_c0 _ _ _ _ _ _) rfl 2 (by decide) lkX9_restore_22 (fFs_2 _ _ _ _) dX9_restore_58 ?_
          refine kc_vV (b := (ad 5)) (As := []) (rest := []) h1 ⟨hx, hb, hml, hown, hts⟩ (cX4_forgetM l D cy (ad 5) (ad 6) hh aa (hh 0) (aa 0) H.size (fH (gN u u54))) (cwV 0 hts gX9_restore_X4_forget rfl rfl rfl hdX4_forget ⟨Nat.le_of_ble_eq_true rfl, Nat.le_of_ble_eq_true rfl⟩) hK (wF_selH _ _ _ _ _ _) hP hD hS hA (q0 := 0) rfl rfl rfl hl.1 rfl (Nat.le_of_ble_eq_true rfl) dX9_restore_61 ⟨Nat.zero_le _, Nat.zero_le _⟩ (fun u61 H locs h1 hP hD hS => ?_)
          replace hP := kP_perm (wF_unsH_0 cy ad hh aa pa (gN u u54) u61).symm hP
          replace hD := kD_perm (wF_unsH_0 cy ad hh aa pa (gN u u54) u61).symm hD
          exact kret_xv hx hb hr hlocks hP hD hS h1 dX9_restore_64
      replace h1 := Ok.neg c24_0 h1
      by_cases c24_1 : x1 = 1
      · replace h1 := Ok.pos c24_1 h1
        refine k_aald (v := .ref (hh 3)) hx hb hK hP 1 (wF_c1 _ _ _ _ _ _) g24 (by rw [c24_1]; rfl) dX9_restore_24 ?_
        refine lv_astore_n (lv' := [(2, .ref (hh 3)), (0, .ref (ad 0)), (1, .int x1)]) hx hb dX9_restore_25 rfl hl (by decide) rfl (fun ls hl => ?_)
        refine lv_aload_n hx hb dX9_restore_26 rfl (lv_at hl 1 rfl) ?_
        refine k_get (v := .ref (ad 2)) (C := RX9) (T := TX9) (N := 9) hx hb hts inX9_restore_X9 hown hK hP 0 (wF_c0 _ _ _ _ _ _) rfl 4 (by decide) lkX9_restore_30 (fFs_4 _ _ _ _) dX9_restore_27 ?_
        refine lv_iload_n hx hb dX9_restore_30 rfl (lv_at hl 2 rfl) ?_
        have g31 := h1.grd1
        replace h1 := h1.grd2
        refine k_zald (k := (ix x1)) hx hb hK hP 2 (wF_c2 _ _ _ _ _ _) g31 rfl dX9_restore_31 ?_
        refine lv_if_eq (tgt := 39) hx hb dX9_restore_32 (by decide) (fun c32 => ?_) (fun c32 => ?_)
        · replace h1 := Ok.pos c32 h1
          exact kx_throwv (names := ["java/lang/RuntimeException", "java/lang/Exception"]) (text := "nothing is saved there") (sa := za 18) hx hb hfl hml hown (by decide) (by decide) (hts _ (List.mem_of_getElem? (i := 3) rfl)) (hts _ (List.mem_of_getElem? (i := 4) rfl)) (k_site hZ 18 (by decide)) (vx_hat (fun w h => hts w (xaX9_restore_65 w h)) xbRX9_65 (hZ.cast (by decide))) xgRX9_61_65 hZ hK hP hD hS hl.1 dX9_restore_39 dX9_restore_42 dX9_restore_43 dX9_restore_45 dX9_restore_48 hex hlocks h1 (Nat.le_of_ble_eq_true rfl) (Nat.le_of_ble_eq_true rfl) (Nat.le_of_ble_eq_true rfl) (Nat.le_of_ble_eq_true rfl)
        · replace h1 := Ok.neg c32 h1
          refine lv_aload_n hx hb dX9_restore_35 rfl (lv_at hl 0 rfl) ?_
          refine lv_ifnonnull (tgt := 49) hx hb dX9_restore_36 (by decide) ?_
          refine lv_aload_n hx hb dX9_restore_49 rfl (lv_at hl 1 rfl) ?_
          refine k_get (v := .ref (hh 0)) (C := RX9) (T := TX9) (N := 9) hx hb hts inX9_restore_X9 hown hK hP 0 (wF_c0 _ _ _ _ _ _) rfl 0 (by decide) lkX9_restore_10 (fFs_0 _ _ _ _) dX9_restore_50 ?_
          refine lv_aload_n hx hb dX9_restore_53 rfl (lv_at hl 0 rfl) ?_
          refine kc_vV (b := (hh 0)) (As := [.ref (hh 3)]) (rest := []) h1 ⟨hx, hb, hml, hown, hts⟩ (cX8_copyFromM l D cy (hh 0) (aa 0) (hh 3) (aa 3) H.size (fN u) (fB u)) (cwV 1 hts gX9_restore_X8_copyFrom rfl rfl rfl hdX8_copyFrom ⟨Nat.le_of_ble_eq_true rfl, Nat.le_of_ble_eq_true rfl⟩) hK (wF_sel1_14 _ _ _ _ _ _) hP hD hS hA (q0 := 0) rfl rfl rfl hl.1 rfl (Nat.le_of_ble_eq_true rfl) dX9_restore_54 ⟨Nat.zero_le _, Nat.zero_le _⟩ (fun u54 H locs h1 hP hD hS => ?_)
          replace hP := kP_perm (wF_uns1_14_0 cy ad hh aa pa u u54).symm hP
          replace hD := kD_perm (wF_uns1_14_0 cy ad hh aa pa u u54).symm hD
          refine lv_aload_n hx hb dX9_restore_57 rfl (lv_at hl 1 rfl) ?_
          refine k_get (v := .ref (ad 5)) (C := RX9) (T := TX9) (N := 9) hx hb hts inX9_restore_X9 hown hK hP 0 (wF_c0 _ _ _ _ _ _) rfl 2 (by decide) lkX9_restore_22 (fFs_2 _ _ _ _) dX9_restore_58 ?_
          refine kc_vV (b := (ad 5)) (As := []) (rest := []) h1 ⟨hx, hb, hml, hown, hts⟩ (cX4_forgetM l D cy (ad 5) (ad 6) hh aa (hh 0) (aa 0) H.size (fH (gN u u54))) (cwV 0 hts gX9_restore_X4_forget rfl rfl rfl hdX4_forget ⟨Nat.le_of_ble_eq_true rfl, Nat.le_of_ble_eq_true rfl⟩) hK (wF_selH _ _ _ _ _ _) hP hD hS hA (q0 := 0) rfl rfl rfl hl.1 rfl (Nat.le_of_ble_eq_true rfl) dX9_restore_61 ⟨Nat.zero_le _, Nat.zero_le _⟩ (fun u61 H locs h1 hP hD hS => ?_)
          replace hP := kP_perm (wF_unsH_0 cy ad hh aa pa (gN u u54) u61).symm hP
          replace hD := kD_perm (wF_unsH_0 cy ad hh aa pa (gN u u54) u61).symm hD
          exact kret_xv hx hb hr hlocks hP hD hS h1 dX9_restore_64
      replace h1 := Ok.neg c24_1 h1
      exact h1.no
    · replace h1 := Ok.neg c6 h1
      exact kx_throwv (names := ["java/lang/RuntimeException", "java/lang/Exception"]) (text := "slot") (sa := za 17) hx hb hfl hml hown (by decide) (by decide) (hts _ (List.mem_of_getElem? (i := 1) rfl)) (hts _ (List.mem_of_getElem? (i := 2) rfl)) (k_site hZ 17 (by decide)) (vx_hat (fun w h => hts w (xaX9_restore_75 w h)) xbRX9_75 (hZ.cast (by decide))) xgRX9_72_75 hZ hK hP hD hS hl.1 dX9_restore_9 dX9_restore_12 dX9_restore_13 dX9_restore_15 dX9_restore_18 hex hlocks h1 (Nat.le_of_ble_eq_true rfl) (Nat.le_of_ble_eq_true rfl) (Nat.le_of_ble_eq_true rfl) (Nat.le_of_ble_eq_true rfl)
def fX9_restore (p1 : Int32) (u : FS) : Option ((String ⊕ Int32) × FS) := fX9_restore_b0 p1 u
set_option maxHeartbeats 4000000 in
set_option maxRecDepth 100000 in
theorem cX9_restoreM (l : Launch) (hfl : l.stackTraces = false) (D : va_G) (cy : Nat → ClassId) (za zv : Nat → Nat) (ad : Nat → Nat) (hh : Nat → Nat) (aa : Nat → Nat → Nat) (pa : Nat → Nat) (sz : Nat) (u : FS) (p1 : Int32) : ∀ (K : (String ⊕ Int32) × FS → Prop), Ok (fX9_restore p1 u) K → vx_Met l yX9_restore wsX9_restore rmX9_restore (va_Pc [.ref (ad 0), .int p1] (kPreZ D cy za zv sz (wF cy ad hh aa pa u))) (va_Qv (fun q => K (.inr 0, q)) (fun q => kPost D (va_A (wF cy ad hh aa pa u) sz) (wF cy ad hh aa pa q)) (va_A (wF cy ad hh aa pa u) sz)) (vx_X (fun _ : FS => True) (fun E q t => K (.inl E, q) ∧ kPost D (va_A (wF cy ad hh aa pa u) sz) (wF cy ad hh aa pa q) t) (va_A (wF cy ad hh aa pa u) sz)) 1 6 (va_A (wF cy ad hh aa pa u) sz) := by
  intro K h1
  refine vx_ofW (cc := cX9_restore) (maxL := 3) (ret := none) (by decide) rfl ?_
  intro p e s m args below meth c s₁ B hml hex hv
  obtain ⟨rfl, ⟨hsz, hP, hK, hD0⟩, hZ⟩ := hv
  subst hsz
  have E : mE D cy RX9 cX9_restore 3 none wsX9_restore (va_A (wF cy ad hh aa pa u) s.heap.size) p s m _ meth c := ⟨B.exec, B.bytes, B.returns, hml, findClass_of_methodNamed B.named, atoms_spec (ws := wsX9_restore) B.pre, B.notSynchronized, hK, fun q h => Or.inr h⟩
  have hl := lv_entry ([.ref (ad 0), .int p1]) (n := 3) (Nat.le_of_ble_eq_true rfl)
  rw [lg_entry_eq]
  generalize (lg_sl ([.ref (ad 0), .int p1]) ++ List.replicate (3 - (lg_sl ([.ref (ad 0), .int p1])).length) Slot.unset).toArray = ls at hl ⊢
  exact tX9_restore_b0 K E hfl hex hZ p1 u _ _ _ hl hP hD0.self va_S.rf h1
