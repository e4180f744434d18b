-- truncateText
theorem hlX9_truncateText : yX9_truncateText.cls = RX9 ∧ yX9_truncateText.cls ≠ "java/lang/invoke/MethodHandle" ∧ yX9_truncateText.cls ≠ "java/lang/invoke/VarHandle" ∧ (parseMethodDescriptor yX9_truncateText.desc).map (fun d => d.parameters.length) = some 1 := by decide +kernel
abbrev rmL_truncateText : Room := { frames := 8, cells := 1, slots := 6, locals := 180 }
set_option maxHeartbeats 4000000 in
set_option maxRecDepth 100000 in
theorem cL_truncateTextM (l : Launch) (hfl : l.stackTraces = false) (D : va_G) (cy : Nat → ClassId) (za zv : Nat → Nat) (ad hh : Nat → Nat) (aa : Nat → Nat → Nat) (pa : Nat → Nat) (ho : Nat) (sz : Nat) (u : FS) (f : Nat → Int64) (p1 : Int32) (K : Int32 → FS × (Nat → Int64) → Prop) (h1 : Ok (fX9_truncateText p1 u) (lhK1 "java/lang/IllegalArgumentException" f K)) : vx_Met l yL_truncateText wsL_truncateText rmL_truncateText (va_Pc [.ref (ad 0), .int p1, .ref ho] (kPreL D cy za zv sz (wFO cy ad hh aa pa ho (u, f)))) (va_Qi K (fun q => kPost D (va_A (wFO cy ad hh aa pa ho (u, f)) sz) (wFO cy ad hh aa pa ho q)) (va_A (wFO cy ad hh aa pa ho (u, f)) sz)) (vx_X (fun _ : Unit => False) (fun _ _ _ => False) (va_A (wFO cy ad hh aa pa ho (u, f)) sz)) 1 6 (va_A (wFO cy ad hh aa pa ho (u, f)) sz) := by
  refine vx_ofWH (cc := cL_truncateText) (maxL := 4) (ret := some .int) (hh := [(0, 9, 12, 18)]) (by decide) rfl ?_
  intro p e s m args below meth c s₁ B hml hv
  obtain ⟨rfl, ⟨⟨hsz, hP, hK, hD0⟩, hZ⟩, hN⟩ := hv
  subst hsz
  have hts := atoms_spec (ws := wsL_truncateText) B.pre
  have htab := vx_table (x := yL_appendText) B (hts _ List.mem_cons_self)
  have hx := B.exec
  have hb := B.bytes
  have hr := B.returns
  have hown : s.vm.findClass RL = some m.cls := findClass_of_methodNamed B.named
  have hlocks := B.notSynchronized
  have hD := hD0.self (sz := s.heap.size)
  have hA : ∀ q, s.heap.size ≤ q → va_A (wFO cy ad hh aa pa ho (u, f)) s.heap.size q := fun q h => Or.inr h
  generalize va_A (wFO cy ad hh aa pa ho (u, f)) s.heap.size = A at hZ hD hA ⊢
  have hS : va_S A s.heap s.heap [] := va_S.rf
  have hl := lv_entry ([.ref (ad 0), .int p1, .ref ho]) (n := 4) (Nat.le_of_ble_eq_true rfl)
  rw [lg_entry_eq]
  generalize (lg_sl ([.ref (ad 0), .int p1, .ref ho]) ++ List.replicate (4 - (lg_sl ([.ref (ad 0), .int p1, .ref ho])).length) Slot.unset).toArray = ls at hl ⊢
  have hl : lv_has ls 4 [(0, .ref (ad 0)), (1, .int p1), (2, .ref ho)] := hl
  refine lv_aload_n hx hb dL_truncateText_0 rfl (lv_at hl 2 rfl) ?_
  refine lv_iconst (v := 0) hx hb dL_truncateText_1 rfl ?_
  refine lv_aload_n hx hb dL_truncateText_2 rfl (lv_at hl 0 rfl) ?_
  refine lv_iload_n hx hb dL_truncateText_3 rfl (lv_at hl 1 rfl) ?_
  refine lc_xV (mk := wF cy ad hh aa pa) (b := (ad 0)) (As := [.int p1]) (rest := [.int 0, .ref ho]) h1 ⟨hx, hb, hml, hown, hts⟩ (cX9_truncateTextM l hfl D cy za zv ad hh aa pa s.heap.size u p1) (cwV 1 hts gL_truncateText_X9_truncateText rfl rfl rfl hlX9_truncateText ⟨Nat.le_of_ble_eq_true rfl, Nat.le_of_ble_eq_true rfl⟩) hZ hK (pFO cy ad hh aa pa ho u f) hP hD hS hA (q0 := 0) (wF_c0 _ _ _ _ _ _) rfl rfl hl.1 rfl (Nat.le_of_ble_eq_true rfl) dL_truncateText_4 ⟨Nat.le_of_ble_eq_true rfl, Nat.le_of_ble_eq_true rfl⟩ (fun E v H locs ce q9 h1 hP hD hS hce hcv hcl => ?_) (fun r v H locs h1 hP hD hS => ?_)
  · replace hP := kP_perm (pFO cy ad hh aa pa ho v f).symm hP
    replace hD := kD_perm (pFO cy ad hh aa pa ho v f).symm hD
    obtain ⟨hE, h1⟩ := h1
    replace hE : E = "java/lang/IllegalArgumentException" := hE
    subst hE
    refine vx_catch hown [] ⟨0, 9, 12, 18⟩ [] htab (fun z hz => absurd hz List.not_mem_nil) rfl (by decide) (hts _ (List.mem_of_getElem? (i := 1) rfl)) (hZ.cast (E := "java/lang/IllegalArgumentException") (by decide) _ List.mem_cons_self) hce hcv hcl ?_
    refine lv_astore_n (lv' := [(3, .ref q9), (0, .ref (ad 0)), (1, .int p1), (2, .ref ho)]) hx hb dL_truncateText_12 rfl hl (by decide) rfl (fun ls hl => ?_)
    refine lv_iconst (v := 1) hx hb dL_truncateText_13 rfl ?_
    exact lh_ret (mk := wFO cy ad hh aa pa ho) (u := (v, f)) hx hb hr hlocks hP hD hS h1 (by decide) (by decide) dL_truncateText_14
  · replace hP := kP_perm (pFO cy ad hh aa pa ho v f).symm hP
    replace hD := kD_perm (pFO cy ad hh aa pa ho v f).symm hD
    refine lv_i2l (v := r.toInt64) hx hb dL_truncateText_7 rfl ?_
    refine va_last (ws := wFO cy ad hh aa pa ho (v, f)) (cA := cy 3) (n := 1) (f := f) hx hb hK.1 hP hD hS 0 3 rfl rfl (inb_vp (by decide)) dL_truncateText_8 (fun H locs hP hD hS => ?_)
    replace hP : va_P D vwCl (wFO cy ad hh aa pa ho (v, vp_updL f (Int32.toNatClampNeg 0) r.toInt64)) H := hP
    replace hD : va_D A (wFO cy ad hh aa pa ho (v, vp_updL f (Int32.toNatClampNeg 0) r.toInt64)) := hD
    refine lv_goto (tgt := 15) hx hb dL_truncateText_9 (by decide) ?_
    refine lv_iconst (v := 0) hx hb dL_truncateText_15 rfl ?_
    exact lh_ret (mk := wFO cy ad hh aa pa ho) (u := (v, vp_updL f (Int32.toNatClampNeg 0) r.toInt64)) hx hb hr hlocks hP hD hS h1 (by decide) (by decide) dL_truncateText_16
-- count
theorem hlX9_count : yX9_count.cls = RX9 ∧ yX9_count.cls ≠ "java/lang/invoke/MethodHandle" ∧ yX9_count.cls ≠ "java/lang/invoke/VarHandle" ∧ (parseMethodDescriptor yX9_count.desc).map (fun d => d.parameters.length) = some 1 := by decide +kernel
abbrev rmL_count : Room := { frames := 8, cells := 1, slots := 6, locals := 180 }
set_option maxHeartbeats 4000000 in
set_option maxRecDepth 100000 in
theorem cL_countM (l : Launch) (hfl : l.stackTraces = false) (D : va_G) (cy : Nat → ClassId) (za zv : Nat → Nat) (ad hh : Nat → Nat) (aa : Nat → Nat → Nat) (pa : Nat → Nat) (ho : Nat) (sz : Nat) (u : FS) (f : Nat → Int64) (p1 : Int32) (K : Int32 → FS × (Nat → Int64) → Prop) (h1 : Ok (fX9_count p1 u) (lhK1 "java/lang/IllegalArgumentException" f K)) : vx_Met l yL_count wsL_count rmL_count (va_Pc [.ref (ad 0), .int p1, .ref ho] (kPreL D cy za zv sz (wFO cy ad hh aa pa ho (u, f)))) (va_Qi K (fun q => kPost D (va_A (wFO cy ad hh aa pa ho (u, f)) sz) (wFO cy ad hh aa pa ho q)) (va_A (wFO cy ad hh aa pa ho (u, f)) sz)) (vx_X (fun _ : Unit => False) (fun _ _ _ => False) (va_A (wFO cy ad hh aa pa ho (u, f)) sz)) 1 6 (va_A (wFO cy ad hh aa pa ho (u, f)) sz) := by
  refine vx_ofWH (cc := cL_count) (maxL := 4) (ret := some .int) (hh := [(0, 9, 12, 18)]) (by decide) rfl ?_
  intro p e s m args below meth c s₁ B hml hv
  obtain ⟨rfl, ⟨⟨hsz, hP, hK, hD0⟩, hZ⟩, hN⟩ := hv
  subst hsz
  have hts := atoms_spec (ws := wsL_count) B.pre
  have htab := vx_table (x := yL_appendText) B (hts _ List.mem_cons_self)
  have hx := B.exec
  have hb := B.bytes
  have hr := B.returns
  have hown : s.vm.findClass RL = some m.cls := findClass_of_methodNamed B.named
  have hlocks := B.notSynchronized
  have hD := hD0.self (sz := s.heap.size)
  have hA : ∀ q, s.heap.size ≤ q → va_A (wFO cy ad hh aa pa ho (u, f)) s.heap.size q := fun q h => Or.inr h
  generalize va_A (wFO cy ad hh aa pa ho (u, f)) s.heap.size = A at hZ hD hA ⊢
  have hS : va_S A s.heap s.heap [] := va_S.rf
  have hl := lv_entry ([.ref (ad 0), .int p1, .ref ho]) (n := 4) (Nat.le_of_ble_eq_true rfl)
  rw [lg_entry_eq]
  generalize (lg_sl ([.ref (ad 0), .int p1, .ref ho]) ++ List.replicate (4 - (lg_sl ([.ref (ad 0), .int p1, .ref ho])).length) Slot.unset).toArray = ls at hl ⊢
  have hl : lv_has ls 4 [(0, .ref (ad 0)), (1, .int p1), (2, .ref ho)] := hl
  refine lv_aload_n hx hb dL_count_0 rfl (lv_at hl 2 rfl) ?_
  refine lv_iconst (v := 0) hx hb dL_count_1 rfl ?_
  refine lv_aload_n hx hb dL_count_2 rfl (lv_at hl 0 rfl) ?_
  refine lv_iload_n hx hb dL_count_3 rfl (lv_at hl 1 rfl) ?_
  refine lc_xV (mk := wF cy ad hh aa pa) (b := (ad 0)) (As := [.int p1]) (rest := [.int 0, .ref ho]) h1 ⟨hx, hb, hml, hown, hts⟩ (cX9_countM l hfl D cy za zv ad hh aa pa s.heap.size u p1) (cwV 1 hts gL_count_X9_count rfl rfl rfl hlX9_count ⟨Nat.le_of_ble_eq_true rfl, Nat.le_of_ble_eq_true rfl⟩) hZ hK (pFO cy ad hh aa pa ho u f) hP hD hS hA (q0 := 0) (wF_c0 _ _ _ _ _ _) rfl rfl hl.1 rfl (Nat.le_of_ble_eq_true rfl) dL_count_4 ⟨Nat.le_of_ble_eq_true rfl, Nat.le_of_ble_eq_true rfl⟩ (fun E v H locs ce q9 h1 hP hD hS hce hcv hcl => ?_) (fun r v H locs h1 hP hD hS => ?_)
  · replace hP := kP_perm (pFO cy ad hh aa pa ho v f).symm hP
    replace hD := kD_perm (pFO cy ad hh aa pa ho v f).symm hD
    obtain ⟨hE, h1⟩ := h1
    replace hE : E = "java/lang/IllegalArgumentException" := hE
    subst hE
    refine vx_catch hown [] ⟨0, 9, 12, 18⟩ [] htab (fun z hz => absurd hz List.not_mem_nil) rfl (by decide) (hts _ (List.mem_of_getElem? (i := 1) rfl)) (hZ.cast (E := "java/lang/IllegalArgumentException") (by decide) _ List.mem_cons_self) hce hcv hcl ?_
    refine lv_astore_n (lv' := [(3, .ref q9), (0, .ref (ad 0)), (1, .int p1), (2, .ref ho)]) hx hb dL_count_12 rfl hl (by decide) rfl (fun ls hl => ?_)
    refine lv_iconst (v := 1) hx hb dL_count_13 rfl ?_
    exact lh_ret (mk := wFO cy ad hh aa pa ho) (u := (v, f)) hx hb hr hlocks hP hD hS h1 (by decide) (by decide) dL_count_14
  · replace hP := kP_perm (pFO cy ad hh aa pa ho v f).symm hP
    replace hD := kD_perm (pFO cy ad hh aa pa ho v f).symm hD
    refine lv_i2l (v := r.toInt64) hx hb dL_count_7 rfl ?_
    refine va_last (ws := wFO cy ad hh aa pa ho (v, f)) (cA := cy 3) (n := 1) (f := f) hx hb hK.1 hP hD hS 0 3 rfl rfl (inb_vp (by decide)) dL_count_8 (fun H locs hP hD hS => ?_)
    replace hP : va_P D vwCl (wFO cy ad hh aa pa ho (v, vp_updL f (Int32.toNatClampNeg 0) r.toInt64)) H := hP
    replace hD : va_D A (wFO cy ad hh aa pa ho (v, vp_updL f (Int32.toNatClampNeg 0) r.toInt64)) := hD
    refine lv_goto (tgt := 15) hx hb dL_count_9 (by decide) ?_
    refine lv_iconst (v := 0) hx hb dL_count_15 rfl ?_
    exact lh_ret (mk := wFO cy ad hh aa pa ho) (u := (v, vp_updL f (Int32.toNatClampNeg 0) r.toInt64)) hx hb hr hlocks hP hD hS h1 (by decide) (by decide) dL_count_16
-- setting
theorem hlX9_setting : yX9_setting.cls = RX9 ∧ yX9_setting.cls ≠ "java/lang/invoke/MethodHandle" ∧ yX9_setting.cls ≠ "java/lang/invoke/VarHandle" ∧ (parseMethodDescriptor yX9_setting.desc).map (fun d => d.parameters.length) = some 1 := by decide +kernel
abbrev rmL_setting : Room := { frames := 8, cells := 1, slots := 6, locals := 180 }
set_option maxHeartbeats 4000000 in
set_option maxRecDepth 100000 in
theorem cL_settingM (l : Launch) (hfl : l.stackTraces = false) (D : va_G) (cy : Nat → ClassId) (za zv : Nat → Nat) (ad hh : Nat → Nat) (aa : Nat → Nat → Nat) (pa : Nat → Nat) (ho : Nat) (sz : Nat) (u : FS) (f : Nat → Int64) (p1 : Int32) (K : Int32 → FS × (Nat → Int64) → Prop) (h1 : Ok (fX9_setting p1 u) (lhK1 "java/lang/IllegalArgumentException" f K)) : vx_Met l yL_setting wsL_setting rmL_setting (va_Pc [.ref (ad 0), .int p1, .ref ho] (kPreL D cy za zv sz (wFO cy ad hh aa pa ho (u, f)))) (va_Qi K (fun q => kPost D (va_A (wFO cy ad hh aa pa ho (u, f)) sz) (wFO cy ad hh aa pa ho q)) (va_A (wFO cy ad hh aa pa ho (u, f)) sz)) (vx_X (fun _ : Unit => False) (fun _ _ _ => False) (va_A (wFO cy ad hh aa pa ho (u, f)) sz)) 1 6 (va_A (wFO cy ad hh aa pa ho (u, f)) sz) := by
  refine vx_ofWH (cc := cL_setting) (maxL := 4) (ret := some .int) (hh := [(0, 9, 12, 18)]) (by decide) rfl ?_
  intro p e s m args below meth c s₁ B hml hv
  obtain ⟨rfl, ⟨⟨hsz, hP, hK, hD0⟩, hZ⟩, hN⟩ := hv
  subst hsz
  have hts := atoms_spec (ws := wsL_setting) B.pre
  have htab := vx_table (x := yL_appendText) B (hts _ List.mem_cons_self)
  have hx := B.exec
  have hb := B.bytes
  have hr := B.returns
  have hown : s.vm.findClass RL = some m.cls := findClass_of_methodNamed B.named
  have hlocks := B.notSynchronized
  have hD := hD0.self (sz := s.heap.size)
  have hA : ∀ q, s.heap.size ≤ q → va_A (wFO cy ad hh aa pa ho (u, f)) s.heap.size q := fun q h => Or.inr h
  generalize va_A (wFO cy ad hh aa pa ho (u, f)) s.heap.size = A at hZ hD hA ⊢
  have hS : va_S A s.heap s.heap [] := va_S.rf
  have hl := lv_entry ([.ref (ad 0), .int p1, .ref ho]) (n := 4) (Nat.le_of_ble_eq_true rfl)
  rw [lg_entry_eq]
  generalize (lg_sl ([.ref (ad 0), .int p1, .ref ho]) ++ List.replicate (4 - (lg_sl ([.ref (ad 0), .int p1, .ref ho])).length) Slot.unset).toArray = ls at hl ⊢
  have hl : lv_has ls 4 [(0, .ref (ad 0)), (1, .int p1), (2, .ref ho)] := hl
  refine lv_aload_n hx hb dL_setting_0 rfl (lv_at hl 2 rfl) ?_
  refine lv_iconst (v := 0) hx hb dL_setting_1 rfl ?_
  refine lv_aload_n hx hb dL_setting_2 rfl (lv_at hl 0 rfl) ?_
  refine lv_iload_n hx hb dL_setting_3 rfl (lv_at hl 1 rfl) ?_
  refine lc_xV (mk := wF cy ad hh aa pa) (b := (ad 0)) (As := [.int p1]) (rest := [.int 0, .ref ho]) h1 ⟨hx, hb, hml, hown, hts⟩ (cX9_settingM l hfl D cy za zv ad hh aa pa s.heap.size u p1) (cwV 1 hts gL_setting_X9_setting rfl rfl rfl hlX9_setting ⟨Nat.le_of_ble_eq_true rfl, Nat.le_of_ble_eq_true rfl⟩) hZ hK (pFO cy ad hh aa pa ho u f) hP hD hS hA (q0 := 0) (wF_c0 _ _ _ _ _ _) rfl rfl hl.1 rfl (Nat.le_of_ble_eq_true rfl) dL_setting_4 ⟨Nat.le_of_ble_eq_true rfl, Nat.le_of_ble_eq_true rfl⟩ (fun E v H locs ce q9 h1 hP hD hS hce hcv hcl => ?_) (fun r v H locs h1 hP hD hS => ?_)
  · replace hP := kP_perm (pFO cy ad hh aa pa ho v f).symm hP
    replace hD := kD_perm (pFO cy ad hh aa pa ho v f).symm hD
    obtain ⟨hE, h1⟩ := h1
    replace hE : E = "java/lang/IllegalArgumentException" := hE
    subst hE
    refine vx_catch hown [] ⟨0, 9, 12, 18⟩ [] htab (fun z hz => absurd hz List.not_mem_nil) rfl (by decide) (hts _ (List.mem_of_getElem? (i := 1) rfl)) (hZ.cast (E := "java/lang/IllegalArgumentException") (by decide) _ List.mem_cons_self) hce hcv hcl ?_
    refine lv_astore_n (lv' := [(3, .ref q9), (0, .ref (ad 0)), (1, .int p1), (2, .ref ho)]) hx hb dL_setting_12 rfl hl (by decide) rfl (fun ls hl => ?_)
    refine lv_iconst (v := 1) hx hb dL_setting_13 rfl ?_
    exact lh_ret (mk := wFO cy ad hh aa pa ho) (u := (v, f)) hx hb hr hlocks hP hD hS h1 (by decide) (by decide) dL_setting_14
  · replace hP := kP_perm (pFO cy ad hh aa pa ho v f).symm hP
    replace hD := kD_perm (pFO cy ad hh aa pa ho v f).symm hD
    refine lv_i2l (v := r.toInt64) hx hb dL_setting_7 rfl ?_
    refine va_last (ws := wFO cy ad hh aa pa ho (v, f)) (cA := cy 3) (n := 1) (f := f) hx hb hK.1 hP hD hS 0 3 rfl rfl (inb_vp (by decide)) dL_setting_8 (fun H locs hP hD hS => ?_)
    replace hP : va_P D vwCl (wFO cy ad hh aa pa ho (v, vp_updL f (Int32.toNatClampNeg 0) r.toInt64)) H := hP
    replace hD : va_D A (wFO cy ad hh aa pa ho (v, vp_updL f (Int32.toNatClampNeg 0) r.toInt64)) := hD
    refine lv_goto (tgt := 15) hx hb dL_setting_9 (by decide) ?_
    refine lv_iconst (v := 0) hx hb dL_setting_15 rfl ?_
    exact lh_ret (mk := wFO cy ad hh aa pa ho) (u := (v, vp_updL f (Int32.toNatClampNeg 0) r.toInt64)) hx hb hr hlocks hP hD hS h1 (by decide) (by decide) dL_setting_16
-- car
theorem hlX9_car : yX9_car.cls = RX9 ∧ yX9_car.cls ≠ "java/lang/invoke/MethodHandle" ∧ yX9_car.cls ≠ "java/lang/invoke/VarHandle" ∧ (parseMethodDescriptor yX9_car.desc).map (fun d => d.parameters.length) = some 2 := by decide +kernel
abbrev rmL_car : Room := { frames := 8, cells := 1, slots := 6, locals := 180 }
set_option maxHeartbeats 4000000 in
set_option maxRecDepth 100000 in
theorem cL_carM (l : Launch) (hfl : l.stackTraces = false) (D : va_G) (cy : Nat → ClassId) (za zv : Nat → Nat) (ad hh : Nat → Nat) (aa : Nat → Nat → Nat) (pa : Nat → Nat) (ho : Nat) (sz : Nat) (u : FS) (f : Nat → Int64) (p1 : Int32) (p2 : Int32) (K : Int32 → FS × (Nat → Int64) → Prop) (h1 : Ok (fX9_car p1 p2 u) (lhK2 "java/lang/IndexOutOfBoundsException" "java/lang/IllegalArgumentException" f K)) : vx_Met l yL_car wsL_car rmL_car (va_Pc [.ref (ad 0), .int p1, .int p2, .ref ho] (kPreL D cy za zv sz (wFO cy ad hh aa pa ho (u, f)))) (va_Qi K (fun q => kPost D (va_A (wFO cy ad hh aa pa ho (u, f)) sz) (wFO cy ad hh aa pa ho q)) (va_A (wFO cy ad hh aa pa ho (u, f)) sz)) (vx_X (fun _ : Unit => False) (fun _ _ _ => False) (va_A (wFO cy ad hh aa pa ho (u, f)) sz)) 1 6 (va_A (wFO cy ad hh aa pa ho (u, f)) sz) := by
  refine vx_ofWH (cc := cL_car) (maxL := 5) (ret := some .int) (hh := [(0, 10, 13, 30), (0, 10, 17, 18)]) (by decide) rfl ?_
  intro p e s m args below meth c s₁ B hml hv
  obtain ⟨rfl, ⟨⟨hsz, hP, hK, hD0⟩, hZ⟩, hN⟩ := hv
  subst hsz
  have hts := atoms_spec (ws := wsL_car) B.pre
  have htab := vx_table (x := yL_appendText) B (hts _ List.mem_cons_self)
  have hx := B.exec
  have hb := B.bytes
  have hr := B.returns
  have hown : s.vm.findClass RL = some m.cls := findClass_of_methodNamed B.named
  have hlocks := B.notSynchronized
  have hD := hD0.self (sz := s.heap.size)
  have hA : ∀ q, s.heap.size ≤ q → va_A (wFO cy ad hh aa pa ho (u, f)) s.heap.size q := fun q h => Or.inr h
  generalize va_A (wFO cy ad hh aa pa ho (u, f)) s.heap.size = A at hZ hD hA ⊢
  have hS : va_S A s.heap s.heap [] := va_S.rf
  have hl := lv_entry ([.ref (ad 0), .int p1, .int p2, .ref ho]) (n := 5) (Nat.le_of_ble_eq_true rfl)
  rw [lg_entry_eq]
  generalize (lg_sl ([.ref (ad 0), .int p1, .int p2, .ref ho]) ++ List.replicate (5 - (lg_sl ([.ref (ad 0), .int p1, .int p2, .ref ho])).length) Slot.unset).toArray = ls at hl ⊢
  have hl : lv_has ls 5 [(0, .ref (ad 0)), (1, .int p1), (2, .int p2), (3, .ref ho)] := hl
  refine lv_aload_n hx hb dL_car_0 rfl (lv_at hl 3 rfl) ?_
  refine lv_iconst (v := 0) hx hb dL_car_1 rfl ?_
  refine lv_aload_n hx hb dL_car_2 rfl (lv_at hl 0 rfl) ?_
  refine lv_iload_n hx hb dL_car_3 rfl (lv_at hl 1 rfl) ?_
  refine lv_iload_n hx hb dL_car_4 rfl (lv_at hl 2 rfl) ?_
  refine lc_xV (mk := wF cy ad hh aa pa) (b := (ad 0)) (As := [.int p1, .int p2]) (rest := [.int 0, .ref ho]) h1 ⟨hx, hb, hml, hown, hts⟩ (cX9_carM l hfl D cy za zv ad hh aa pa s.heap.size u p1 p2) (cwV 2 hts gL_car_X9_car rfl rfl rfl hlX9_car ⟨Nat.le_of_ble_eq_true rfl, Nat.le_of_ble_eq_true rfl⟩) hZ hK (pFO cy ad hh aa pa ho u f) hP hD hS hA (q0 := 0) (wF_c0 _ _ _ _ _ _) rfl rfl hl.1 rfl (Nat.le_of_ble_eq_true rfl) dL_car_5 ⟨Nat.le_of_ble_eq_true rfl, Nat.le_of_ble_eq_true rfl⟩ (fun E v H locs ce q9 h1 hP hD hS hce hcv hcl => ?_) (fun r v H locs h1 hP hD hS => ?_)
  · replace hP := kP_perm (pFO cy ad hh aa pa ho v f).symm hP
    replace hD := kD_perm (pFO cy ad hh aa pa ho v f).symm hD
    rcases h1 with ⟨hE, h1⟩ | ⟨hE, h1⟩
    · replace hE : E = "java/lang/IndexOutOfBoundsException" := hE
      subst hE
      refine vx_catch hown [] ⟨0, 10, 13, 30⟩ [⟨0, 10, 17, 18⟩] htab (fun z hz => absurd hz List.not_mem_nil) rfl (by decide) (hts _ (List.mem_of_getElem? (i := 1) rfl)) (hZ.cast (E := "java/lang/IndexOutOfBoundsException") (by decide) _ List.mem_cons_self) hce hcv hcl ?_
      refine lv_astore (lv' := [(4, .ref q9), (0, .ref (ad 0)), (1, .int p1), (2, .int p2), (3, .ref ho)]) hx hb dL_car_13 hl (by decide) rfl (fun ls hl => ?_)
      refine lv_iconst (v := 1) hx hb dL_car_15 rfl ?_
      exact lh_ret (mk := wFO cy ad hh aa pa ho) (u := (v, f)) hx hb hr hlocks hP hD hS h1 (by decide) (by decide) dL_car_16
    · replace hE : E = "java/lang/IllegalArgumentException" := hE
      subst hE
      refine vx_catch hown [⟨0, 10, 13, 30⟩] ⟨0, 10, 17, 18⟩ [] htab (fun z hz => by cases List.mem_singleton.mp hz; exact Or.inr ⟨by decide, "java/lang/IndexOutOfBoundsException", hts _ (List.mem_of_getElem? (i := 1) rfl), hN.1⟩) rfl (by decide) (hts _ (List.mem_of_getElem? (i := 2) rfl)) (hZ.cast (E := "java/lang/IllegalArgumentException") (by decide) _ List.mem_cons_self) hce hcv hcl ?_
      refine lv_astore (lv' := [(4, .ref q9), (0, .ref (ad 0)), (1, .int p1), (2, .int p2), (3, .ref ho)]) hx hb dL_car_17 hl (by decide) rfl (fun ls hl => ?_)
      refine lv_iconst (v := 2) hx hb dL_car_19 rfl ?_
      exact lh_ret (mk := wFO cy ad hh aa pa ho) (u := (v, f)) hx hb hr hlocks hP hD hS h1 (by decide) (by decide) dL_car_20
  · replace hP := kP_perm (pFO cy ad hh aa pa ho v f).symm hP
    replace hD := kD_perm (pFO cy ad hh aa pa ho v f).symm hD
    refine lv_i2l (v := r.toInt64) hx hb dL_car_8 rfl ?_
    refine va_last (ws := wFO cy ad hh aa pa ho (v, f)) (cA := cy 3) (n := 1) (f := f) hx hb hK.1 hP hD hS 0 3 rfl rfl (inb_vp (by decide)) dL_car_9 (fun H locs hP hD hS => ?_)
    replace hP : va_P D vwCl (wFO cy ad hh aa pa ho (v, vp_updL f (Int32.toNatClampNeg 0) r.toInt64)) H := hP
    replace hD : va_D A (wFO cy ad hh aa pa ho (v, vp_updL f (Int32.toNatClampNeg 0) r.toInt64)) := hD
    refine lv_goto (tgt := 21) hx hb dL_car_10 (by decide) ?_
    refine lv_iconst (v := 0) hx hb dL_car_21 rfl ?_
    exact lh_ret (mk := wFO cy ad hh aa pa ho) (u := (v, vp_updL f (Int32.toNatClampNeg 0) r.toInt64)) hx hb hr hlocks hP hD hS h1 (by decide) (by decide) dL_car_22
-- standing
theorem hlX9_standing : yX9_standing.cls = RX9 ∧ yX9_standing.cls ≠ "java/lang/invoke/MethodHandle" ∧ yX9_standing.cls ≠ "java/lang/invoke/VarHandle" ∧ (parseMethodDescriptor yX9_standing.desc).map (fun d => d.parameters.length) = some 2 := by decide +kernel
abbrev rmL_standing : Room := { frames := 8, cells := 1, slots := 6, locals := 180 }
set_option maxHeartbeats 4000000 in
set_option maxRecDepth 100000 in
theorem cL_standingM (l : Launch) (hfl : l.stackTraces = false) (D : va_G) (cy : Nat → ClassId) (za zv : Nat → Nat) (ad hh : Nat → Nat) (aa : Nat → Nat → Nat) (pa : Nat → Nat) (ho : Nat) (sz : Nat) (u : FS) (f : Nat → Int64) (p1 : Int32) (p2 : Int32) (K : Int32 → FS × (Nat → Int64) → Prop) (h1 : Ok (fX9_standing p1 p2 u) (lhK1 "java/lang/IndexOutOfBoundsException" f K)) : vx_Met l yL_standing wsL_standing rmL_standing (va_Pc [.ref (ad 0), .int p1, .int p2, .ref ho] (kPreL D cy za zv sz (wFO cy ad hh aa pa ho (u, f)))) (va_Qi K (fun q => kPost D (va_A (wFO cy ad hh aa pa ho (u, f)) sz) (wFO cy ad hh aa pa ho q)) (va_A (wFO cy ad hh aa pa ho (u, f)) sz)) (vx_X (fun _ : Unit => False) (fun _ _ _ => False) (va_A (wFO cy ad hh aa pa ho (u, f)) sz)) 1 6 (va_A (wFO cy ad hh aa pa ho (u, f)) sz) := by
  refine vx_ofWH (cc := cL_standing) (maxL := 5) (ret := some .int) (hh := [(0, 10, 13, 30)]) (by decide) rfl ?_
  intro p e s m args below meth c s₁ B hml hv
  obtain ⟨rfl, ⟨⟨hsz, hP, hK, hD0⟩, hZ⟩, hN⟩ := hv
  subst hsz
  have hts := atoms_spec (ws := wsL_standing) B.pre
  have htab := vx_table (x := yL_appendText) B (hts _ List.mem_cons_self)
  have hx := B.exec
  have hb := B.bytes
  have hr := B.returns
  have hown : s.vm.findClass RL = some m.cls := findClass_of_methodNamed B.named
  have hlocks := B.notSynchronized
  have hD := hD0.self (sz := s.heap.size)
  have hA : ∀ q, s.heap.size ≤ q → va_A (wFO cy ad hh aa pa ho (u, f)) s.heap.size q := fun q h => Or.inr h
  generalize va_A (wFO cy ad hh aa pa ho (u, f)) s.heap.size = A at hZ hD hA ⊢
  have hS : va_S A s.heap s.heap [] := va_S.rf
  have hl := lv_entry ([.ref (ad 0), .int p1, .int p2, .ref ho]) (n := 5) (Nat.le_of_ble_eq_true rfl)
  rw [lg_entry_eq]
  generalize (lg_sl ([.ref (ad 0), .int p1, .int p2, .ref ho]) ++ List.replicate (5 - (lg_sl ([.ref (ad 0), .int p1, .int p2, .ref ho])).length) Slot.unset).toArray = ls at hl ⊢
  have hl : lv_has ls 5 [(0, .ref (ad 0)), (1, .int p1), (2, .int p2), (3, .ref ho)] := hl
  refine lv_aload_n hx hb dL_standing_0 rfl (lv_at hl 3 rfl) ?_
  refine lv_iconst (v := 0) hx hb dL_standing_1 rfl ?_
  refine lv_aload_n hx hb dL_standing_2 rfl (lv_at hl 0 rfl) ?_
  refine lv_iload_n hx hb dL_standing_3 rfl (lv_at hl 1 rfl) ?_
  refine lv_iload_n hx hb dL_standing_4 rfl (lv_at hl 2 rfl) ?_
  refine lc_xV (mk := wF cy ad hh aa pa) (b := (ad 0)) (As := [.int p1, .int p2]) (rest := [.int 0, .ref ho]) h1 ⟨hx, hb, hml, hown, hts⟩ (cX9_standingM l hfl D cy za zv ad hh aa pa s.heap.size u p1 p2) (cwV 2 hts gL_standing_X9_standing rfl rfl rfl hlX9_standing ⟨Nat.le_of_ble_eq_true rfl, Nat.le_of_ble_eq_true rfl⟩) hZ hK (pFO cy ad hh aa pa ho u f) hP hD hS hA (q0 := 0) (wF_c0 _ _ _ _ _ _) rfl rfl hl.1 rfl (Nat.le_of_ble_eq_true rfl) dL_standing_5 ⟨Nat.le_of_ble_eq_true rfl, Nat.le_of_ble_eq_true rfl⟩ (fun E v H locs ce q9 h1 hP hD hS hce hcv hcl => ?_) (fun r v H locs h1 hP hD hS => ?_)
  · replace hP := kP_perm (pFO cy ad hh aa pa ho v f).symm hP
    replace hD := kD_perm (pFO cy ad hh aa pa ho v f).symm hD
    obtain ⟨hE, h1⟩ := h1
    replace hE : E = "java/lang/IndexOutOfBoundsException" := hE
    subst hE
    refine vx_catch hown [] ⟨0, 10, 13, 30⟩ [] htab (fun z hz => absurd hz List.not_mem_nil) rfl (by decide) (hts _ (List.mem_of_getElem? (i := 1) rfl)) (hZ.cast (E := "java/lang/IndexOutOfBoundsException") (by decide) _ List.mem_cons_self) hce hcv hcl ?_
    refine lv_astore (lv' := [(4, .ref q9), (0, .ref (ad 0)), (1, .int p1), (2, .int p2), (3, .ref ho)]) hx hb dL_standing_13 hl (by decide) rfl (fun ls hl => ?_)
    refine lv_iconst (v := 1) hx hb dL_standing_15 rfl ?_
    exact lh_ret (mk := wFO cy ad hh aa pa ho) (u := (v, f)) hx hb hr hlocks hP hD hS h1 (by decide) (by decide) dL_standing_16
  · replace hP := kP_perm (pFO cy ad hh aa pa ho v f).symm hP
    replace hD := kD_perm (pFO cy ad hh aa pa ho v f).symm hD
    refine lv_i2l (v := r.toInt64) hx hb dL_standing_8 rfl ?_
    refine va_last (ws := wFO cy ad hh aa pa ho (v, f)) (cA := cy 3) (n := 1) (f := f) hx hb hK.1 hP hD hS 0 3 rfl rfl (inb_vp (by decide)) dL_standing_9 (fun H locs hP hD hS => ?_)
    replace hP : va_P D vwCl (wFO cy ad hh aa pa ho (v, vp_updL f (Int32.toNatClampNeg 0) r.toInt64)) H := hP
    replace hD : va_D A (wFO cy ad hh aa pa ho (v, vp_updL f (Int32.toNatClampNeg 0) r.toInt64)) := hD
    refine lv_goto (tgt := 17) hx hb dL_standing_10 (by decide) ?_
    refine lv_iconst (v := 0) hx hb dL_standing_17 rfl ?_
    exact lh_ret (mk := wFO cy ad hh aa pa ho) (u := (v, vp_updL f (Int32.toNatClampNeg 0) r.toInt64)) hx hb hr hlocks hP hD hS h1 (by decide) (by decide) dL_standing_18
-- lane
theorem hlX9_lane : yX9_lane.cls = RX9 ∧ yX9_lane.cls ≠ "java/lang/invoke/MethodHandle" ∧ yX9_lane.cls ≠ "java/lang/invoke/VarHandle" ∧ (parseMethodDescriptor yX9_lane.desc).map (fun d => d.parameters.length) = some 2 := by decide +kernel
abbrev rmL_lane : Room := { frames := 8, cells := 1, slots := 6, locals := 180 }
set_option maxHeartbeats 4000000 in
set_option maxRecDepth 100000 in
theorem cL_laneM (l : Launch) (hfl : l.stackTraces = false) (D : va_G) (cy : Nat → ClassId) (za zv : Nat → Nat) (ad hh : Nat → Nat) (aa : Nat → Nat → Nat) (pa : Nat → Nat) (ho : Nat) (sz : Nat) (u : FS) (f : Nat → Int64) (p1 : Int32) (p2 : Int32) (K : Int32 → FS × (Nat → Int64) → Prop) (h1 : Ok (fX9_lane p1 p2 u) (lhK1 "java/lang/IndexOutOfBoundsException" f K)) : vx_Met l yL_lane wsL_lane rmL_lane (va_Pc [.ref (ad 0), .int p1, .int p2, .ref ho] (kPreL D cy za zv sz (wFO cy ad hh aa pa ho (u, f)))) (va_Qi K (fun q => kPost D (va_A (wFO cy ad hh aa pa ho (u, f)) sz) (wFO cy ad hh aa pa ho q)) (va_A (wFO cy ad hh aa pa ho (u, f)) sz)) (vx_X (fun _ : Unit => False) (fun _ _ _ => False) (va_A (wFO cy ad hh aa pa ho (u, f)) sz)) 1 6 (va_A (wFO cy ad hh aa pa ho (u, f)) sz) := by
  refine vx_ofWH (cc := cL_lane) (maxL := 5) (ret := some .int) (hh := [(0, 10, 13, 30)]) (by decide) rfl ?_
  intro p e s m args below meth c s₁ B hml hv
  obtain ⟨rfl, ⟨⟨hsz, hP, hK, hD0⟩, hZ⟩, hN⟩ := hv
  subst hsz
  have hts := atoms_spec (ws := wsL_lane) B.pre
  have htab := vx_table (x := yL_appendText) B (hts _ List.mem_cons_self)
  have hx := B.exec
  have hb := B.bytes
  have hr := B.returns
  have hown : s.vm.findClass RL = some m.cls := findClass_of_methodNamed B.named
  have hlocks := B.notSynchronized
  have hD := hD0.self (sz := s.heap.size)
  have hA : ∀ q, s.heap.size ≤ q → va_A (wFO cy ad hh aa pa ho (u, f)) s.heap.size q := fun q h => Or.inr h
  generalize va_A (wFO cy ad hh aa pa ho (u, f)) s.heap.size = A at hZ hD hA ⊢
  have hS : va_S A s.heap s.heap [] := va_S.rf
  have hl := lv_entry ([.ref (ad 0), .int p1, .int p2, .ref ho]) (n := 5) (Nat.le_of_ble_eq_true rfl)
  rw [lg_entry_eq]
  generalize (lg_sl ([.ref (ad 0), .int p1, .int p2, .ref ho]) ++ List.replicate (5 - (lg_sl ([.ref (ad 0), .int p1, .int p2, .ref ho])).length) Slot.unset).toArray = ls at hl ⊢
  have hl : lv_has ls 5 [(0, .ref (ad 0)), (1, .int p1), (2, .int p2), (3, .ref ho)] := hl
  refine lv_aload_n hx hb dL_lane_0 rfl (lv_at hl 3 rfl) ?_
  refine lv_iconst (v := 0) hx hb dL_lane_1 rfl ?_
  refine lv_aload_n hx hb dL_lane_2 rfl (lv_at hl 0 rfl) ?_
  refine lv_iload_n hx hb dL_lane_3 rfl (lv_at hl 1 rfl) ?_
  refine lv_iload_n hx hb dL_lane_4 rfl (lv_at hl 2 rfl) ?_
  refine lc_xV (mk := wF cy ad hh aa pa) (b := (ad 0)) (As := [.int p1, .int p2]) (rest := [.int 0, .ref ho]) h1 ⟨hx, hb, hml, hown, hts⟩ (cX9_laneM l hfl D cy za zv ad hh aa pa s.heap.size u p1 p2) (cwV 2 hts gL_lane_X9_lane rfl rfl rfl hlX9_lane ⟨Nat.le_of_ble_eq_true rfl, Nat.le_of_ble_eq_true rfl⟩) hZ hK (pFO cy ad hh aa pa ho u f) hP hD hS hA (q0 := 0) (wF_c0 _ _ _ _ _ _) rfl rfl hl.1 rfl (Nat.le_of_ble_eq_true rfl) dL_lane_5 ⟨Nat.le_of_ble_eq_true rfl, Nat.le_of_ble_eq_true rfl⟩ (fun E v H locs ce q9 h1 hP hD hS hce hcv hcl => ?_) (fun r v H locs h1 hP hD hS => ?_)
  · replace hP := kP_perm (pFO cy ad hh aa pa ho v f).symm hP
    replace hD := kD_perm (pFO cy ad hh aa pa ho v f).symm hD
    obtain ⟨hE, h1⟩ := h1
    replace hE : E = "java/lang/IndexOutOfBoundsException" := hE
    subst hE
    refine vx_catch hown [] ⟨0, 10, 13, 30⟩ [] htab (fun z hz => absurd hz List.not_mem_nil) rfl (by decide) (hts _ (List.mem_of_getElem? (i := 1) rfl)) (hZ.cast (E := "java/lang/IndexOutOfBoundsException") (by decide) _ List.mem_cons_self) hce hcv hcl ?_
    refine lv_astore (lv' := [(4, .ref q9), (0, .ref (ad 0)), (1, .int p1), (2, .int p2), (3, .ref ho)]) hx hb dL_lane_13 hl (by decide) rfl (fun ls hl => ?_)
    refine lv_iconst (v := 1) hx hb dL_lane_15 rfl ?_
    exact lh_ret (mk := wFO cy ad hh aa pa ho) (u := (v, f)) hx hb hr hlocks hP hD hS h1 (by decide) (by decide) dL_lane_16
  · replace hP := kP_perm (pFO cy ad hh aa pa ho v f).symm hP
    replace hD := kD_perm (pFO cy ad hh aa pa ho v f).symm hD
    refine lv_i2l (v := r.toInt64) hx hb dL_lane_8 rfl ?_
    refine va_last (ws := wFO cy ad hh aa pa ho (v, f)) (cA := cy 3) (n := 1) (f := f) hx hb hK.1 hP hD hS 0 3 rfl rfl (inb_vp (by decide)) dL_lane_9 (fun H locs hP hD hS => ?_)
    replace hP : va_P D vwCl (wFO cy ad hh aa pa ho (v, vp_updL f (Int32.toNatClampNeg 0) r.toInt64)) H := hP
    replace hD : va_D A (wFO cy ad hh aa pa ho (v, vp_updL f (Int32.toNatClampNeg 0) r.toInt64)) := hD
    refine lv_goto (tgt := 17) hx hb dL_lane_10 (by decide) ?_
    refine lv_iconst (v := 0) hx hb dL_lane_17 rfl ?_
    exact lh_ret (mk := wFO cy ad hh aa pa ho) (u := (v, vp_updL f (Int32.toNatClampNeg 0) r.toInt64)) hx hb hr hlocks hP hD hS h1 (by decide) (by decide) dL_lane_18
-- call
theorem hlX9_call : yX9_call.cls = RX9 ∧ yX9_call.cls ≠ "java/lang/invoke/MethodHandle" ∧ yX9_call.cls ≠ "java/lang/invoke/VarHandle" ∧ (parseMethodDescriptor yX9_call.desc).map (fun d => d.parameters.length) = some 2 := by decide +kernel
abbrev rmL_call : Room := { frames := 8, cells := 1, slots := 6, locals := 180 }
set_option maxHeartbeats 4000000 in
set_option maxRecDepth 100000 in
theorem cL_callM (l : Launch) (hfl : l.stackTraces = false) (D : va_G) (cy : Nat → ClassId) (za zv : Nat → Nat) (ad hh : Nat → Nat) (aa : Nat → Nat → Nat) (pa : Nat → Nat) (ho : Nat) (sz : Nat) (u : FS) (f : Nat → Int64) (p1 : Int32) (p2 : Int32) (K : Int32 → FS × (Nat → Int64) → Prop) (h1 : Ok (fX9_call p1 p2 u) (lhK2 "java/lang/IndexOutOfBoundsException" "java/lang/IllegalArgumentException" f K)) : vx_Met l yL_call wsL_call rmL_call (va_Pc [.ref (ad 0), .int p1, .int p2, .ref ho] (kPreL D cy za zv sz (wFO cy ad hh aa pa ho (u, f)))) (va_Qi K (fun q => kPost D (va_A (wFO cy ad hh aa pa ho (u, f)) sz) (wFO cy ad hh aa pa ho q)) (va_A (wFO cy ad hh aa pa ho (u, f)) sz)) (vx_X (fun _ : Unit => False) (fun _ _ _ => False) (va_A (wFO cy ad hh aa pa ho (u, f)) sz)) 1 6 (va_A (wFO cy ad hh aa pa ho (u, f)) sz) := by
  refine vx_ofWH (cc := cL_call) (maxL := 5) (ret := some .int) (hh := [(0, 10, 13, 30), (0, 10, 17, 18)]) (by decide) rfl ?_
  intro p e s m args below meth c s₁ B hml hv
  obtain ⟨rfl, ⟨⟨hsz, hP, hK, hD0⟩, hZ⟩, hN⟩ := hv
  subst hsz
  have hts := atoms_spec (ws := wsL_call) B.pre
  have htab := vx_table (x := yL_appendText) B (hts _ List.mem_cons_self)
  have hx := B.exec
  have hb := B.bytes
  have hr := B.returns
  have hown : s.vm.findClass RL = some m.cls := findClass_of_methodNamed B.named
  have hlocks := B.notSynchronized
  have hD := hD0.self (sz := s.heap.size)
  have hA : ∀ q, s.heap.size ≤ q → va_A (wFO cy ad hh aa pa ho (u, f)) s.heap.size q := fun q h => Or.inr h
  generalize va_A (wFO cy ad hh aa pa ho (u, f)) s.heap.size = A at hZ hD hA ⊢
  have hS : va_S A s.heap s.heap [] := va_S.rf
  have hl := lv_entry ([.ref (ad 0), .int p1, .int p2, .ref ho]) (n := 5) (Nat.le_of_ble_eq_true rfl)
  rw [lg_entry_eq]
  generalize (lg_sl ([.ref (ad 0), .int p1, .int p2, .ref ho]) ++ List.replicate (5 - (lg_sl ([.ref (ad 0), .int p1, .int p2, .ref ho])).length) Slot.unset).toArray = ls at hl ⊢
  have hl : lv_has ls 5 [(0, .ref (ad 0)), (1, .int p1), (2, .int p2), (3, .ref ho)] := hl
  refine lv_aload_n hx hb dL_call_0 rfl (lv_at hl 3 rfl) ?_
  refine lv_iconst (v := 0) hx hb dL_call_1 rfl ?_
  refine lv_aload_n hx hb dL_call_2 rfl (lv_at hl 0 rfl) ?_
  refine lv_iload_n hx hb dL_call_3 rfl (lv_at hl 1 rfl) ?_
  refine lv_iload_n hx hb dL_call_4 rfl (lv_at hl 2 rfl) ?_
  refine lc_xV (mk := wF cy ad hh aa pa) (b := (ad 0)) (As := [.int p1, .int p2]) (rest := [.int 0, .ref ho]) h1 ⟨hx, hb, hml, hown, hts⟩ (cX9_callM l hfl D cy za zv ad hh aa pa s.heap.size u p1 p2) (cwV 2 hts gL_call_X9_call rfl rfl rfl hlX9_call ⟨Nat.le_of_ble_eq_true rfl, Nat.le_of_ble_eq_true rfl⟩) hZ hK (pFO cy ad hh aa pa ho u f) hP hD hS hA (q0 := 0) (wF_c0 _ _ _ _ _ _) rfl rfl hl.1 rfl (Nat.le_of_ble_eq_true rfl) dL_call_5 ⟨Nat.le_of_ble_eq_true rfl, Nat.le_of_ble_eq_true rfl⟩ (fun E v H locs ce q9 h1 hP hD hS hce hcv hcl => ?_) (fun r v H locs h1 hP hD hS => ?_)
  · replace hP := kP_perm (pFO cy ad hh aa pa ho v f).symm hP
    replace hD := kD_perm (pFO cy ad hh aa pa ho v f).symm hD
    rcases h1 with ⟨hE, h1⟩ | ⟨hE, h1⟩
    · replace hE : E = "java/lang/IndexOutOfBoundsException" := hE
      subst hE
      refine vx_catch hown [] ⟨0, 10, 13, 30⟩ [⟨0, 10, 17, 18⟩] htab (fun z hz => absurd hz List.not_mem_nil) rfl (by decide) (hts _ (List.mem_of_getElem? (i := 1) rfl)) (hZ.cast (E := "java/lang/IndexOutOfBoundsException") (by decide) _ List.mem_cons_self) hce hcv hcl ?_
      refine lv_astore (lv' := [(4, .ref q9), (0, .ref (ad 0)), (1, .int p1), (2, .int p2), (3, .ref ho)]) hx hb dL_call_13 hl (by decide) rfl (fun ls hl => ?_)
      refine lv_iconst (v := 1) hx hb dL_call_15 rfl ?_
      exact lh_ret (mk := wFO cy ad hh aa pa ho) (u := (v, f)) hx hb hr hlocks hP hD hS h1 (by decide) (by decide) dL_call_16
    · replace hE : E = "java/lang/IllegalArgumentException" := hE
      subst hE
      refine vx_catch hown [⟨0, 10, 13, 30⟩] ⟨0, 10, 17, 18⟩ [] htab (fun z hz => by cases List.mem_singleton.mp hz; exact Or.inr ⟨by decide, "java/lang/IndexOutOfBoundsException", hts _ (List.mem_of_getElem? (i := 1) rfl), hN.1⟩) rfl (by decide) (hts _ (List.mem_of_getElem? (i := 2) rfl)) (hZ.cast (E := "java/lang/IllegalArgumentException") (by decide) _ List.mem_cons_self) hce hcv hcl ?_
      refine lv_astore (lv' := [(4, .ref q9), (0, .ref (ad 0)), (1, .int p1), (2, .int p2), (3, .ref ho)]) hx hb dL_call_17 hl (by decide) rfl (fun ls hl => ?_)
      refine lv_iconst (v := 2) hx hb dL_call_19 rfl ?_
      exact lh_ret (mk := wFO cy ad hh aa pa ho) (u := (v, f)) hx hb hr hlocks hP hD hS h1 (by decide) (by decide) dL_call_20
  · replace hP := kP_perm (pFO cy ad hh aa pa ho v f).symm hP
    replace hD := kD_perm (pFO cy ad hh aa pa ho v f).symm hD
    refine lv_i2l (v := r.toInt64) hx hb dL_call_8 rfl ?_
    refine va_last (ws := wFO cy ad hh aa pa ho (v, f)) (cA := cy 3) (n := 1) (f := f) hx hb hK.1 hP hD hS 0 3 rfl rfl (inb_vp (by decide)) dL_call_9 (fun H locs hP hD hS => ?_)
    replace hP : va_P D vwCl (wFO cy ad hh aa pa ho (v, vp_updL f (Int32.toNatClampNeg 0) r.toInt64)) H := hP
    replace hD : va_D A (wFO cy ad hh aa pa ho (v, vp_updL f (Int32.toNatClampNeg 0) r.toInt64)) := hD
    refine lv_goto (tgt := 21) hx hb dL_call_10 (by decide) ?_
    refine lv_iconst (v := 0) hx hb dL_call_21 rfl ?_
    exact lh_ret (mk := wFO cy ad hh aa pa ho) (u := (v, vp_updL f (Int32.toNatClampNeg 0) r.toInt64)) hx hb hr hlocks hP hD hS h1 (by decide) (by decide) dL_call_22
-- account
theorem hlX9_account : yX9_account.cls = RX9 ∧ yX9_account.cls ≠ "java/lang/invoke/MethodHandle" ∧ yX9_account.cls ≠ "java/lang/invoke/VarHandle" ∧ (parseMethodDescriptor yX9_account.desc).map (fun d => d.parameters.length) = some 1 := by decide +kernel
abbrev rmL_account : Room := { frames := 8, cells := 1, slots := 6, locals := 180 }
set_option maxHeartbeats 4000000 in
set_option maxRecDepth 100000 in
theorem cL_accountM (l : Launch) (hfl : l.stackTraces = false) (D : va_G) (cy : Nat → ClassId) (za zv : Nat → Nat) (ad hh : Nat → Nat) (aa : Nat → Nat → Nat) (pa : Nat → Nat) (ho : Nat) (sz : Nat) (u : FS) (f : Nat → Int64) (p1 : Int32) (K : Int32 → FS × (Nat → Int64) → Prop) (h1 : Ok (fX9_account p1 u) (lhK1 "java/lang/IllegalArgumentException" f K)) : vx_Met l yL_account wsL_account rmL_account (va_Pc [.ref (ad 0), .int p1, .ref ho] (kPreL D cy za zv sz (wFO cy ad hh aa pa ho (u, f)))) (va_Qi K (fun q => kPost D (va_A (wFO cy ad hh aa pa ho (u, f)) sz) (wFO cy ad hh aa pa ho q)) (va_A (wFO cy ad hh aa pa ho (u, f)) sz)) (vx_X (fun _ : Unit => False) (fun _ _ _ => False) (va_A (wFO cy ad hh aa pa ho (u, f)) sz)) 1 6 (va_A (wFO cy ad hh aa pa ho (u, f)) sz) := by
  refine vx_ofWH (cc := cL_account) (maxL := 4) (ret := some .int) (hh := [(0, 9, 12, 18)]) (by decide) rfl ?_
  intro p e s m args below meth c s₁ B hml hv
  obtain ⟨rfl, ⟨⟨hsz, hP, hK, hD0⟩, hZ⟩, hN⟩ := hv
  subst hsz
  have hts := atoms_spec (ws := wsL_account) B.pre
  have htab := vx_table (x := yL_appendText) B (hts _ List.mem_cons_self)
  have hx := B.exec
  have hb := B.bytes
  have hr := B.returns
  have hown : s.vm.findClass RL = some m.cls := findClass_of_methodNamed B.named
  have hlocks := B.notSynchronized
  have hD := hD0.self (sz := s.heap.size)
  have hA : ∀ q, s.heap.size ≤ q → va_A (wFO cy ad hh aa pa ho (u, f)) s.heap.size q := fun q h => Or.inr h
  generalize va_A (wFO cy ad hh aa pa ho (u, f)) s.heap.size = A at hZ hD hA ⊢
  have hS : va_S A s.heap s.heap [] := va_S.rf
  have hl := lv_entry ([.ref (ad 0), .int p1, .ref ho]) (n := 4) (Nat.le_of_ble_eq_true rfl)
  rw [lg_entry_eq]
  generalize (lg_sl ([.ref (ad 0), .int p1, .ref ho]) ++ List.replicate (4 - (lg_sl ([.ref (ad 0), .int p1, .ref ho])).length) Slot.unset).toArray = ls at hl ⊢
  have hl : lv_has ls 4 [(0, .ref (ad 0)), (1, .int p1), (2, .ref ho)] := hl
  refine lv_aload_n hx hb dL_account_0 rfl (lv_at hl 2 rfl) ?_
  refine lv_iconst (v := 0) hx hb dL_account_1 rfl ?_
  refine lv_aload_n hx hb dL_account_2 rfl (lv_at hl 0 rfl) ?_
  refine lv_iload_n hx hb dL_account_3 rfl (lv_at hl 1 rfl) ?_
  refine lc_xV (mk := wF cy ad hh aa pa) (b := (ad 0)) (As := [.int p1]) (rest := [.int 0, .ref ho]) h1 ⟨hx, hb, hml, hown, hts⟩ (cX9_accountM l hfl D cy za zv ad hh aa pa s.heap.size u p1) (cwV 1 hts gL_account_X9_account rfl rfl rfl hlX9_account ⟨Nat.le_of_ble_eq_true rfl, Nat.le_of_ble_eq_true rfl⟩) hZ hK (pFO cy ad hh aa pa ho u f) hP hD hS hA (q0 := 0) (wF_c0 _ _ _ _ _ _) rfl rfl hl.1 rfl (Nat.le_of_ble_eq_true rfl) dL_account_4 ⟨Nat.le_of_ble_eq_true rfl, Nat.le_of_ble_eq_true rfl⟩ (fun E v H locs ce q9 h1 hP hD hS hce hcv hcl => ?_) (fun r v H locs h1 hP hD hS => ?_)
  · replace hP := kP_perm (pFO cy ad hh aa pa ho v f).symm hP
    replace hD := kD_perm (pFO cy ad hh aa pa ho v f).symm hD
    obtain ⟨hE, h1⟩ := h1
    replace hE : E = "java/lang/IllegalArgumentException" := hE
    subst hE
    refine vx_catch hown [] ⟨0, 9, 12, 18⟩ [] htab (fun z hz => absurd hz List.not_mem_nil) rfl (by decide) (hts _ (List.mem_of_getElem? (i := 1) rfl)) (hZ.cast (E := "java/lang/IllegalArgumentException") (by decide) _ List.mem_cons_self) hce hcv hcl ?_
    refine lv_astore_n (lv' := [(3, .ref q9), (0, .ref (ad 0)), (1, .int p1), (2, .ref ho)]) hx hb dL_account_12 rfl hl (by decide) rfl (fun ls hl => ?_)
    refine lv_iconst (v := 1) hx hb dL_account_13 rfl ?_
    exact lh_ret (mk := wFO cy ad hh aa pa ho) (u := (v, f)) hx hb hr hlocks hP hD hS h1 (by decide) (by decide) dL_account_14
  · replace hP := kP_perm (pFO cy ad hh aa pa ho v f).symm hP
    replace hD := kD_perm (pFO cy ad hh aa pa ho v f).symm hD
    refine lv_i2l (v := r.toInt64) hx hb dL_account_7 rfl ?_
    refine va_last (ws := wFO cy ad hh aa pa ho (v, f)) (cA := cy 3) (n := 1) (f := f) hx hb hK.1 hP hD hS 0 3 rfl rfl (inb_vp (by decide)) dL_account_8 (fun H locs hP hD hS => ?_)
    replace hP : va_P D vwCl (wFO cy ad hh aa pa ho (v, vp_updL f (Int32.toNatClampNeg 0) r.toInt64)) H := hP
    replace hD : va_D A (wFO cy ad hh aa pa ho (v, vp_updL f (Int32.toNatClampNeg 0) r.toInt64)) := hD
    refine lv_goto (tgt := 15) hx hb dL_account_9 (by decide) ?_
    refine lv_iconst (v := 0) hx hb dL_account_15 rfl ?_
    exact lh_ret (mk := wFO cy ad hh aa pa ho) (u := (v, vp_updL f (Int32.toNatClampNeg 0) r.toInt64)) hx hb hr hlocks hP hD hS h1 (by decide) (by decide) dL_account_16
-- tide
theorem hlX9_tide : yX9_tide.cls = RX9 ∧ yX9_tide.cls ≠ "java/lang/invoke/MethodHandle" ∧ yX9_tide.cls ≠ "java/lang/invoke/VarHandle" ∧ (parseMethodDescriptor yX9_tide.desc).map (fun d => d.parameters.length) = some 1 := by decide +kernel
abbrev rmL_tide : Room := { frames := 8, cells := 1, slots := 6, locals := 180 }
set_option maxHeartbeats 4000000 in
set_option maxRecDepth 100000 in
theorem cL_tideM (l : Launch) (hfl : l.stackTraces = false) (D : va_G) (cy : Nat → ClassId) (za zv : Nat → Nat) (ad hh : Nat → Nat) (aa : Nat → Nat → Nat) (pa : Nat → Nat) (ho : Nat) (sz : Nat) (u : FS) (f : Nat → Int64) (p1 : Int32) (K : Int32 → FS × (Nat → Int64) → Prop) (h1 : Ok (fX9_tide p1 u) (lhK1 "java/lang/IllegalArgumentException" f K)) : vx_Met l yL_tide wsL_tide rmL_tide (va_Pc [.ref (ad 0), .int p1, .ref ho] (kPreL D cy za zv sz (wFO cy ad hh aa pa ho (u, f)))) (va_Qi K (fun q => kPost D (va_A (wFO cy ad hh aa pa ho (u, f)) sz) (wFO cy ad hh aa pa ho q)) (va_A (wFO cy ad hh aa pa ho (u, f)) sz)) (vx_X (fun _ : Unit => False) (fun _ _ _ => False) (va_A (wFO cy ad hh aa pa ho (u, f)) sz)) 1 6 (va_A (wFO cy ad hh aa pa ho (u, f)) sz) := by
  refine vx_ofWH (cc := cL_tide) (maxL := 4) (ret := some .int) (hh := [(0, 9, 12, 18)]) (by decide) rfl ?_
  intro p e s m args below meth c s₁ B hml hv
  obtain ⟨rfl, ⟨⟨hsz, hP, hK, hD0⟩, hZ⟩, hN⟩ := hv
  subst hsz
  have hts := atoms_spec (ws := wsL_tide) B.pre
  have htab := vx_table (x := yL_appendText) B (hts _ List.mem_cons_self)
  have hx := B.exec
  have hb := B.bytes
  have hr := B.returns
  have hown : s.vm.findClass RL = some m.cls := findClass_of_methodNamed B.named
  have hlocks := B.notSynchronized
  have hD := hD0.self (sz := s.heap.size)
  have hA : ∀ q, s.heap.size ≤ q → va_A (wFO cy ad hh aa pa ho (u, f)) s.heap.size q := fun q h => Or.inr h
  generalize va_A (wFO cy ad hh aa pa ho (u, f)) s.heap.size = A at hZ hD hA ⊢
  have hS : va_S A s.heap s.heap [] := va_S.rf
  have hl := lv_entry ([.ref (ad 0), .int p1, .ref ho]) (n := 4) (Nat.le_of_ble_eq_true rfl)
  rw [lg_entry_eq]
  generalize (lg_sl ([.ref (ad 0), .int p1, .ref ho]) ++ List.replicate (4 - (lg_sl ([.ref (ad 0), .int p1, .ref ho])).length) Slot.unset).toArray = ls at hl ⊢
  have hl : lv_has ls 4 [(0, .ref (ad 0)), (1, .int p1), (2, .ref ho)] := hl
  refine lv_aload_n hx hb dL_tide_0 rfl (lv_at hl 2 rfl) ?_
  refine lv_iconst (v := 0) hx hb dL_tide_1 rfl ?_
  refine lv_aload_n hx hb dL_tide_2 rfl (lv_at hl 0 rfl) ?_
  refine lv_iload_n hx hb dL_tide_3 rfl (lv_at hl 1 rfl) ?_
  refine lc_xV (mk := wF cy ad hh aa pa) (b := (ad 0)) (As := [.int p1]) (rest := [.int 0, .ref ho]) h1 ⟨hx, hb, hml, hown, hts⟩ (cX9_tideM l hfl D cy za zv ad hh aa pa s.heap.size u p1) (cwV 1 hts gL_tide_X9_tide rfl rfl rfl hlX9_tide ⟨Nat.le_of_ble_eq_true rfl, Nat.le_of_ble_eq_true rfl⟩) hZ hK (pFO cy ad hh aa pa ho u f) hP hD hS hA (q0 := 0) (wF_c0 _ _ _ _ _ _) rfl rfl hl.1 rfl (Nat.le_of_ble_eq_true rfl) dL_tide_4 ⟨Nat.le_of_ble_eq_true rfl, Nat.le_of_ble_eq_true rfl⟩ (fun E v H locs ce q9 h1 hP hD hS hce hcv hcl => ?_) (fun r v H locs h1 hP hD hS => ?_)
  · replace hP := kP_perm (pFO cy ad hh aa pa ho v f).symm hP
    replace hD := kD_perm (pFO cy ad hh aa pa ho v f).symm hD
    obtain ⟨hE, h1⟩ := h1
    replace hE : E = "java/lang/IllegalArgumentException" := hE
    subst hE
    refine vx_catch hown [] ⟨0, 9, 12, 18⟩ [] htab (fun z hz => absurd hz List.not_mem_nil) rfl (by decide) (hts _ (List.mem_of_getElem? (i := 1) rfl)) (hZ.cast (E := "java/lang/IllegalArgumentException") (by decide) _ List.mem_cons_self) hce hcv hcl ?_
    refine lv_astore_n (lv' := [(3, .ref q9), (0, .ref (ad 0)), (1, .int p1), (2, .ref ho)]) hx hb dL_tide_12 rfl hl (by decide) rfl (fun ls hl => ?_)
    refine lv_iconst (v := 1) hx hb dL_tide_13 rfl ?_
    exact lh_ret (mk := wFO cy ad hh aa pa ho) (u := (v, f)) hx hb hr hlocks hP hD hS h1 (by decide) (by decide) dL_tide_14
  · replace hP := kP_perm (pFO cy ad hh aa pa ho v f).symm hP
    replace hD := kD_perm (pFO cy ad hh aa pa ho v f).symm hD
    refine lv_i2l (v := r.toInt64) hx hb dL_tide_7 rfl ?_
    refine va_last (ws := wFO cy ad hh aa pa ho (v, f)) (cA := cy 3) (n := 1) (f := f) hx hb hK.1 hP hD hS 0 3 rfl rfl (inb_vp (by decide)) dL_tide_8 (fun H locs hP hD hS => ?_)
    replace hP : va_P D vwCl (wFO cy ad hh aa pa ho (v, vp_updL f (Int32.toNatClampNeg 0) r.toInt64)) H := hP
    replace hD : va_D A (wFO cy ad hh aa pa ho (v, vp_updL f (Int32.toNatClampNeg 0) r.toInt64)) := hD
    refine lv_goto (tgt := 15) hx hb dL_tide_9 (by decide) ?_
    refine lv_iconst (v := 0) hx hb dL_tide_15 rfl ?_
    exact lh_ret (mk := wFO cy ad hh aa pa ho) (u := (v, vp_updL f (Int32.toNatClampNeg 0) r.toInt64)) hx hb hr hlocks hP hD hS h1 (by decide) (by decide) dL_tide_16
-- deck
theorem hlX9_deck : yX9_deck.cls = RX9 ∧ yX9_deck.cls ≠ "java/lang/invoke/MethodHandle" ∧ yX9_deck.cls ≠ "java/lang/invoke/VarHandle" ∧ (parseMethodDescriptor yX9_deck.desc).map (fun d => d.parameters.length) = some 1 := by decide +kernel
abbrev rmL_deck : Room := { frames := 8, cells := 1, slots := 6, locals := 180 }
set_option maxHeartbeats 4000000 in
set_option maxRecDepth 100000 in
theorem cL_deckM (l : Launch) (hfl : l.stackTraces = false) (D : va_G) (cy : Nat → ClassId) (za zv : Nat → Nat) (ad hh : Nat → Nat) (aa : Nat → Nat → Nat) (pa : Nat → Nat) (ho : Nat) (sz : Nat) (u : FS) (f : Nat → Int64) (p1 : Int32) (K : Int32 → FS × (Nat → Int64) → Prop) (h1 : Ok (fX9_deck p1 u) (lhK1 "java/lang/IllegalArgumentException" f K)) : vx_Met l yL_deck wsL_deck rmL_deck (va_Pc [.ref (ad 0), .int p1, .ref ho] (kPreL D cy za zv sz (wFO cy ad hh aa pa ho (u, f)))) (va_Qi K (fun q => kPost D (va_A (wFO cy ad hh aa pa ho (u, f)) sz) (wFO cy ad hh aa pa ho q)) (va_A (wFO cy ad hh aa pa ho (u, f)) sz)) (vx_X (fun _ : Unit => False) (fun _ _ _ => False) (va_A (wFO cy ad hh aa pa ho (u, f)) sz)) 1 6 (va_A (wFO cy ad hh aa pa ho (u, f)) sz) := by
  refine vx_ofWH (cc := cL_deck) (maxL := 4) (ret := some .int) (hh := [(0, 9, 12, 18)]) (by decide) rfl ?_
  intro p e s m args below meth c s₁ B hml hv
  obtain ⟨rfl, ⟨⟨hsz, hP, hK, hD0⟩, hZ⟩, hN⟩ := hv
  subst hsz
  have hts := atoms_spec (ws := wsL_deck) B.pre
  have htab := vx_table (x := yL_appendText) B (hts _ List.mem_cons_self)
  have hx := B.exec
  have hb := B.bytes
  have hr := B.returns
  have hown : s.vm.findClass RL = some m.cls := findClass_of_methodNamed B.named
  have hlocks := B.notSynchronized
  have hD := hD0.self (sz := s.heap.size)
  have hA : ∀ q, s.heap.size ≤ q → va_A (wFO cy ad hh aa pa ho (u, f)) s.heap.size q := fun q h => Or.inr h
  generalize va_A (wFO cy ad hh aa pa ho (u, f)) s.heap.size = A at hZ hD hA ⊢
  have hS : va_S A s.heap s.heap [] := va_S.rf
  have hl := lv_entry ([.ref (ad 0), .int p1, .ref ho]) (n := 4) (Nat.le_of_ble_eq_true rfl)
  rw [lg_entry_eq]
  generalize (lg_sl ([.ref (ad 0), .int p1, .ref ho]) ++ List.replicate (4 - (lg_sl ([.ref (ad 0), .int p1, .ref ho])).length) Slot.unset).toArray = ls at hl ⊢
  have hl : lv_has ls 4 [(0, .ref (ad 0)), (1, .int p1), (2, .ref ho)] := hl
  refine lv_aload_n hx hb dL_deck_0 rfl (lv_at hl 2 rfl) ?_
  refine lv_iconst (v := 0) hx hb dL_deck_1 rfl ?_
  refine lv_aload_n hx hb dL_deck_2 rfl (lv_at hl 0 rfl) ?_
  refine lv_iload_n hx hb dL_deck_3 rfl (lv_at hl 1 rfl) ?_
  refine lc_xV (mk := wF cy ad hh aa pa) (b := (ad 0)) (As := [.int p1]) (rest := [.int 0, .ref ho]) h1 ⟨hx, hb, hml, hown, hts⟩ (cX9_deckM l hfl D cy za zv ad hh aa pa s.heap.size u p1) (cwV 1 hts gL_deck_X9_deck rfl rfl rfl hlX9_deck ⟨Nat.le_of_ble_eq_true rfl, Nat.le_of_ble_eq_true rfl⟩) hZ hK (pFO cy ad hh aa pa ho u f) hP hD hS hA (q0 := 0) (wF_c0 _ _ _ _ _ _) rfl rfl hl.1 rfl (Nat.le_of_ble_eq_true rfl) dL_deck_4 ⟨Nat.le_of_ble_eq_true rfl, Nat.le_of_ble_eq_true rfl⟩ (fun E v H locs ce q9 h1 hP hD hS hce hcv hcl => ?_) (fun r v H locs h1 hP hD hS => ?_)
  · replace hP := kP_perm (pFO cy ad hh aa pa ho v f).symm hP
    replace hD := kD_perm (pFO cy ad hh aa pa ho v f).symm hD
    obtain ⟨hE, h1⟩ := h1
    replace hE : E = "java/lang/IllegalArgumentException" := hE
    subst hE
    refine vx_catch hown [] ⟨0, 9, 12, 18⟩ [] htab (fun z hz => absurd hz List.not_mem_nil) rfl (by decide) (hts _ (List.mem_of_getElem? (i := 1) rfl)) (hZ.cast (E := "java/lang/IllegalArgumentException") (by decide) _ List.mem_cons_self) hce hcv hcl ?_
    refine lv_astore_n (lv' := [(3, .ref q9), (0, .ref (ad 0)), (1, .int p1), (2, .ref ho)]) hx hb dL_deck_12 rfl hl (by decide) rfl (fun ls hl => ?_)
    refine lv_iconst (v := 1) hx hb dL_deck_13 rfl ?_
    exact lh_ret (mk := wFO cy ad hh aa pa ho) (u := (v, f)) hx hb hr hlocks hP hD hS h1 (by decide) (by decide) dL_deck_14
  · replace hP := kP_perm (pFO cy ad hh aa pa ho v f).symm hP
    replace hD := kD_perm (pFO cy ad hh aa pa ho v f).symm hD
    refine lv_i2l (v := r.toInt64) hx hb dL_deck_7 rfl ?_
    refine va_last (ws := wFO cy ad hh aa pa ho (v, f)) (cA := cy 3) (n := 1) (f := f) hx hb hK.1 hP hD hS 0 3 rfl rfl (inb_vp (by decide)) dL_deck_8 (fun H locs hP hD hS => ?_)
    replace hP : va_P D vwCl (wFO cy ad hh aa pa ho (v, vp_updL f (Int32.toNatClampNeg 0) r.toInt64)) H := hP
    replace hD : va_D A (wFO cy ad hh aa pa ho (v, vp_updL f (Int32.toNatClampNeg 0) r.toInt64)) := hD
    refine lv_goto (tgt := 15) hx hb dL_deck_9 (by decide) ?_
    refine lv_iconst (v := 0) hx hb dL_deck_15 rfl ?_
    exact lh_ret (mk := wFO cy ad hh aa pa ho) (u := (v, vp_updL f (Int32.toNatClampNeg 0) r.toInt64)) hx hb hr hlocks hP hD hS h1 (by decide) (by decide) dL_deck_16
-- whyNot
theorem hlX9_whyNot : yX9_whyNot.cls = RX9 ∧ yX9_whyNot.cls ≠ "java/lang/invoke/MethodHandle" ∧ yX9_whyNot.cls ≠ "java/lang/invoke/VarHandle" ∧ (parseMethodDescriptor yX9_whyNot.desc).map (fun d => d.parameters.length) = some 1 := by decide +kernel
abbrev rmL_whyNot : Room := { frames := 8, cells := 1, slots := 6, locals := 180 }
set_option maxHeartbeats 4000000 in
set_option maxRecDepth 100000 in
theorem cL_whyNotM (l : Launch) (hfl : l.stackTraces = false) (D : va_G) (cy : Nat → ClassId) (za zv : Nat → Nat) (ad hh : Nat → Nat) (aa : Nat → Nat → Nat) (pa : Nat → Nat) (ho : Nat) (sz : Nat) (u : FS) (f : Nat → Int64) (p1 : Int32) (K : Int32 → FS × (Nat → Int64) → Prop) (h1 : Ok (fX9_whyNot p1 u) (lhK1 "java/lang/IndexOutOfBoundsException" f K)) : vx_Met l yL_whyNot wsL_whyNot rmL_whyNot (va_Pc [.ref (ad 0), .int p1, .ref ho] (kPreL D cy za zv sz (wFO cy ad hh aa pa ho (u, f)))) (va_Qi K (fun q => kPost D (va_A (wFO cy ad hh aa pa ho (u, f)) sz) (wFO cy ad hh aa pa ho q)) (va_A (wFO cy ad hh aa pa ho (u, f)) sz)) (vx_X (fun _ : Unit => False) (fun _ _ _ => False) (va_A (wFO cy ad hh aa pa ho (u, f)) sz)) 1 6 (va_A (wFO cy ad hh aa pa ho (u, f)) sz) := by
  refine vx_ofWH (cc := cL_whyNot) (maxL := 4) (ret := some .int) (hh := [(0, 9, 12, 30)]) (by decide) rfl ?_
  intro p e s m args below meth c s₁ B hml hv
  obtain ⟨rfl, ⟨⟨hsz, hP, hK, hD0⟩, hZ⟩, hN⟩ := hv
  subst hsz
  have hts := atoms_spec (ws := wsL_whyNot) B.pre
  have htab := vx_table (x := yL_appendText) B (hts _ List.mem_cons_self)
  have hx := B.exec
  have hb := B.bytes
  have hr := B.returns
  have hown : s.vm.findClass RL = some m.cls := findClass_of_methodNamed B.named
  have hlocks := B.notSynchronized
  have hD := hD0.self (sz := s.heap.size)
  have hA : ∀ q, s.heap.size ≤ q → va_A (wFO cy ad hh aa pa ho (u, f)) s.heap.size q := fun q h => Or.inr h
  generalize va_A (wFO cy ad hh aa pa ho (u, f)) s.heap.size = A at hZ hD hA ⊢
  have hS : va_S A s.heap s.heap [] := va_S.rf
  have hl := lv_entry ([.ref (ad 0), .int p1, .ref ho]) (n := 4) (Nat.le_of_ble_eq_true rfl)
  rw [lg_entry_eq]
  generalize (lg_sl ([.ref (ad 0), .int p1, .ref ho]) ++ List.replicate (4 - (lg_sl ([.ref (ad 0), .int p1, .ref ho])).length) Slot.unset).toArray = ls at hl ⊢
  have hl : lv_has ls 4 [(0, .ref (ad 0)), (1, .int p1), (2, .ref ho)] := hl
  refine lv_aload_n hx hb dL_whyNot_0 rfl (lv_at hl 2 rfl) ?_
  refine lv_iconst (v := 0) hx hb dL_whyNot_1 rfl ?_
  refine lv_aload_n hx hb dL_whyNot_2 rfl (lv_at hl 0 rfl) ?_
  refine lv_iload_n hx hb dL_whyNot_3 rfl (lv_at hl 1 rfl) ?_
  refine lc_xV (mk := wF cy ad hh aa pa) (b := (ad 0)) (As := [.int p1]) (rest := [.int 0, .ref ho]) h1 ⟨hx, hb, hml, hown, hts⟩ (cX9_whyNotM l hfl D cy za zv ad hh aa pa s.heap.size u p1) (cwV 1 hts gL_whyNot_X9_whyNot rfl rfl rfl hlX9_whyNot ⟨Nat.le_of_ble_eq_true rfl, Nat.le_of_ble_eq_true rfl⟩) hZ hK (pFO cy ad hh aa pa ho u f) hP hD hS hA (q0 := 0) (wF_c0 _ _ _ _ _ _) rfl rfl hl.1 rfl (Nat.le_of_ble_eq_true rfl) dL_whyNot_4 ⟨Nat.le_of_ble_eq_true rfl, Nat.le_of_ble_eq_true rfl⟩ (fun E v H locs ce q9 h1 hP hD hS hce hcv hcl => ?_) (fun r v H locs h1 hP hD hS => ?_)
  · replace hP := kP_perm (pFO cy ad hh aa pa ho v f).symm hP
    replace hD := kD_perm (pFO cy ad hh aa pa ho v f).symm hD
    obtain ⟨hE, h1⟩ := h1
    replace hE : E = "java/lang/IndexOutOfBoundsException" := hE
    subst hE
    refine vx_catch hown [] ⟨0, 9, 12, 30⟩ [] htab (fun z hz => absurd hz List.not_mem_nil) rfl (by decide) (hts _ (List.mem_of_getElem? (i := 1) rfl)) (hZ.cast (E := "java/lang/IndexOutOfBoundsException") (by decide) _ List.mem_cons_self) hce hcv hcl ?_
    refine lv_astore_n (lv' := [(3, .ref q9), (0, .ref (ad 0)), (1, .int p1), (2, .ref ho)]) hx hb dL_whyNot_12 rfl hl (by decide) rfl (fun ls hl => ?_)
    refine lv_iconst (v := 1) hx hb dL_whyNot_13 rfl ?_
    exact lh_ret (mk := wFO cy ad hh aa pa ho) (u := (v, f)) hx hb hr hlocks hP hD hS h1 (by decide) (by decide) dL_whyNot_14
  · replace hP := kP_perm (pFO cy ad hh aa pa ho v f).symm hP
    replace hD := kD_perm (pFO cy ad hh aa pa ho v f).symm hD
    refine lv_i2l (v := r.toInt64) hx hb dL_whyNot_7 rfl ?_
    refine va_last (ws := wFO cy ad hh aa pa ho (v, f)) (cA := cy 3) (n := 1) (f := f) hx hb hK.1 hP hD hS 0 3 rfl rfl (inb_vp (by decide)) dL_whyNot_8 (fun H locs hP hD hS => ?_)
    replace hP : va_P D vwCl (wFO cy ad hh aa pa ho (v, vp_updL f (Int32.toNatClampNeg 0) r.toInt64)) H := hP
    replace hD : va_D A (wFO cy ad hh aa pa ho (v, vp_updL f (Int32.toNatClampNeg 0) r.toInt64)) := hD
    refine lv_goto (tgt := 15) hx hb dL_whyNot_9 (by decide) ?_
    refine lv_iconst (v := 0) hx hb dL_whyNot_15 rfl ?_
    exact lh_ret (mk := wFO cy ad hh aa pa ho) (u := (v, vp_updL f (Int32.toNatClampNeg 0) r.toInt64)) hx hb hr hlocks hP hD hS h1 (by decide) (by decide) dL_whyNot_16
-- laneFor
theorem hlX9_laneFor : yX9_laneFor.cls = RX9 ∧ yX9_laneFor.cls ≠ "java/lang/invoke/MethodHandle" ∧ yX9_laneFor.cls ≠ "java/lang/invoke/VarHandle" ∧ (parseMethodDescriptor yX9_laneFor.desc).map (fun d => d.parameters.length) = some 1 := by decide +kernel
abbrev rmL_laneFor : Room := { frames := 8, cells := 1, slots := 6, locals := 180 }
set_option maxHeartbeats 4000000 in
set_option maxRecDepth 100000 in
theorem cL_laneForM (l : Launch) (hfl : l.stackTraces = false) (D : va_G) (cy : Nat → ClassId) (za zv : Nat → Nat) (ad hh : Nat → Nat) (aa : Nat → Nat → Nat) (pa : Nat → Nat) (ho : Nat) (sz : Nat) (u : FS) (f : Nat → Int64) (p1 : Int32) (K : Int32 → FS × (Nat → Int64) → Prop) (h1 : Ok (fX9_laneFor p1 u) (lhK1 "java/lang/IndexOutOfBoundsException" f K)) : vx_Met l yL_laneFor wsL_laneFor rmL_laneFor (va_Pc [.ref (ad 0), .int p1, .ref ho] (kPreL D cy za zv sz (wFO cy ad hh aa pa ho (u, f)))) (va_Qi K (fun q => kPost D (va_A (wFO cy ad hh aa pa ho (u, f)) sz) (wFO cy ad hh aa pa ho q)) (va_A (wFO cy ad hh aa pa ho (u, f)) sz)) (vx_X (fun _ : Unit => False) (fun _ _ _ => False) (va_A (wFO cy ad hh aa pa ho (u, f)) sz)) 1 6 (va_A (wFO cy ad hh aa pa ho (u, f)) sz) := by
  refine vx_ofWH (cc := cL_laneFor) (maxL := 4) (ret := some .int) (hh := [(0, 9, 12, 30)]) (by decide) rfl ?_
  intro p e s m args below meth c s₁ B hml hv
  obtain ⟨rfl, ⟨⟨hsz, hP, hK, hD0⟩, hZ⟩, hN⟩ := hv
  subst hsz
  have hts := atoms_spec (ws := wsL_laneFor) B.pre
  have htab := vx_table (x := yL_appendText) B (hts _ List.mem_cons_self)
  have hx := B.exec
  have hb := B.bytes
  have hr := B.returns
  have hown : s.vm.findClass RL = some m.cls := findClass_of_methodNamed B.named
  have hlocks := B.notSynchronized
  have hD := hD0.self (sz := s.heap.size)
  have hA : ∀ q, s.heap.size ≤ q → va_A (wFO cy ad hh aa pa ho (u, f)) s.heap.size q := fun q h => Or.inr h
  generalize va_A (wFO cy ad hh aa pa ho (u, f)) s.heap.size = A at hZ hD hA ⊢
  have hS : va_S A s.heap s.heap [] := va_S.rf
  have hl := lv_entry ([.ref (ad 0), .int p1, .ref ho]) (n := 4) (Nat.le_of_ble_eq_true rfl)
  rw [lg_entry_eq]
  generalize (lg_sl ([.ref (ad 0), .int p1, .ref ho]) ++ List.replicate (4 - (lg_sl ([.ref (ad 0), .int p1, .ref ho])).length) Slot.unset).toArray = ls at hl ⊢
  have hl : lv_has ls 4 [(0, .ref (ad 0)), (1, .int p1), (2, .ref ho)] := hl
  refine lv_aload_n hx hb dL_laneFor_0 rfl (lv_at hl 2 rfl) ?_
  refine lv_iconst (v := 0) hx hb dL_laneFor_1 rfl ?_
  refine lv_aload_n hx hb dL_laneFor_2 rfl (lv_at hl 0 rfl) ?_
  refine lv_iload_n hx hb dL_laneFor_3 rfl (lv_at hl 1 rfl) ?_
  refine lc_xV (mk := wF cy ad hh aa pa) (b := (ad 0)) (As := [.int p1]) (rest := [.int 0, .ref ho]) h1 ⟨hx, hb, hml, hown, hts⟩ (cX9_laneForM l hfl D cy za zv ad hh aa pa s.heap.size u p1) (cwV 1 hts gL_laneFor_X9_laneFor rfl rfl rfl hlX9_laneFor ⟨Nat.le_of_ble_eq_true rfl, Nat.le_of_ble_eq_true rfl⟩) hZ hK (pFO cy ad hh aa pa ho u f) hP hD hS hA (q0 := 0) (wF_c0 _ _ _ _ _ _) rfl rfl hl.1 rfl (Nat.le_of_ble_eq_true rfl) dL_laneFor_4 ⟨Nat.le_of_ble_eq_true rfl, Nat.le_of_ble_eq_true rfl⟩ (fun E v H locs ce q9 h1 hP hD hS hce hcv hcl => ?_) (fun r v H locs h1 hP hD hS => ?_)
  · replace hP := kP_perm (pFO cy ad hh aa pa ho v f).symm hP
    replace hD := kD_perm (pFO cy ad hh aa pa ho v f).symm hD
    obtain ⟨hE, h1⟩ := h1
    replace hE : E = "java/lang/IndexOutOfBoundsException" := hE
    subst hE
    refine vx_catch hown [] ⟨0, 9, 12, 30⟩ [] htab (fun z hz => absurd hz List.not_mem_nil) rfl (by decide) (hts _ (List.mem_of_getElem? (i := 1) rfl)) (hZ.cast (E := "java/lang/IndexOutOfBoundsException") (by decide) _ List.mem_cons_self) hce hcv hcl ?_
    refine lv_astore_n (lv' := [(3, .ref q9), (0, .ref (ad 0)), (1, .int p1), (2, .ref ho)]) hx hb dL_laneFor_12 rfl hl (by decide) rfl (fun ls hl => ?_)
    refine lv_iconst (v := 1) hx hb dL_laneFor_13 rfl ?_
    exact lh_ret (mk := wFO cy ad hh aa pa ho) (u := (v, f)) hx hb hr hlocks hP hD hS h1 (by decide) (by decide) dL_laneFor_14
  · replace hP := kP_perm (pFO cy ad hh aa pa ho v f).symm hP
    replace hD := kD_perm (pFO cy ad hh aa pa ho v f).symm hD
    refine lv_i2l (v := r.toInt64) hx hb dL_laneFor_7 rfl ?_
    refine va_last (ws := wFO cy ad hh aa pa ho (v, f)) (cA := cy 3) (n := 1) (f := f) hx hb hK.1 hP hD hS 0 3 rfl rfl (inb_vp (by decide)) dL_laneFor_8 (fun H locs hP hD hS => ?_)
    replace hP : va_P D vwCl (wFO cy ad hh aa pa ho (v, vp_updL f (Int32.toNatClampNeg 0) r.toInt64)) H := hP
    replace hD : va_D A (wFO cy ad hh aa pa ho (v, vp_updL f (Int32.toNatClampNeg 0) r.toInt64)) := hD
    refine lv_goto (tgt := 15) hx hb dL_laneFor_9 (by decide) ?_
    refine lv_iconst (v := 0) hx hb dL_laneFor_15 rfl ?_
    exact lh_ret (mk := wFO cy ad hh aa pa ho) (u := (v, vp_updL f (Int32.toNatClampNeg 0) r.toInt64)) hx hb hr hlocks hP hD hS h1 (by decide) (by decide) dL_laneFor_16
-- boardIn
theorem hlX9_boardIn : yX9_boardIn.cls = RX9 ∧ yX9_boardIn.cls ≠ "java/lang/invoke/MethodHandle" ∧ yX9_boardIn.cls ≠ "java/lang/invoke/VarHandle" ∧ (parseMethodDescriptor yX9_boardIn.desc).map (fun d => d.parameters.length) = some 1 := by decide +kernel
abbrev rmL_boardIn : Room := { frames := 8, cells := 1, slots := 6, locals := 180 }
set_option maxHeartbeats 4000000 in
set_option maxRecDepth 100000 in
theorem cL_boardInM (l : Launch) (hfl : l.stackTraces = false) (D : va_G) (cy : Nat → ClassId) (za zv : Nat → Nat) (ad hh : Nat → Nat) (aa : Nat → Nat → Nat) (pa : Nat → Nat) (ho : Nat) (sz : Nat) (u : FS) (f : Nat → Int64) (p1 : Int32) (K : Int32 → FS × (Nat → Int64) → Prop) (h1 : Ok (fX9_boardIn p1 u) (lhK1 "java/lang/IllegalArgumentException" f K)) : vx_Met l yL_boardIn wsL_boardIn rmL_boardIn (va_Pc [.ref (ad 0), .int p1, .ref ho] (kPreL D cy za zv sz (wFO cy ad hh aa pa ho (u, f)))) (va_Qi K (fun q => kPost D (va_A (wFO cy ad hh aa pa ho (u, f)) sz) (wFO cy ad hh aa pa ho q)) (va_A (wFO cy ad hh aa pa ho (u, f)) sz)) (vx_X (fun _ : Unit => False) (fun _ _ _ => False) (va_A (wFO cy ad hh aa pa ho (u, f)) sz)) 1 6 (va_A (wFO cy ad hh aa pa ho (u, f)) sz) := by
  refine vx_ofWH (cc := cL_boardIn) (maxL := 4) (ret := some .int) (hh := [(0, 9, 12, 18)]) (by decide) rfl ?_
  intro p e s m args below meth c s₁ B hml hv
  obtain ⟨rfl, ⟨⟨hsz, hP, hK, hD0⟩, hZ⟩, hN⟩ := hv
  subst hsz
  have hts := atoms_spec (ws := wsL_boardIn) B.pre
  have htab := vx_table (x := yL_appendText) B (hts _ List.mem_cons_self)
  have hx := B.exec
  have hb := B.bytes
  have hr := B.returns
  have hown : s.vm.findClass RL = some m.cls := findClass_of_methodNamed B.named
  have hlocks := B.notSynchronized
  have hD := hD0.self (sz := s.heap.size)
  have hA : ∀ q, s.heap.size ≤ q → va_A (wFO cy ad hh aa pa ho (u, f)) s.heap.size q := fun q h => Or.inr h
  generalize va_A (wFO cy ad hh aa pa ho (u, f)) s.heap.size = A at hZ hD hA ⊢
  have hS : va_S A s.heap s.heap [] := va_S.rf
  have hl := lv_entry ([.ref (ad 0), .int p1, .ref ho]) (n := 4) (Nat.le_of_ble_eq_true rfl)
  rw [lg_entry_eq]
  generalize (lg_sl ([.ref (ad 0), .int p1, .ref ho]) ++ List.replicate (4 - (lg_sl ([.ref (ad 0), .int p1, .ref ho])).length) Slot.unset).toArray = ls at hl ⊢
  have hl : lv_has ls 4 [(0, .ref (ad 0)), (1, .int p1), (2, .ref ho)] := hl
  refine lv_aload_n hx hb dL_boardIn_0 rfl (lv_at hl 2 rfl) ?_
  refine lv_iconst (v := 0) hx hb dL_boardIn_1 rfl ?_
  refine lv_aload_n hx hb dL_boardIn_2 rfl (lv_at hl 0 rfl) ?_
  refine lv_iload_n hx hb dL_boardIn_3 rfl (lv_at hl 1 rfl) ?_
  refine lc_xV (mk := wF cy ad hh aa pa) (b := (ad 0)) (As := [.int p1]) (rest := [.int 0, .ref ho]) h1 ⟨hx, hb, hml, hown, hts⟩ (cX9_boardInM l hfl D cy za zv ad hh aa pa s.heap.size u p1) (cwV 1 hts gL_boardIn_X9_boardIn rfl rfl rfl hlX9_boardIn ⟨Nat.le_of_ble_eq_true rfl, Nat.le_of_ble_eq_true rfl⟩) hZ hK (pFO cy ad hh aa pa ho u f) hP hD hS hA (q0 := 0) (wF_c0 _ _ _ _ _ _) rfl rfl hl.1 rfl (Nat.le_of_ble_eq_true rfl) dL_boardIn_4 ⟨Nat.le_of_ble_eq_true rfl, Nat.le_of_ble_eq_true rfl⟩ (fun E v H locs ce q9 h1 hP hD hS hce hcv hcl => ?_) (fun r v H locs h1 hP hD hS => ?_)
  · replace hP := kP_perm (pFO cy ad hh aa pa ho v f).symm hP
    replace hD := kD_perm (pFO cy ad hh aa pa ho v f).symm hD
    obtain ⟨hE, h1⟩ := h1
    replace hE : E = "java/lang/IllegalArgumentException" := hE
    subst hE
    refine vx_catch hown [] ⟨0, 9, 12, 18⟩ [] htab (fun z hz => absurd hz List.not_mem_nil) rfl (by decide) (hts _ (List.mem_of_getElem? (i := 1) rfl)) (hZ.cast (E := "java/lang/IllegalArgumentException") (by decide) _ List.mem_cons_self) hce hcv hcl ?_
    refine lv_astore_n (lv' := [(3, .ref q9), (0, .ref (ad 0)), (1, .int p1), (2, .ref ho)]) hx hb dL_boardIn_12 rfl hl (by decide) rfl (fun ls hl => ?_)
    refine lv_iconst (v := 1) hx hb dL_boardIn_13 rfl ?_
    exact lh_ret (mk := wFO cy ad hh aa pa ho) (u := (v, f)) hx hb hr hlocks hP hD hS h1 (by decide) (by decide) dL_boardIn_14
  · replace hP := kP_perm (pFO cy ad hh aa pa ho v f).symm hP
    replace hD := kD_perm (pFO cy ad hh aa pa ho v f).symm hD
    refine lv_i2l (v := r.toInt64) hx hb dL_boardIn_7 rfl ?_
    refine va_last (ws := wFO cy ad hh aa pa ho (v, f)) (cA := cy 3) (n := 1) (f := f) hx hb hK.1 hP hD hS 0 3 rfl rfl (inb_vp (by decide)) dL_boardIn_8 (fun H locs hP hD hS => ?_)
    replace hP : va_P D vwCl (wFO cy ad hh aa pa ho (v, vp_updL f (Int32.toNatClampNeg 0) r.toInt64)) H := hP
    replace hD : va_D A (wFO cy ad hh aa pa ho (v, vp_updL f (Int32.toNatClampNeg 0) r.toInt64)) := hD
    refine lv_goto (tgt := 15) hx hb dL_boardIn_9 (by decide) ?_
    refine lv_iconst (v := 0) hx hb dL_boardIn_15 rfl ?_
    exact lh_ret (mk := wFO cy ad hh aa pa ho) (u := (v, vp_updL f (Int32.toNatClampNeg 0) r.toInt64)) hx hb hr hlocks hP hD hS h1 (by decide) (by decide) dL_boardIn_16
-- easyIn
theorem hlX9_easyIn : yX9_easyIn.cls = RX9 ∧ yX9_easyIn.cls ≠ "java/lang/invoke/MethodHandle" ∧ yX9_easyIn.cls ≠ "java/lang/invoke/VarHandle" ∧ (parseMethodDescriptor yX9_easyIn.desc).map (fun d => d.parameters.length) = some 1 := by decide +kernel
abbrev rmL_easyIn : Room := { frames := 8, cells := 1, slots := 6, locals := 180 }
set_option maxHeartbeats 4000000 in
set_option maxRecDepth 100000 in
theorem cL_easyInM (l : Launch) (hfl : l.stackTraces = false) (D : va_G) (cy : Nat → ClassId) (za zv : Nat → Nat) (ad hh : Nat → Nat) (aa : Nat → Nat → Nat) (pa : Nat → Nat) (ho : Nat) (sz : Nat) (u : FS) (f : Nat → Int64) (p1 : Int32) (K : Int32 → FS × (Nat → Int64) → Prop) (h1 : Ok (fX9_easyIn p1 u) (lhK1 "java/lang/IndexOutOfBoundsException" f K)) : vx_Met l yL_easyIn wsL_easyIn rmL_easyIn (va_Pc [.ref (ad 0), .int p1, .ref ho] (kPreL D cy za zv sz (wFO cy ad hh aa pa ho (u, f)))) (va_Qi K (fun q => kPost D (va_A (wFO cy ad hh aa pa ho (u, f)) sz) (wFO cy ad hh aa pa ho q)) (va_A (wFO cy ad hh aa pa ho (u, f)) sz)) (vx_X (fun _ : Unit => False) (fun _ _ _ => False) (va_A (wFO cy ad hh aa pa ho (u, f)) sz)) 1 6 (va_A (wFO cy ad hh aa pa ho (u, f)) sz) := by
  refine vx_ofWH (cc := cL_easyIn) (maxL := 4) (ret := some .int) (hh := [(0, 9, 12, 30)]) (by decide) rfl ?_
  intro p e s m args below meth c s₁ B hml hv
  obtain ⟨rfl, ⟨⟨hsz, hP, hK, hD0⟩, hZ⟩, hN⟩ := hv
  subst hsz
  have hts := atoms_spec (ws := wsL_easyIn) B.pre
  have htab := vx_table (x := yL_appendText) B (hts _ List.mem_cons_self)
  have hx := B.exec
  have hb := B.bytes
  have hr := B.returns
  have hown : s.vm.findClass RL = some m.cls := findClass_of_methodNamed B.named
  have hlocks := B.notSynchronized
  have hD := hD0.self (sz := s.heap.size)
  have hA : ∀ q, s.heap.size ≤ q → va_A (wFO cy ad hh aa pa ho (u, f)) s.heap.size q := fun q h => Or.inr h
  generalize va_A (wFO cy ad hh aa pa ho (u, f)) s.heap.size = A at hZ hD hA ⊢
  have hS : va_S A s.heap s.heap [] := va_S.rf
  have hl := lv_entry ([.ref (ad 0), .int p1, .ref ho]) (n := 4) (Nat.le_of_ble_eq_true rfl)
  rw [lg_entry_eq]
  generalize (lg_sl ([.ref (ad 0), .int p1, .ref ho]) ++ List.replicate (4 - (lg_sl ([.ref (ad 0), .int p1, .ref ho])).length) Slot.unset).toArray = ls at hl ⊢
  have hl : lv_has ls 4 [(0, .ref (ad 0)), (1, .int p1), (2, .ref ho)] := hl
  refine lv_aload_n hx hb dL_easyIn_0 rfl (lv_at hl 2 rfl) ?_
  refine lv_iconst (v := 0) hx hb dL_easyIn_1 rfl ?_
  refine lv_aload_n hx hb dL_easyIn_2 rfl (lv_at hl 0 rfl) ?_
  refine lv_iload_n hx hb dL_easyIn_3 rfl (lv_at hl 1 rfl) ?_
  refine lc_xV (mk := wF cy ad hh aa pa) (b := (ad 0)) (As := [.int p1]) (rest := [.int 0, .ref ho]) h1 ⟨hx, hb, hml, hown, hts⟩ (cX9_easyInM l hfl D cy za zv ad hh aa pa s.heap.size u p1) (cwV 1 hts gL_easyIn_X9_easyIn rfl rfl rfl hlX9_easyIn ⟨Nat.le_of_ble_eq_true rfl, Nat.le_of_ble_eq_true rfl⟩) hZ hK (pFO cy ad hh aa pa ho u f) hP hD hS hA (q0 := 0) (wF_c0 _ _ _ _ _ _) rfl rfl hl.1 rfl (Nat.le_of_ble_eq_true rfl) dL_easyIn_4 ⟨Nat.le_of_ble_eq_true rfl, Nat.le_of_ble_eq_true rfl⟩ (fun E v H locs ce q9 h1 hP hD hS hce hcv hcl => ?_) (fun r v H locs h1 hP hD hS => ?_)
  · replace hP := kP_perm (pFO cy ad hh aa pa ho v f).symm hP
    replace hD := kD_perm (pFO cy ad hh aa pa ho v f).symm hD
    obtain ⟨hE, h1⟩ := h1
    replace hE : E = "java/lang/IndexOutOfBoundsException" := hE
    subst hE
    refine vx_catch hown [] ⟨0, 9, 12, 30⟩ [] htab (fun z hz => absurd hz List.not_mem_nil) rfl (by decide) (hts _ (List.mem_of_getElem? (i := 1) rfl)) (hZ.cast (E := "java/lang/IndexOutOfBoundsException") (by decide) _ List.mem_cons_self) hce hcv hcl ?_
    refine lv_astore_n (lv' := [(3, .ref q9), (0, .ref (ad 0)), (1, .int p1), (2, .ref ho)]) hx hb dL_easyIn_12 rfl hl (by decide) rfl (fun ls hl => ?_)
    refine lv_iconst (v := 1) hx hb dL_easyIn_13 rfl ?_
    exact lh_ret (mk := wFO cy ad hh aa pa ho) (u := (v, f)) hx hb hr hlocks hP hD hS h1 (by decide) (by decide) dL_easyIn_14
  · replace hP := kP_perm (pFO cy ad hh aa pa ho v f).symm hP
    replace hD := kD_perm (pFO cy ad hh aa pa ho v f).symm hD
    refine lv_i2l (v := r.toInt64) hx hb dL_easyIn_7 rfl ?_
    refine va_last (ws := wFO cy ad hh aa pa ho (v, f)) (cA := cy 3) (n := 1) (f := f) hx hb hK.1 hP hD hS 0 3 rfl rfl (inb_vp (by decide)) dL_easyIn_8 (fun H locs hP hD hS => ?_)
    replace hP : va_P D vwCl (wFO cy ad hh aa pa ho (v, vp_updL f (Int32.toNatClampNeg 0) r.toInt64)) H := hP
    replace hD : va_D A (wFO cy ad hh aa pa ho (v, vp_updL f (Int32.toNatClampNeg 0) r.toInt64)) := hD
    refine lv_goto (tgt := 15) hx hb dL_easyIn_9 (by decide) ?_
    refine lv_iconst (v := 0) hx hb dL_easyIn_15 rfl ?_
    exact lh_ret (mk := wFO cy ad hh aa pa ho) (u := (v, vp_updL f (Int32.toNatClampNeg 0) r.toInt64)) hx hb hr hlocks hP hD hS h1 (by decide) (by decide) dL_easyIn_16
-- bestFirst
theorem hlX9_bestFirst : yX9_bestFirst.cls = RX9 ∧ yX9_bestFirst.cls ≠ "java/lang/invoke/MethodHandle" ∧ yX9_bestFirst.cls ≠ "java/lang/invoke/VarHandle" ∧ (parseMethodDescriptor yX9_bestFirst.desc).map (fun d => d.parameters.length) = some 1 := by decide +kernel
abbrev rmL_bestFirst : Room := { frames := 8, cells := 1, slots := 6, locals := 180 }
set_option maxHeartbeats 4000000 in
set_option maxRecDepth 100000 in
theorem cL_bestFirstM (l : Launch) (hfl : l.stackTraces = false) (D : va_G) (cy : Nat → ClassId) (za zv : Nat → Nat) (ad hh : Nat → Nat) (aa : Nat → Nat → Nat) (pa : Nat → Nat) (ho : Nat) (sz : Nat) (u : FS) (f : Nat → Int64) (p1 : Int32) (K : Int32 → FS × (Nat → Int64) → Prop) (h1 : Ok (fX9_bestFirst p1 u) (lhK1 "java/lang/IllegalArgumentException" f K)) : vx_Met l yL_bestFirst wsL_bestFirst rmL_bestFirst (va_Pc [.ref (ad 0), .int p1, .ref ho] (kPreL D cy za zv sz (wFO cy ad hh aa pa ho (u, f)))) (va_Qi K (fun q => kPost D (va_A (wFO cy ad hh aa pa ho (u, f)) sz) (wFO cy ad hh aa pa ho q)) (va_A (wFO cy ad hh aa pa ho (u, f)) sz)) (vx_X (fun _ : Unit => False) (fun _ _ _ => False) (va_A (wFO cy ad hh aa pa ho (u, f)) sz)) 1 6 (va_A (wFO cy ad hh aa pa ho (u, f)) sz) := by
  refine vx_ofWH (cc := cL_bestFirst) (maxL := 4) (ret := some .int) (hh := [(0, 9, 12, 18)]) (by decide) rfl ?_
  intro p e s m args below meth c s₁ B hml hv
  obtain ⟨rfl, ⟨⟨hsz, hP, hK, hD0⟩, hZ⟩, hN⟩ := hv
  subst hsz
  have hts := atoms_spec (ws := wsL_bestFirst) B.pre
  have htab := vx_table (x := yL_appendText) B (hts _ List.mem_cons_self)
  have hx := B.exec
  have hb := B.bytes
  have hr := B.returns
  have hown : s.vm.findClass RL = some m.cls := findClass_of_methodNamed B.named
  have hlocks := B.notSynchronized
  have hD := hD0.self (sz := s.heap.size)
  have hA : ∀ q, s.heap.size ≤ q → va_A (wFO cy ad hh aa pa ho (u, f)) s.heap.size q := fun q h => Or.inr h
  generalize va_A (wFO cy ad hh aa pa ho (u, f)) s.heap.size = A at hZ hD hA ⊢
  have hS : va_S A s.heap s.heap [] := va_S.rf
  have hl := lv_entry ([.ref (ad 0), .int p1, .ref ho]) (n := 4) (Nat.le_of_ble_eq_true rfl)
  rw [lg_entry_eq]
  generalize (lg_sl ([.ref (ad 0), .int p1, .ref ho]) ++ List.replicate (4 - (lg_sl ([.ref (ad 0), .int p1, .ref ho])).length) Slot.unset).toArray = ls at hl ⊢
  have hl : lv_has ls 4 [(0, .ref (ad 0)), (1, .int p1), (2, .ref ho)] := hl
  refine lv_aload_n hx hb dL_bestFirst_0 rfl (lv_at hl 2 rfl) ?_
  refine lv_iconst (v := 0) hx hb dL_bestFirst_1 rfl ?_
  refine lv_aload_n hx hb dL_bestFirst_2 rfl (lv_at hl 0 rfl) ?_
  refine lv_iload_n hx hb dL_bestFirst_3 rfl (lv_at hl 1 rfl) ?_
  refine lc_xV (mk := wF cy ad hh aa pa) (b := (ad 0)) (As := [.int p1]) (rest := [.int 0, .ref ho]) h1 ⟨hx, hb, hml, hown, hts⟩ (cX9_bestFirstM l hfl D cy za zv ad hh aa pa s.heap.size u p1) (cwV 1 hts gL_bestFirst_X9_bestFirst rfl rfl rfl hlX9_bestFirst ⟨Nat.le_of_ble_eq_true rfl, Nat.le_of_ble_eq_true rfl⟩) hZ hK (pFO cy ad hh aa pa ho u f) hP hD hS hA (q0 := 0) (wF_c0 _ _ _ _ _ _) rfl rfl hl.1 rfl (Nat.le_of_ble_eq_true rfl) dL_bestFirst_4 ⟨Nat.le_of_ble_eq_true rfl, Nat.le_of_ble_eq_true rfl⟩ (fun E v H locs ce q9 h1 hP hD hS hce hcv hcl => ?_) (fun r v H locs h1 hP hD hS => ?_)
  · replace hP := kP_perm (pFO cy ad hh aa pa ho v f).symm hP
    replace hD := kD_perm (pFO cy ad hh aa pa ho v f).symm hD
    obtain ⟨hE, h1⟩ := h1
    replace hE : E = "java/lang/IllegalArgumentException" := hE
    subst hE
    refine vx_catch hown [] ⟨0, 9, 12, 18⟩ [] htab (fun z hz => absurd hz List.not_mem_nil) rfl (by decide) (hts _ (List.mem_of_getElem? (i := 1) rfl)) (hZ.cast (E := "java/lang/IllegalArgumentException") (by decide) _ List.mem_cons_self) hce hcv hcl ?_
    refine lv_astore_n (lv' := [(3, .ref q9), (0, .ref (ad 0)), (1, .int p1), (2, .ref ho)]) hx hb dL_bestFirst_12 rfl hl (by decide) rfl (fun ls hl => ?_)
    refine lv_iconst (v := 1) hx hb dL_bestFirst_13 rfl ?_
    exact lh_ret (mk := wFO cy ad hh aa pa ho) (u := (v, f)) hx hb hr hlocks hP hD hS h1 (by decide) (by decide) dL_bestFirst_14
  · replace hP := kP_perm (pFO cy ad hh aa pa ho v f).symm hP
    replace hD := kD_perm (pFO cy ad hh aa pa ho v f).symm hD
    refine lv_i2l (v := r.toInt64) hx hb dL_bestFirst_7 rfl ?_
    refine va_last (ws := wFO cy ad hh aa pa ho (v, f)) (cA := cy 3) (n := 1) (f := f) hx hb hK.1 hP hD hS 0 3 rfl rfl (inb_vp (by decide)) dL_bestFirst_8 (fun H locs hP hD hS => ?_)
    replace hP : va_P D vwCl (wFO cy ad hh aa pa ho (v, vp_updL f (Int32.toNatClampNeg 0) r.toInt64)) H := hP
    replace hD : va_D A (wFO cy ad hh aa pa ho (v, vp_updL f (Int32.toNatClampNeg 0) r.toInt64)) := hD
    refine lv_goto (tgt := 15) hx hb dL_bestFirst_9 (by decide) ?_
    refine lv_iconst (v := 0) hx hb dL_bestFirst_15 rfl ?_
    exact lh_ret (mk := wFO cy ad hh aa pa ho) (u := (v, vp_updL f (Int32.toNatClampNeg 0) r.toInt64)) hx hb hr hlocks hP hD hS h1 (by decide) (by decide) dL_bestFirst_16
-- tick
theorem hlX9_tick : yX9_tick.cls = RX9 ∧ yX9_tick.cls ≠ "java/lang/invoke/MethodHandle" ∧ yX9_tick.cls ≠ "java/lang/invoke/VarHandle" ∧ (parseMethodDescriptor yX9_tick.desc).map (fun d => d.parameters.length) = some 1 := by decide +kernel
abbrev rmL_tick : Room := { frames := 8, cells := 1, slots := 6, locals := 180 }
set_option maxHeartbeats 4000000 in
set_option maxRecDepth 100000 in
theorem cL_tickM (l : Launch) (hfl : l.stackTraces = false) (D : va_G) (cy : Nat → ClassId) (za zv : Nat → Nat) (ad hh : Nat → Nat) (aa : Nat → Nat → Nat) (pa : Nat → Nat) (ho : Nat) (sz : Nat) (u : FS) (f : Nat → Int64) (p1 : Int32) (K : Int32 → FS × (Nat → Int64) → Prop) (h1 : Ok (fX9_tick p1 u) (lhK1 "java/lang/IllegalArgumentException" f K)) : vx_Met l yL_tick wsL_tick rmL_tick (va_Pc [.ref (ad 0), .int p1, .ref ho] (kPreL D cy za zv sz (wFO cy ad hh aa pa ho (u, f)))) (va_Qi K (fun q => kPost D (va_A (wFO cy ad hh aa pa ho (u, f)) sz) (wFO cy ad hh aa pa ho q)) (va_A (wFO cy ad hh aa pa ho (u, f)) sz)) (vx_X (fun _ : Unit => False) (fun _ _ _ => False) (va_A (wFO cy ad hh aa pa ho (u, f)) sz)) 1 6 (va_A (wFO cy ad hh aa pa ho (u, f)) sz) := by
  refine vx_ofWH (cc := cL_tick) (maxL := 4) (ret := some .int) (hh := [(0, 9, 12, 18)]) (by decide) rfl ?_
  intro p e s m args below meth c s₁ B hml hv
  obtain ⟨rfl, ⟨⟨hsz, hP, hK, hD0⟩, hZ⟩, hN⟩ := hv
  subst hsz
  have hts := atoms_spec (ws := wsL_tick) B.pre
  have htab := vx_table (x := yL_appendText) B (hts _ List.mem_cons_self)
  have hx := B.exec
  have hb := B.bytes
  have hr := B.returns
  have hown : s.vm.findClass RL = some m.cls := findClass_of_methodNamed B.named
  have hlocks := B.notSynchronized
  have hD := hD0.self (sz := s.heap.size)
  have hA : ∀ q, s.heap.size ≤ q → va_A (wFO cy ad hh aa pa ho (u, f)) s.heap.size q := fun q h => Or.inr h
  generalize va_A (wFO cy ad hh aa pa ho (u, f)) s.heap.size = A at hZ hD hA ⊢
  have hS : va_S A s.heap s.heap [] := va_S.rf
  have hl := lv_entry ([.ref (ad 0), .int p1, .ref ho]) (n := 4) (Nat.le_of_ble_eq_true rfl)
  rw [lg_entry_eq]
  generalize (lg_sl ([.ref (ad 0), .int p1, .ref ho]) ++ List.replicate (4 - (lg_sl ([.ref (ad 0), .int p1, .ref ho])).length) Slot.unset).toArray = ls at hl ⊢
  have hl : lv_has ls 4 [(0, .ref (ad 0)), (1, .int p1), (2, .ref ho)] := hl
  refine lv_aload_n hx hb dL_tick_0 rfl (lv_at hl 2 rfl) ?_
  refine lv_iconst (v := 0) hx hb dL_tick_1 rfl ?_
  refine lv_aload_n hx hb dL_tick_2 rfl (lv_at hl 0 rfl) ?_
  refine lv_iload_n hx hb dL_tick_3 rfl (lv_at hl 1 rfl) ?_
  refine lc_xV (mk := wF cy ad hh aa pa) (b := (ad 0)) (As := [.int p1]) (rest := [.int 0, .ref ho]) h1 ⟨hx, hb, hml, hown, hts⟩ (cX9_tickM l hfl D cy za zv ad hh aa pa s.heap.size u p1) (cwV 1 hts gL_tick_X9_tick rfl rfl rfl hlX9_tick ⟨Nat.le_of_ble_eq_true rfl, Nat.le_of_ble_eq_true rfl⟩) hZ hK (pFO cy ad hh aa pa ho u f) hP hD hS hA (q0 := 0) (wF_c0 _ _ _ _ _ _) rfl rfl hl.1 rfl (Nat.le_of_ble_eq_true rfl) dL_tick_4 ⟨Nat.le_of_ble_eq_true rfl, Nat.le_of_ble_eq_true rfl⟩ (fun E v H locs ce q9 h1 hP hD hS hce hcv hcl => ?_) (fun r v H locs h1 hP hD hS => ?_)
  · replace hP := kP_perm (pFO cy ad hh aa pa ho v f).symm hP
    replace hD := kD_perm (pFO cy ad hh aa pa ho v f).symm hD
    obtain ⟨hE, h1⟩ := h1
    replace hE : E = "java/lang/IllegalArgumentException" := hE
    subst hE
    refine vx_catch hown [] ⟨0, 9, 12, 18⟩ [] htab (fun z hz => absurd hz List.not_mem_nil) rfl (by decide) (hts _ (List.mem_of_getElem? (i := 1) rfl)) (hZ.cast (E := "java/lang/IllegalArgumentException") (by decide) _ List.mem_cons_self) hce hcv hcl ?_
    refine lv_astore_n (lv' := [(3, .ref q9), (0, .ref (ad 0)), (1, .int p1), (2, .ref ho)]) hx hb dL_tick_12 rfl hl (by decide) rfl (fun ls hl => ?_)
    refine lv_iconst (v := 1) hx hb dL_tick_13 rfl ?_
    exact lh_ret (mk := wFO cy ad hh aa pa ho) (u := (v, f)) hx hb hr hlocks hP hD hS h1 (by decide) (by decide) dL_tick_14
  · replace hP := kP_perm (pFO cy ad hh aa pa ho v f).symm hP
    replace hD := kD_perm (pFO cy ad hh aa pa ho v f).symm hD
    refine lv_i2l (v := r.toInt64) hx hb dL_tick_7 rfl ?_
    refine va_last (ws := wFO cy ad hh aa pa ho (v, f)) (cA := cy 3) (n := 1) (f := f) hx hb hK.1 hP hD hS 0 3 rfl rfl (inb_vp (by decide)) dL_tick_8 (fun H locs hP hD hS => ?_)
    replace hP : va_P D vwCl (wFO cy ad hh aa pa ho (v, vp_updL f (Int32.toNatClampNeg 0) r.toInt64)) H := hP
    replace hD : va_D A (wFO cy ad hh aa pa ho (v, vp_updL f (Int32.toNatClampNeg 0) r.toInt64)) := hD
    refine lv_goto (tgt := 15) hx hb dL_tick_9 (by decide) ?_
    refine lv_iconst (v := 0) hx hb dL_tick_15 rfl ?_
    exact lh_ret (mk := wFO cy ad hh aa pa ho) (u := (v, vp_updL f (Int32.toNatClampNeg 0) r.toInt64)) hx hb hr hlocks hP hD hS h1 (by decide) (by decide) dL_tick_16
-- arrive
theorem hlX9_arrive : yX9_arrive.cls = RX9 ∧ yX9_arrive.cls ≠ "java/lang/invoke/MethodHandle" ∧ yX9_arrive.cls ≠ "java/lang/invoke/VarHandle" ∧ (parseMethodDescriptor yX9_arrive.desc).map (fun d => d.parameters.length) = some 2 := by decide +kernel
abbrev rmL_arrive : Room := { frames := 8, cells := 1, slots := 6, locals := 180 }
set_option maxHeartbeats 4000000 in
set_option maxRecDepth 100000 in
theorem cL_arriveM (l : Launch) (hfl : l.stackTraces = false) (D : va_G) (cy : Nat → ClassId) (za zv : Nat → Nat) (ad hh : Nat → Nat) (aa : Nat → Nat → Nat) (pa : Nat → Nat) (ho : Nat) (sz : Nat) (u : FS) (f : Nat → Int64) (p1 : Int32) (p2 : Int32) (K : Int32 → FS × (Nat → Int64) → Prop) (h1 : Ok (fX9_arrive p1 p2 u) (lhK2 "java/lang/IndexOutOfBoundsException" "java/lang/IllegalArgumentException" f K)) : vx_Met l yL_arrive wsL_arrive rmL_arrive (va_Pc [.ref (ad 0), .int p1, .int p2, .ref ho] (kPreL D cy za zv sz (wFO cy ad hh aa pa ho (u, f)))) (va_Qi K (fun q => kPost D (va_A (wFO cy ad hh aa pa ho (u, f)) sz) (wFO cy ad hh aa pa ho q)) (va_A (wFO cy ad hh aa pa ho (u, f)) sz)) (vx_X (fun _ : Unit => False) (fun _ _ _ => False) (va_A (wFO cy ad hh aa pa ho (u, f)) sz)) 1 6 (va_A (wFO cy ad hh aa pa ho (u, f)) sz) := by
  refine vx_ofWH (cc := cL_arrive) (maxL := 5) (ret := some .int) (hh := [(0, 10, 13, 30), (0, 10, 17, 18)]) (by decide) rfl ?_
  intro p e s m args below meth c s₁ B hml hv
  obtain ⟨rfl, ⟨⟨hsz, hP, hK, hD0⟩, hZ⟩, hN⟩ := hv
  subst hsz
  have hts := atoms_spec (ws := wsL_arrive) B.pre
  have htab := vx_table (x := yL_appendText) B (hts _ List.mem_cons_self)
  have hx := B.exec
  have hb := B.bytes
  have hr := B.returns
  have hown : s.vm.findClass RL = some m.cls := findClass_of_methodNamed B.named
  have hlocks := B.notSynchronized
  have hD := hD0.self (sz := s.heap.size)
  have hA : ∀ q, s.heap.size ≤ q → va_A (wFO cy ad hh aa pa ho (u, f)) s.heap.size q := fun q h => Or.inr h
  generalize va_A (wFO cy ad hh aa pa ho (u, f)) s.heap.size = A at hZ hD hA ⊢
  have hS : va_S A s.heap s.heap [] := va_S.rf
  have hl := lv_entry ([.ref (ad 0), .int p1, .int p2, .ref ho]) (n := 5) (Nat.le_of_ble_eq_true rfl)
  rw [lg_entry_eq]
  generalize (lg_sl ([.ref (ad 0), .int p1, .int p2, .ref ho]) ++ List.replicate (5 - (lg_sl ([.ref (ad 0), .int p1, .int p2, .ref ho])).length) Slot.unset).toArray = ls at hl ⊢
  have hl : lv_has ls 5 [(0, .ref (ad 0)), (1, .int p1), (2, .int p2), (3, .ref ho)] := hl
  refine lv_aload_n hx hb dL_arrive_0 rfl (lv_at hl 3 rfl) ?_
  refine lv_iconst (v := 0) hx hb dL_arrive_1 rfl ?_
  refine lv_aload_n hx hb dL_arrive_2 rfl (lv_at hl 0 rfl) ?_
  refine lv_iload_n hx hb dL_arrive_3 rfl (lv_at hl 1 rfl) ?_
  refine lv_iload_n hx hb dL_arrive_4 rfl (lv_at hl 2 rfl) ?_
  refine lc_xV (mk := wF cy ad hh aa pa) (b := (ad 0)) (As := [.int p1, .int p2]) (rest := [.int 0, .ref ho]) h1 ⟨hx, hb, hml, hown, hts⟩ (cX9_arriveM l hfl D cy za zv ad hh aa pa s.heap.size u p1 p2) (cwV 2 hts gL_arrive_X9_arrive rfl rfl rfl hlX9_arrive ⟨Nat.le_of_ble_eq_true rfl, Nat.le_of_ble_eq_true rfl⟩) hZ hK (pFO cy ad hh aa pa ho u f) hP hD hS hA (q0 := 0) (wF_c0 _ _ _ _ _ _) rfl rfl hl.1 rfl (Nat.le_of_ble_eq_true rfl) dL_arrive_5 ⟨Nat.le_of_ble_eq_true rfl, Nat.le_of_ble_eq_true rfl⟩ (fun E v H locs ce q9 h1 hP hD hS hce hcv hcl => ?_) (fun r v H locs h1 hP hD hS => ?_)
  · replace hP := kP_perm (pFO cy ad hh aa pa ho v f).symm hP
    replace hD := kD_perm (pFO cy ad hh aa pa ho v f).symm hD
    rcases h1 with ⟨hE, h1⟩ | ⟨hE, h1⟩
    · replace hE : E = "java/lang/IndexOutOfBoundsException" := hE
      subst hE
      refine vx_catch hown [] ⟨0, 10, 13, 30⟩ [⟨0, 10, 17, 18⟩] htab (fun z hz => absurd hz List.not_mem_nil) rfl (by decide) (hts _ (List.mem_of_getElem? (i := 1) rfl)) (hZ.cast (E := "java/lang/IndexOutOfBoundsException") (by decide) _ List.mem_cons_self) hce hcv hcl ?_
      refine lv_astore (lv' := [(4, .ref q9), (0, .ref (ad 0)), (1, .int p1), (2, .int p2), (3, .ref ho)]) hx hb dL_arrive_13 hl (by decide) rfl (fun ls hl => ?_)
      refine lv_iconst (v := 1) hx hb dL_arrive_15 rfl ?_
      exact lh_ret (mk := wFO cy ad hh aa pa ho) (u := (v, f)) hx hb hr hlocks hP hD hS h1 (by decide) (by decide) dL_arrive_16
    · replace hE : E = "java/lang/IllegalArgumentException" := hE
      subst hE
      refine vx_catch hown [⟨0, 10, 13, 30⟩] ⟨0, 10, 17, 18⟩ [] htab (fun z hz => by cases List.mem_singleton.mp hz; exact Or.inr ⟨by decide, "java/lang/IndexOutOfBoundsException", hts _ (List.mem_of_getElem? (i := 1) rfl), hN.1⟩) rfl (by decide) (hts _ (List.mem_of_getElem? (i := 2) rfl)) (hZ.cast (E := "java/lang/IllegalArgumentException") (by decide) _ List.mem_cons_self) hce hcv hcl ?_
      refine lv_astore (lv' := [(4, .ref q9), (0, .ref (ad 0)), (1, .int p1), (2, .int p2), (3, .ref ho)]) hx hb dL_arrive_17 hl (by decide) rfl (fun ls hl => ?_)
      refine lv_iconst (v := 2) hx hb dL_arrive_19 rfl ?_
      exact lh_ret (mk := wFO cy ad hh aa pa ho) (u := (v, f)) hx hb hr hlocks hP hD hS h1 (by decide) (by decide) dL_arrive_20
  · replace hP := kP_perm (pFO cy ad hh aa pa ho v f).symm hP
    replace hD := kD_perm (pFO cy ad hh aa pa ho v f).symm hD
    refine lv_i2l (v := r.toInt64) hx hb dL_arrive_8 rfl ?_
    refine va_last (ws := wFO cy ad hh aa pa ho (v, f)) (cA := cy 3) (n := 1) (f := f) hx hb hK.1 hP hD hS 0 3 rfl rfl (inb_vp (by decide)) dL_arrive_9 (fun H locs hP hD hS => ?_)
    replace hP : va_P D vwCl (wFO cy ad hh aa pa ho (v, vp_updL f (Int32.toNatClampNeg 0) r.toInt64)) H := hP
    replace hD : va_D A (wFO cy ad hh aa pa ho (v, vp_updL f (Int32.toNatClampNeg 0) r.toInt64)) := hD
    refine lv_goto (tgt := 21) hx hb dL_arrive_10 (by decide) ?_
    refine lv_iconst (v := 0) hx hb dL_arrive_21 rfl ?_
    exact lh_ret (mk := wFO cy ad hh aa pa ho) (u := (v, vp_updL f (Int32.toNatClampNeg 0) r.toInt64)) hx hb hr hlocks hP hD hS h1 (by decide) (by decide) dL_arrive_22
-- wave
theorem hlX9_wave : yX9_wave.cls = RX9 ∧ yX9_wave.cls ≠ "java/lang/invoke/MethodHandle" ∧ yX9_wave.cls ≠ "java/lang/invoke/VarHandle" ∧ (parseMethodDescriptor yX9_wave.desc).map (fun d => d.parameters.length) = some 1 := by decide +kernel
abbrev rmL_wave : Room := { frames := 8, cells := 1, slots := 6, locals := 180 }
set_option maxHeartbeats 4000000 in
set_option maxRecDepth 100000 in
theorem cL_waveM (l : Launch) (hfl : l.stackTraces = false) (D : va_G) (cy : Nat → ClassId) (za zv : Nat → Nat) (ad hh : Nat → Nat) (aa : Nat → Nat → Nat) (pa : Nat → Nat) (ho : Nat) (sz : Nat) (u : FS) (f : Nat → Int64) (p1 : Int32) (K : Int32 → FS × (Nat → Int64) → Prop) (h1 : Ok (fX9_wave p1 u) (lhK1 "java/lang/IndexOutOfBoundsException" f K)) : vx_Met l yL_wave wsL_wave rmL_wave (va_Pc [.ref (ad 0), .int p1, .ref ho] (kPreL D cy za zv sz (wFO cy ad hh aa pa ho (u, f)))) (va_Qi K (fun q => kPost D (va_A (wFO cy ad hh aa pa ho (u, f)) sz) (wFO cy ad hh aa pa ho q)) (va_A (wFO cy ad hh aa pa ho (u, f)) sz)) (vx_X (fun _ : Unit => False) (fun _ _ _ => False) (va_A (wFO cy ad hh aa pa ho (u, f)) sz)) 1 6 (va_A (wFO cy ad hh aa pa ho (u, f)) sz) := by
  refine vx_ofWH (cc := cL_wave) (maxL := 4) (ret := some .int) (hh := [(0, 9, 12, 30)]) (by decide) rfl ?_
  intro p e s m args below meth c s₁ B hml hv
  obtain ⟨rfl, ⟨⟨hsz, hP, hK, hD0⟩, hZ⟩, hN⟩ := hv
  subst hsz
  have hts := atoms_spec (ws := wsL_wave) B.pre
  have htab := vx_table (x := yL_appendText) B (hts _ List.mem_cons_self)
  have hx := B.exec
  have hb := B.bytes
  have hr := B.returns
  have hown : s.vm.findClass RL = some m.cls := findClass_of_methodNamed B.named
  have hlocks := B.notSynchronized
  have hD := hD0.self (sz := s.heap.size)
  have hA : ∀ q, s.heap.size ≤ q → va_A (wFO cy ad hh aa pa ho (u, f)) s.heap.size q := fun q h => Or.inr h
  generalize va_A (wFO cy ad hh aa pa ho (u, f)) s.heap.size = A at hZ hD hA ⊢
  have hS : va_S A s.heap s.heap [] := va_S.rf
  have hl := lv_entry ([.ref (ad 0), .int p1, .ref ho]) (n := 4) (Nat.le_of_ble_eq_true rfl)
  rw [lg_entry_eq]
  generalize (lg_sl ([.ref (ad 0), .int p1, .ref ho]) ++ List.replicate (4 - (lg_sl ([.ref (ad 0), .int p1, .ref ho])).length) Slot.unset).toArray = ls at hl ⊢
  have hl : lv_has ls 4 [(0, .ref (ad 0)), (1, .int p1), (2, .ref ho)] := hl
  refine lv_aload_n hx hb dL_wave_0 rfl (lv_at hl 2 rfl) ?_
  refine lv_iconst (v := 0) hx hb dL_wave_1 rfl ?_
  refine lv_aload_n hx hb dL_wave_2 rfl (lv_at hl 0 rfl) ?_
  refine lv_iload_n hx hb dL_wave_3 rfl (lv_at hl 1 rfl) ?_
  refine lc_xV (mk := wF cy ad hh aa pa) (b := (ad 0)) (As := [.int p1]) (rest := [.int 0, .ref ho]) h1 ⟨hx, hb, hml, hown, hts⟩ (cX9_waveM l hfl D cy za zv ad hh aa pa s.heap.size u p1) (cwV 1 hts gL_wave_X9_wave rfl rfl rfl hlX9_wave ⟨Nat.le_of_ble_eq_true rfl, Nat.le_of_ble_eq_true rfl⟩) hZ hK (pFO cy ad hh aa pa ho u f) hP hD hS hA (q0 := 0) (wF_c0 _ _ _ _ _ _) rfl rfl hl.1 rfl (Nat.le_of_ble_eq_true rfl) dL_wave_4 ⟨Nat.le_of_ble_eq_true rfl, Nat.le_of_ble_eq_true rfl⟩ (fun E v H locs ce q9 h1 hP hD hS hce hcv hcl => ?_) (fun r v H locs h1 hP hD hS => ?_)
  · replace hP := kP_perm (pFO cy ad hh aa pa ho v f).symm hP
    replace hD := kD_perm (pFO cy ad hh aa pa ho v f).symm hD
    obtain ⟨hE, h1⟩ := h1
    replace hE : E = "java/lang/IndexOutOfBoundsException" := hE
    subst hE
    refine vx_catch hown [] ⟨0, 9, 12, 30⟩ [] htab (fun z hz => absurd hz List.not_mem_nil) rfl (by decide) (hts _ (List.mem_of_getElem? (i := 1) rfl)) (hZ.cast (E := "java/lang/IndexOutOfBoundsException") (by decide) _ List.mem_cons_self) hce hcv hcl ?_
    refine lv_astore_n (lv' := [(3, .ref q9), (0, .ref (ad 0)), (1, .int p1), (2, .ref ho)]) hx hb dL_wave_12 rfl hl (by decide) rfl (fun ls hl => ?_)
    refine lv_iconst (v := 1) hx hb dL_wave_13 rfl ?_
    exact lh_ret (mk := wFO cy ad hh aa pa ho) (u := (v, f)) hx hb hr hlocks hP hD hS h1 (by decide) (by decide) dL_wave_14
  · replace hP := kP_perm (pFO cy ad hh aa pa ho v f).symm hP
    replace hD := kD_perm (pFO cy ad hh aa pa ho v f).symm hD
    refine lv_i2l (v := r.toInt64) hx hb dL_wave_7 rfl ?_
    refine va_last (ws := wFO cy ad hh aa pa ho (v, f)) (cA := cy 3) (n := 1) (f := f) hx hb hK.1 hP hD hS 0 3 rfl rfl (inb_vp (by decide)) dL_wave_8 (fun H locs hP hD hS => ?_)
    replace hP : va_P D vwCl (wFO cy ad hh aa pa ho (v, vp_updL f (Int32.toNatClampNeg 0) r.toInt64)) H := hP
    replace hD : va_D A (wFO cy ad hh aa pa ho (v, vp_updL f (Int32.toNatClampNeg 0) r.toInt64)) := hD
    refine lv_goto (tgt := 15) hx hb dL_wave_9 (by decide) ?_
    refine lv_iconst (v := 0) hx hb dL_wave_15 rfl ?_
    exact lh_ret (mk := wFO cy ad hh aa pa ho) (u := (v, vp_updL f (Int32.toNatClampNeg 0) r.toInt64)) hx hb hr hlocks hP hD hS h1 (by decide) (by decide) dL_wave_16
-- dismiss
theorem hlX9_dismiss : yX9_dismiss.cls = RX9 ∧ yX9_dismiss.cls ≠ "java/lang/invoke/MethodHandle" ∧ yX9_dismiss.cls ≠ "java/lang/invoke/VarHandle" ∧ (parseMethodDescriptor yX9_dismiss.desc).map (fun d => d.parameters.length) = some 1 := by decide +kernel
abbrev rmL_dismiss : Room := { frames := 8, cells := 1, slots := 6, locals := 180 }
set_option maxHeartbeats 4000000 in
set_option maxRecDepth 100000 in
theorem cL_dismissM (l : Launch) (hfl : l.stackTraces = false) (D : va_G) (cy : Nat → ClassId) (za zv : Nat → Nat) (ad hh : Nat → Nat) (aa : Nat → Nat → Nat) (pa : Nat → Nat) (ho : Nat) (sz : Nat) (u : FS) (f : Nat → Int64) (p1 : Int32) (K : Int32 → FS × (Nat → Int64) → Prop) (h1 : Ok (fX9_dismiss p1 u) (lhK1 "java/lang/IndexOutOfBoundsException" f K)) : vx_Met l yL_dismiss wsL_dismiss rmL_dismiss (va_Pc [.ref (ad 0), .int p1, .ref ho] (kPreL D cy za zv sz (wFO cy ad hh aa pa ho (u, f)))) (va_Qi K (fun q => kPost D (va_A (wFO cy ad hh aa pa ho (u, f)) sz) (wFO cy ad hh aa pa ho q)) (va_A (wFO cy ad hh aa pa ho (u, f)) sz)) (vx_X (fun _ : Unit => False) (fun _ _ _ => False) (va_A (wFO cy ad hh aa pa ho (u, f)) sz)) 1 6 (va_A (wFO cy ad hh aa pa ho (u, f)) sz) := by
  refine vx_ofWH (cc := cL_dismiss) (maxL := 4) (ret := some .int) (hh := [(0, 9, 12, 30)]) (by decide) rfl ?_
  intro p e s m args below meth c s₁ B hml hv
  obtain ⟨rfl, ⟨⟨hsz, hP, hK, hD0⟩, hZ⟩, hN⟩ := hv
  subst hsz
  have hts := atoms_spec (ws := wsL_dismiss) B.pre
  have htab := vx_table (x := yL_appendText) B (hts _ List.mem_cons_self)
  have hx := B.exec
  have hb := B.bytes
  have hr := B.returns
  have hown : s.vm.findClass RL = some m.cls := findClass_of_methodNamed B.named
  have hlocks := B.notSynchronized
  have hD := hD0.self (sz := s.heap.size)
  have hA : ∀ q, s.heap.size ≤ q → va_A (wFO cy ad hh aa pa ho (u, f)) s.heap.size q := fun q h => Or.inr h
  generalize va_A (wFO cy ad hh aa pa ho (u, f)) s.heap.size = A at hZ hD hA ⊢
  have hS : va_S A s.heap s.heap [] := va_S.rf
  have hl := lv_entry ([.ref (ad 0), .int p1, .ref ho]) (n := 4) (Nat.le_of_ble_eq_true rfl)
  rw [lg_entry_eq]
  generalize (lg_sl ([.ref (ad 0), .int p1, .ref ho]) ++ List.replicate (4 - (lg_sl ([.ref (ad 0), .int p1, .ref ho])).length) Slot.unset).toArray = ls at hl ⊢
  have hl : lv_has ls 4 [(0, .ref (ad 0)), (1, .int p1), (2, .ref ho)] := hl
  refine lv_aload_n hx hb dL_dismiss_0 rfl (lv_at hl 2 rfl) ?_
  refine lv_iconst (v := 0) hx hb dL_dismiss_1 rfl ?_
  refine lv_aload_n hx hb dL_dismiss_2 rfl (lv_at hl 0 rfl) ?_
  refine lv_iload_n hx hb dL_dismiss_3 rfl (lv_at hl 1 rfl) ?_
  refine lc_xV (mk := wF cy ad hh aa pa) (b := (ad 0)) (As := [.int p1]) (rest := [.int 0, .ref ho]) h1 ⟨hx, hb, hml, hown, hts⟩ (cX9_dismissM l hfl D cy za zv ad hh aa pa s.heap.size u p1) (cwV 1 hts gL_dismiss_X9_dismiss rfl rfl rfl hlX9_dismiss ⟨Nat.le_of_ble_eq_true rfl, Nat.le_of_ble_eq_true rfl⟩) hZ hK (pFO cy ad hh aa pa ho u f) hP hD hS hA (q0 := 0) (wF_c0 _ _ _ _ _ _) rfl rfl hl.1 rfl (Nat.le_of_ble_eq_true rfl) dL_dismiss_4 ⟨Nat.le_of_ble_eq_true rfl, Nat.le_of_ble_eq_true rfl⟩ (fun E v H locs ce q9 h1 hP hD hS hce hcv hcl => ?_) (fun r v H locs h1 hP hD hS => ?_)
  · replace hP := kP_perm (pFO cy ad hh aa pa ho v f).symm hP
    replace hD := kD_perm (pFO cy ad hh aa pa ho v f).symm hD
    obtain ⟨hE, h1⟩ := h1
    replace hE : E = "java/lang/IndexOutOfBoundsException" := hE
    subst hE
    refine vx_catch hown [] ⟨0, 9, 12, 30⟩ [] htab (fun z hz => absurd hz List.not_mem_nil) rfl (by decide) (hts _ (List.mem_of_getElem? (i := 1) rfl)) (hZ.cast (E := "java/lang/IndexOutOfBoundsException") (by decide) _ List.mem_cons_self) hce hcv hcl ?_
    refine lv_astore_n (lv' := [(3, .ref q9), (0, .ref (ad 0)), (1, .int p1), (2, .ref ho)]) hx hb dL_dismiss_12 rfl hl (by decide) rfl (fun ls hl => ?_)
    refine lv_iconst (v := 1) hx hb dL_dismiss_13 rfl ?_
    exact lh_ret (mk := wFO cy ad hh aa pa ho) (u := (v, f)) hx hb hr hlocks hP hD hS h1 (by decide) (by decide) dL_dismiss_14
  · replace hP := kP_perm (pFO cy ad hh aa pa ho v f).symm hP
    replace hD := kD_perm (pFO cy ad hh aa pa ho v f).symm hD
    refine lv_i2l (v := r.toInt64) hx hb dL_dismiss_7 rfl ?_
    refine va_last (ws := wFO cy ad hh aa pa ho (v, f)) (cA := cy 3) (n := 1) (f := f) hx hb hK.1 hP hD hS 0 3 rfl rfl (inb_vp (by decide)) dL_dismiss_8 (fun H locs hP hD hS => ?_)
    replace hP : va_P D vwCl (wFO cy ad hh aa pa ho (v, vp_updL f (Int32.toNatClampNeg 0) r.toInt64)) H := hP
    replace hD : va_D A (wFO cy ad hh aa pa ho (v, vp_updL f (Int32.toNatClampNeg 0) r.toInt64)) := hD
    refine lv_goto (tgt := 15) hx hb dL_dismiss_9 (by decide) ?_
    refine lv_iconst (v := 0) hx hb dL_dismiss_15 rfl ?_
    exact lh_ret (mk := wFO cy ad hh aa pa ho) (u := (v, vp_updL f (Int32.toNatClampNeg 0) r.toInt64)) hx hb hr hlocks hP hD hS h1 (by decide) (by decide) dL_dismiss_16
-- unload
theorem hlX9_unload : yX9_unload.cls = RX9 ∧ yX9_unload.cls ≠ "java/lang/invoke/MethodHandle" ∧ yX9_unload.cls ≠ "java/lang/invoke/VarHandle" ∧ (parseMethodDescriptor yX9_unload.desc).map (fun d => d.parameters.length) = some 1 := by decide +kernel
abbrev rmL_unload : Room := { frames := 8, cells := 1, slots := 6, locals := 180 }
set_option maxHeartbeats 4000000 in
set_option maxRecDepth 100000 in
theorem cL_unloadM (l : Launch) (hfl : l.stackTraces = false) (D : va_G) (cy : Nat → ClassId) (za zv : Nat → Nat) (ad hh : Nat → Nat) (aa : Nat → Nat → Nat) (pa : Nat → Nat) (ho : Nat) (sz : Nat) (u : FS) (f : Nat → Int64) (p1 : Int32) (K : Int32 → FS × (Nat → Int64) → Prop) (h1 : Ok (fX9_unload p1 u) (lhK1 "java/lang/IndexOutOfBoundsException" f K)) : vx_Met l yL_unload wsL_unload rmL_unload (va_Pc [.ref (ad 0), .int p1, .ref ho] (kPreL D cy za zv sz (wFO cy ad hh aa pa ho (u, f)))) (va_Qi K (fun q => kPost D (va_A (wFO cy ad hh aa pa ho (u, f)) sz) (wFO cy ad hh aa pa ho q)) (va_A (wFO cy ad hh aa pa ho (u, f)) sz)) (vx_X (fun _ : Unit => False) (fun _ _ _ => False) (va_A (wFO cy ad hh aa pa ho (u, f)) sz)) 1 6 (va_A (wFO cy ad hh aa pa ho (u, f)) sz) := by
  refine vx_ofWH (cc := cL_unload) (maxL := 4) (ret := some .int) (hh := [(0, 9, 12, 30)]) (by decide) rfl ?_
  intro p e s m args below meth c s₁ B hml hv
  obtain ⟨rfl, ⟨⟨hsz, hP, hK, hD0⟩, hZ⟩, hN⟩ := hv
  subst hsz
  have hts := atoms_spec (ws := wsL_unload) B.pre
  have htab := vx_table (x := yL_appendText) B (hts _ List.mem_cons_self)
  have hx := B.exec
  have hb := B.bytes
  have hr := B.returns
  have hown : s.vm.findClass RL = some m.cls := findClass_of_methodNamed B.named
  have hlocks := B.notSynchronized
  have hD := hD0.self (sz := s.heap.size)
  have hA : ∀ q, s.heap.size ≤ q → va_A (wFO cy ad hh aa pa ho (u, f)) s.heap.size q := fun q h => Or.inr h
  generalize va_A (wFO cy ad hh aa pa ho (u, f)) s.heap.size = A at hZ hD hA ⊢
  have hS : va_S A s.heap s.heap [] := va_S.rf
  have hl := lv_entry ([.ref (ad 0), .int p1, .ref ho]) (n := 4) (Nat.le_of_ble_eq_true rfl)
  rw [lg_entry_eq]
  generalize (lg_sl ([.ref (ad 0), .int p1, .ref ho]) ++ List.replicate (4 - (lg_sl ([.ref (ad 0), .int p1, .ref ho])).length) Slot.unset).toArray = ls at hl ⊢
  have hl : lv_has ls 4 [(0, .ref (ad 0)), (1, .int p1), (2, .ref ho)] := hl
  refine lv_aload_n hx hb dL_unload_0 rfl (lv_at hl 2 rfl) ?_
  refine lv_iconst (v := 0) hx hb dL_unload_1 rfl ?_
  refine lv_aload_n hx hb dL_unload_2 rfl (lv_at hl 0 rfl) ?_
  refine lv_iload_n hx hb dL_unload_3 rfl (lv_at hl 1 rfl) ?_
  refine lc_xV (mk := wF cy ad hh aa pa) (b := (ad 0)) (As := [.int p1]) (rest := [.int 0, .ref ho]) h1 ⟨hx, hb, hml, hown, hts⟩ (cX9_unloadM l hfl D cy za zv ad hh aa pa s.heap.size u p1) (cwV 1 hts gL_unload_X9_unload rfl rfl rfl hlX9_unload ⟨Nat.le_of_ble_eq_true rfl, Nat.le_of_ble_eq_true rfl⟩) hZ hK (pFO cy ad hh aa pa ho u f) hP hD hS hA (q0 := 0) (wF_c0 _ _ _ _ _ _) rfl rfl hl.1 rfl (Nat.le_of_ble_eq_true rfl) dL_unload_4 ⟨Nat.le_of_ble_eq_true rfl, Nat.le_of_ble_eq_true rfl⟩ (fun E v H locs ce q9 h1 hP hD hS hce hcv hcl => ?_) (fun r v H locs h1 hP hD hS => ?_)
  · replace hP := kP_perm (pFO cy ad hh aa pa ho v f).symm hP
    replace hD := kD_perm (pFO cy ad hh aa pa ho v f).symm hD
    obtain ⟨hE, h1⟩ := h1
    replace hE : E = "java/lang/IndexOutOfBoundsException" := hE
    subst hE
    refine vx_catch hown [] ⟨0, 9, 12, 30⟩ [] htab (fun z hz => absurd hz List.not_mem_nil) rfl (by decide) (hts _ (List.mem_of_getElem? (i := 1) rfl)) (hZ.cast (E := "java/lang/IndexOutOfBoundsException") (by decide) _ List.mem_cons_self) hce hcv hcl ?_
    refine lv_astore_n (lv' := [(3, .ref q9), (0, .ref (ad 0)), (1, .int p1), (2, .ref ho)]) hx hb dL_unload_12 rfl hl (by decide) rfl (fun ls hl => ?_)
    refine lv_iconst (v := 1) hx hb dL_unload_13 rfl ?_
    exact lh_ret (mk := wFO cy ad hh aa pa ho) (u := (v, f)) hx hb hr hlocks hP hD hS h1 (by decide) (by decide) dL_unload_14
  · replace hP := kP_perm (pFO cy ad hh aa pa ho v f).symm hP
    replace hD := kD_perm (pFO cy ad hh aa pa ho v f).symm hD
    refine lv_i2l (v := r.toInt64) hx hb dL_unload_7 rfl ?_
    refine va_last (ws := wFO cy ad hh aa pa ho (v, f)) (cA := cy 3) (n := 1) (f := f) hx hb hK.1 hP hD hS 0 3 rfl rfl (inb_vp (by decide)) dL_unload_8 (fun H locs hP hD hS => ?_)
    replace hP : va_P D vwCl (wFO cy ad hh aa pa ho (v, vp_updL f (Int32.toNatClampNeg 0) r.toInt64)) H := hP
    replace hD : va_D A (wFO cy ad hh aa pa ho (v, vp_updL f (Int32.toNatClampNeg 0) r.toInt64)) := hD
    refine lv_goto (tgt := 15) hx hb dL_unload_9 (by decide) ?_
    refine lv_iconst (v := 0) hx hb dL_unload_15 rfl ?_
    exact lh_ret (mk := wFO cy ad hh aa pa ho) (u := (v, vp_updL f (Int32.toNatClampNeg 0) r.toInt64)) hx hb hr hlocks hP hD hS h1 (by decide) (by decide) dL_unload_16
-- crank
theorem hlX9_crank : yX9_crank.cls = RX9 ∧ yX9_crank.cls ≠ "java/lang/invoke/MethodHandle" ∧ yX9_crank.cls ≠ "java/lang/invoke/VarHandle" ∧ (parseMethodDescriptor yX9_crank.desc).map (fun d => d.parameters.length) = some 1 := by decide +kernel
abbrev rmL_crank : Room := { frames := 8, cells := 1, slots := 6, locals := 180 }
set_option maxHeartbeats 4000000 in
set_option maxRecDepth 100000 in
theorem cL_crankM (l : Launch) (hfl : l.stackTraces = false) (D : va_G) (cy : Nat → ClassId) (za zv : Nat → Nat) (ad hh : Nat → Nat) (aa : Nat → Nat → Nat) (pa : Nat → Nat) (ho : Nat) (sz : Nat) (u : FS) (f : Nat → Int64) (p1 : Int32) (K : Int32 → FS × (Nat → Int64) → Prop) (h1 : Ok (fX9_crank p1 u) (lhK1 "java/lang/IllegalArgumentException" f K)) : vx_Met l yL_crank wsL_crank rmL_crank (va_Pc [.ref (ad 0), .int p1, .ref ho] (kPreL D cy za zv sz (wFO cy ad hh aa pa ho (u, f)))) (va_Qi K (fun q => kPost D (va_A (wFO cy ad hh aa pa ho (u, f)) sz) (wFO cy ad hh aa pa ho q)) (va_A (wFO cy ad hh aa pa ho (u, f)) sz)) (vx_X (fun _ : Unit => False) (fun _ _ _ => False) (va_A (wFO cy ad hh aa pa ho (u, f)) sz)) 1 6 (va_A (wFO cy ad hh aa pa ho (u, f)) sz) := by
  refine vx_ofWH (cc := cL_crank) (maxL := 4) (ret := some .int) (hh := [(0, 9, 12, 18)]) (by decide) rfl ?_
  intro p e s m args below meth c s₁ B hml hv
  obtain ⟨rfl, ⟨⟨hsz, hP, hK, hD0⟩, hZ⟩, hN⟩ := hv
  subst hsz
  have hts := atoms_spec (ws := wsL_crank) B.pre
  have htab := vx_table (x := yL_appendText) B (hts _ List.mem_cons_self)
  have hx := B.exec
  have hb := B.bytes
  have hr := B.returns
  have hown : s.vm.findClass RL = some m.cls := findClass_of_methodNamed B.named
  have hlocks := B.notSynchronized
  have hD := hD0.self (sz := s.heap.size)
  have hA : ∀ q, s.heap.size ≤ q → va_A (wFO cy ad hh aa pa ho (u, f)) s.heap.size q := fun q h => Or.inr h
  generalize va_A (wFO cy ad hh aa pa ho (u, f)) s.heap.size = A at hZ hD hA ⊢
  have hS : va_S A s.heap s.heap [] := va_S.rf
  have hl := lv_entry ([.ref (ad 0), .int p1, .ref ho]) (n := 4) (Nat.le_of_ble_eq_true rfl)
  rw [lg_entry_eq]
  generalize (lg_sl ([.ref (ad 0), .int p1, .ref ho]) ++ List.replicate (4 - (lg_sl ([.ref (ad 0), .int p1, .ref ho])).length) Slot.unset).toArray = ls at hl ⊢
  have hl : lv_has ls 4 [(0, .ref (ad 0)), (1, .int p1), (2, .ref ho)] := hl
  refine lv_aload_n hx hb dL_crank_0 rfl (lv_at hl 2 rfl) ?_
  refine lv_iconst (v := 0) hx hb dL_crank_1 rfl ?_
  refine lv_aload_n hx hb dL_crank_2 rfl (lv_at hl 0 rfl) ?_
  refine lv_iload_n hx hb dL_crank_3 rfl (lv_at hl 1 rfl) ?_
  refine lc_xV (mk := wF cy ad hh aa pa) (b := (ad 0)) (As := [.int p1]) (rest := [.int 0, .ref ho]) h1 ⟨hx, hb, hml, hown, hts⟩ (cX9_crankM l hfl D cy za zv ad hh aa pa s.heap.size u p1) (cwV 1 hts gL_crank_X9_crank rfl rfl rfl hlX9_crank ⟨Nat.le_of_ble_eq_true rfl, Nat.le_of_ble_eq_true rfl⟩) hZ hK (pFO cy ad hh aa pa ho u f) hP hD hS hA (q0 := 0) (wF_c0 _ _ _ _ _ _) rfl rfl hl.1 rfl (Nat.le_of_ble_eq_true rfl) dL_crank_4 ⟨Nat.le_of_ble_eq_true rfl, Nat.le_of_ble_eq_true rfl⟩ (fun E v H locs ce q9 h1 hP hD hS hce hcv hcl => ?_) (fun r v H locs h1 hP hD hS => ?_)
  · replace hP := kP_perm (pFO cy ad hh aa pa ho v f).symm hP
    replace hD := kD_perm (pFO cy ad hh aa pa ho v f).symm hD
    obtain ⟨hE, h1⟩ := h1
    replace hE : E = "java/lang/IllegalArgumentException" := hE
    subst hE
    refine vx_catch hown [] ⟨0, 9, 12, 18⟩ [] htab (fun z hz => absurd hz List.not_mem_nil) rfl (by decide) (hts _ (List.mem_of_getElem? (i := 1) rfl)) (hZ.cast (E := "java/lang/IllegalArgumentException") (by decide) _ List.mem_cons_self) hce hcv hcl ?_
    refine lv_astore_n (lv' := [(3, .ref q9), (0, .ref (ad 0)), (1, .int p1), (2, .ref ho)]) hx hb dL_crank_12 rfl hl (by decide) rfl (fun ls hl => ?_)
    refine lv_iconst (v := 1) hx hb dL_crank_13 rfl ?_
    exact lh_ret (mk := wFO cy ad hh aa pa ho) (u := (v, f)) hx hb hr hlocks hP hD hS h1 (by decide) (by decide) dL_crank_14
  · replace hP := kP_perm (pFO cy ad hh aa pa ho v f).symm hP
    replace hD := kD_perm (pFO cy ad hh aa pa ho v f).symm hD
    refine lv_i2l (v := r.toInt64) hx hb dL_crank_7 rfl ?_
    refine va_last (ws := wFO cy ad hh aa pa ho (v, f)) (cA := cy 3) (n := 1) (f := f) hx hb hK.1 hP hD hS 0 3 rfl rfl (inb_vp (by decide)) dL_crank_8 (fun H locs hP hD hS => ?_)
    replace hP : va_P D vwCl (wFO cy ad hh aa pa ho (v, vp_updL f (Int32.toNatClampNeg 0) r.toInt64)) H := hP
    replace hD : va_D A (wFO cy ad hh aa pa ho (v, vp_updL f (Int32.toNatClampNeg 0) r.toInt64)) := hD
    refine lv_goto (tgt := 15) hx hb dL_crank_9 (by decide) ?_
    refine lv_iconst (v := 0) hx hb dL_crank_15 rfl ?_
    exact lh_ret (mk := wFO cy ad hh aa pa ho) (u := (v, vp_updL f (Int32.toNatClampNeg 0) r.toInt64)) hx hb hr hlocks hP hD hS h1 (by decide) (by decide) dL_crank_16
-- setWinch
theorem hlX9_setWinch : yX9_setWinch.cls = RX9 ∧ yX9_setWinch.cls ≠ "java/lang/invoke/MethodHandle" ∧ yX9_setWinch.cls ≠ "java/lang/invoke/VarHandle" ∧ (parseMethodDescriptor yX9_setWinch.desc).map (fun d => d.parameters.length) = some 3 := by decide +kernel
abbrev rmL_setWinch : Room := { frames := 8, cells := 1, slots := 6, locals := 180 }
set_option maxHeartbeats 4000000 in
set_option maxRecDepth 100000 in
theorem cL_setWinchM (l : Launch) (hfl : l.stackTraces = false) (D : va_G) (cy : Nat → ClassId) (za zv : Nat → Nat) (ad hh : Nat → Nat) (aa : Nat → Nat → Nat) (pa : Nat → Nat) (ho : Nat) (sz : Nat) (u : FS) (f : Nat → Int64) (p1 : Int32) (p2 : Int32) (p3 : Int32) (K : Int32 → FS × (Nat → Int64) → Prop) (h1 : Ok (fX9_setWinch p1 p2 p3 u) (lhK1 "java/lang/IllegalArgumentException" f K)) : vx_Met l yL_setWinch wsL_setWinch rmL_setWinch (va_Pc [.ref (ad 0), .int p1, .int p2, .int p3, .ref ho] (kPreL D cy za zv sz (wFO cy ad hh aa pa ho (u, f)))) (va_Qi K (fun q => kPost D (va_A (wFO cy ad hh aa pa ho (u, f)) sz) (wFO cy ad hh aa pa ho q)) (va_A (wFO cy ad hh aa pa ho (u, f)) sz)) (vx_X (fun _ : Unit => False) (fun _ _ _ => False) (va_A (wFO cy ad hh aa pa ho (u, f)) sz)) 1 6 (va_A (wFO cy ad hh aa pa ho (u, f)) sz) := by
  refine vx_ofWH (cc := cL_setWinch) (maxL := 6) (ret := some .int) (hh := [(0, 12, 15, 18)]) (by decide) rfl ?_
  intro p e s m args below meth c s₁ B hml hv
  obtain ⟨rfl, ⟨⟨hsz, hP, hK, hD0⟩, hZ⟩, hN⟩ := hv
  subst hsz
  have hts := atoms_spec (ws := wsL_setWinch) B.pre
  have htab := vx_table (x := yL_appendText) B (hts _ List.mem_cons_self)
  have hx := B.exec
  have hb := B.bytes
  have hr := B.returns
  have hown : s.vm.findClass RL = some m.cls := findClass_of_methodNamed B.named
  have hlocks := B.notSynchronized
  have hD := hD0.self (sz := s.heap.size)
  have hA : ∀ q, s.heap.size ≤ q → va_A (wFO cy ad hh aa pa ho (u, f)) s.heap.size q := fun q h => Or.inr h
  generalize va_A (wFO cy ad hh aa pa ho (u, f)) s.heap.size = A at hZ hD hA ⊢
  have hS : va_S A s.heap s.heap [] := va_S.rf
  have hl := lv_entry ([.ref (ad 0), .int p1, .int p2, .int p3, .ref ho]) (n := 6) (Nat.le_of_ble_eq_true rfl)
  rw [lg_entry_eq]
  generalize (lg_sl ([.ref (ad 0), .int p1, .int p2, .int p3, .ref ho]) ++ List.replicate (6 - (lg_sl ([.ref (ad 0), .int p1, .int p2, .int p3, .ref ho])).length) Slot.unset).toArray = ls at hl ⊢
  have hl : lv_has ls 6 [(0, .ref (ad 0)), (1, .int p1), (2, .int p2), (3, .int p3), (4, .ref ho)] := hl
  refine lv_aload hx hb dL_setWinch_0 (lv_at hl 4 rfl) ?_
  refine lv_iconst (v := 0) hx hb dL_setWinch_2 rfl ?_
  refine lv_aload_n hx hb dL_setWinch_3 rfl (lv_at hl 0 rfl) ?_
  refine lv_iload_n hx hb dL_setWinch_4 rfl (lv_at hl 1 rfl) ?_
  refine lv_iload_n hx hb dL_setWinch_5 rfl (lv_at hl 2 rfl) ?_
  refine lv_iload_n hx hb dL_setWinch_6 rfl (lv_at hl 3 rfl) ?_
  refine lc_xV (mk := wF cy ad hh aa pa) (b := (ad 0)) (As := [.int p1, .int p2, .int p3]) (rest := [.int 0, .ref ho]) h1 ⟨hx, hb, hml, hown, hts⟩ (cX9_setWinchM l hfl D cy za zv ad hh aa pa s.heap.size u p1 p2 p3) (cwV 3 hts gL_setWinch_X9_setWinch rfl rfl rfl hlX9_setWinch ⟨Nat.le_of_ble_eq_true rfl, Nat.le_of_ble_eq_true rfl⟩) hZ hK (pFO cy ad hh aa pa ho u f) hP hD hS hA (q0 := 0) (wF_c0 _ _ _ _ _ _) rfl rfl hl.1 rfl (Nat.le_of_ble_eq_true rfl) dL_setWinch_7 ⟨Nat.le_of_ble_eq_true rfl, Nat.le_of_ble_eq_true rfl⟩ (fun E v H locs ce q9 h1 hP hD hS hce hcv hcl => ?_) (fun r v H locs h1 hP hD hS => ?_)
  · replace hP := kP_perm (pFO cy ad hh aa pa ho v f).symm hP
    replace hD := kD_perm (pFO cy ad hh aa pa ho v f).symm hD
    obtain ⟨hE, h1⟩ := h1
    replace hE : E = "java/lang/IllegalArgumentException" := hE
    subst hE
    refine vx_catch hown [] ⟨0, 12, 15, 18⟩ [] htab (fun z hz => absurd hz List.not_mem_nil) rfl (by decide) (hts _ (List.mem_of_getElem? (i := 1) rfl)) (hZ.cast (E := "java/lang/IllegalArgumentException") (by decide) _ List.mem_cons_self) hce hcv hcl ?_
    refine lv_astore (lv' := [(5, .ref q9), (0, .ref (ad 0)), (1, .int p1), (2, .int p2), (3, .int p3), (4, .ref ho)]) hx hb dL_setWinch_15 hl (by decide) rfl (fun ls hl => ?_)
    refine lv_iconst (v := 1) hx hb dL_setWinch_17 rfl ?_
    exact lh_ret (mk := wFO cy ad hh aa pa ho) (u := (v, f)) hx hb hr hlocks hP hD hS h1 (by decide) (by decide) dL_setWinch_18
  · replace hP := kP_perm (pFO cy ad hh aa pa ho v f).symm hP
    replace hD := kD_perm (pFO cy ad hh aa pa ho v f).symm hD
    refine lv_i2l (v := r.toInt64) hx hb dL_setWinch_10 rfl ?_
    refine va_last (ws := wFO cy ad hh aa pa ho (v, f)) (cA := cy 3) (n := 1) (f := f) hx hb hK.1 hP hD hS 0 3 rfl rfl (inb_vp (by decide)) dL_setWinch_11 (fun H locs hP hD hS => ?_)
    replace hP : va_P D vwCl (wFO cy ad hh aa pa ho (v, vp_updL f (Int32.toNatClampNeg 0) r.toInt64)) H := hP
    replace hD : va_D A (wFO cy ad hh aa pa ho (v, vp_updL f (Int32.toNatClampNeg 0) r.toInt64)) := hD
    refine lv_goto (tgt := 19) hx hb dL_setWinch_12 (by decide) ?_
    refine lv_iconst (v := 0) hx hb dL_setWinch_19 rfl ?_
    exact lh_ret (mk := wFO cy ad hh aa pa ho) (u := (v, vp_updL f (Int32.toNatClampNeg 0) r.toInt64)) hx hb hr hlocks hP hD hS h1 (by decide) (by decide) dL_setWinch_20
-- setCross
theorem hlX9_setCross : yX9_setCross.cls = RX9 ∧ yX9_setCross.cls ≠ "java/lang/invoke/MethodHandle" ∧ yX9_setCross.cls ≠ "java/lang/invoke/VarHandle" ∧ (parseMethodDescriptor yX9_setCross.desc).map (fun d => d.parameters.length) = some 2 := by decide +kernel
abbrev rmL_setCross : Room := { frames := 8, cells := 1, slots := 6, locals := 180 }
set_option maxHeartbeats 4000000 in
set_option maxRecDepth 100000 in
theorem cL_setCrossM (l : Launch) (hfl : l.stackTraces = false) (D : va_G) (cy : Nat → ClassId) (za zv : Nat → Nat) (ad hh : Nat → Nat) (aa : Nat → Nat → Nat) (pa : Nat → Nat) (ho : Nat) (sz : Nat) (u : FS) (f : Nat → Int64) (p1 : Int32) (p2 : Int32) (K : Int32 → FS × (Nat → Int64) → Prop) (h1 : Ok (fX9_setCross p1 p2 u) (lhK1 "java/lang/IllegalArgumentException" f K)) : vx_Met l yL_setCross wsL_setCross rmL_setCross (va_Pc [.ref (ad 0), .int p1, .int p2, .ref ho] (kPreL D cy za zv sz (wFO cy ad hh aa pa ho (u, f)))) (va_Qi K (fun q => kPost D (va_A (wFO cy ad hh aa pa ho (u, f)) sz) (wFO cy ad hh aa pa ho q)) (va_A (wFO cy ad hh aa pa ho (u, f)) sz)) (vx_X (fun _ : Unit => False) (fun _ _ _ => False) (va_A (wFO cy ad hh aa pa ho (u, f)) sz)) 1 6 (va_A (wFO cy ad hh aa pa ho (u, f)) sz) := by
  refine vx_ofWH (cc := cL_setCross) (maxL := 5) (ret := some .int) (hh := [(0, 10, 13, 18)]) (by decide) rfl ?_
  intro p e s m args below meth c s₁ B hml hv
  obtain ⟨rfl, ⟨⟨hsz, hP, hK, hD0⟩, hZ⟩, hN⟩ := hv
  subst hsz
  have hts := atoms_spec (ws := wsL_setCross) B.pre
  have htab := vx_table (x := yL_appendText) B (hts _ List.mem_cons_self)
  have hx := B.exec
  have hb := B.bytes
  have hr := B.returns
  have hown : s.vm.findClass RL = some m.cls := findClass_of_methodNamed B.named
  have hlocks := B.notSynchronized
  have hD := hD0.self (sz := s.heap.size)
  have hA : ∀ q, s.heap.size ≤ q → va_A (wFO cy ad hh aa pa ho (u, f)) s.heap.size q := fun q h => Or.inr h
  generalize va_A (wFO cy ad hh aa pa ho (u, f)) s.heap.size = A at hZ hD hA ⊢
  have hS : va_S A s.heap s.heap [] := va_S.rf
  have hl := lv_entry ([.ref (ad 0), .int p1, .int p2, .ref ho]) (n := 5) (Nat.le_of_ble_eq_true rfl)
  rw [lg_entry_eq]
  generalize (lg_sl ([.ref (ad 0), .int p1, .int p2, .ref ho]) ++ List.replicate (5 - (lg_sl ([.ref (ad 0), .int p1, .int p2, .ref ho])).length) Slot.unset).toArray = ls at hl ⊢
  have hl : lv_has ls 5 [(0, .ref (ad 0)), (1, .int p1), (2, .int p2), (3, .ref ho)] := hl
  refine lv_aload_n hx hb dL_setCross_0 rfl (lv_at hl 3 rfl) ?_
  refine lv_iconst (v := 0) hx hb dL_setCross_1 rfl ?_
  refine lv_aload_n hx hb dL_setCross_2 rfl (lv_at hl 0 rfl) ?_
  refine lv_iload_n hx hb dL_setCross_3 rfl (lv_at hl 1 rfl) ?_
  refine lv_iload_n hx hb dL_setCross_4 rfl (lv_at hl 2 rfl) ?_
  refine lc_xV (mk := wF cy ad hh aa pa) (b := (ad 0)) (As := [.int p1, .int p2]) (rest := [.int 0, .ref ho]) h1 ⟨hx, hb, hml, hown, hts⟩ (cX9_setCrossM l hfl D cy za zv ad hh aa pa s.heap.size u p1 p2) (cwV 2 hts gL_setCross_X9_setCross rfl rfl rfl hlX9_setCross ⟨Nat.le_of_ble_eq_true rfl, Nat.le_of_ble_eq_true rfl⟩) hZ hK (pFO cy ad hh aa pa ho u f) hP hD hS hA (q0 := 0) (wF_c0 _ _ _ _ _ _) rfl rfl hl.1 rfl (Nat.le_of_ble_eq_true rfl) dL_setCross_5 ⟨Nat.le_of_ble_eq_true rfl, Nat.le_of_ble_eq_true rfl⟩ (fun E v H locs ce q9 h1 hP hD hS hce hcv hcl => ?_) (fun r v H locs h1 hP hD hS => ?_)
  · replace hP := kP_perm (pFO cy ad hh aa pa ho v f).symm hP
    replace hD := kD_perm (pFO cy ad hh aa pa ho v f).symm hD
    obtain ⟨hE, h1⟩ := h1
    replace hE : E = "java/lang/IllegalArgumentException" := hE
    subst hE
    refine vx_catch hown [] ⟨0, 10, 13, 18⟩ [] htab (fun z hz => absurd hz List.not_mem_nil) rfl (by decide) (hts _ (List.mem_of_getElem? (i := 1) rfl)) (hZ.cast (E := "java/lang/IllegalArgumentException") (by decide) _ List.mem_cons_self) hce hcv hcl ?_
    refine lv_astore (lv' := [(4, .ref q9), (0, .ref (ad 0)), (1, .int p1), (2, .int p2), (3, .ref ho)]) hx hb dL_setCross_13 hl (by decide) rfl (fun ls hl => ?_)
    refine lv_iconst (v := 1) hx hb dL_setCross_15 rfl ?_
    exact lh_ret (mk := wFO cy ad hh aa pa ho) (u := (v, f)) hx hb hr hlocks hP hD hS h1 (by decide) (by decide) dL_setCross_16
  · replace hP := kP_perm (pFO cy ad hh aa pa ho v f).symm hP
    replace hD := kD_perm (pFO cy ad hh aa pa ho v f).symm hD
    refine lv_i2l (v := r.toInt64) hx hb dL_setCross_8 rfl ?_
    refine va_last (ws := wFO cy ad hh aa pa ho (v, f)) (cA := cy 3) (n := 1) (f := f) hx hb hK.1 hP hD hS 0 3 rfl rfl (inb_vp (by decide)) dL_setCross_9 (fun H locs hP hD hS => ?_)
    replace hP : va_P D vwCl (wFO cy ad hh aa pa ho (v, vp_updL f (Int32.toNatClampNeg 0) r.toInt64)) H := hP
    replace hD : va_D A (wFO cy ad hh aa pa ho (v, vp_updL f (Int32.toNatClampNeg 0) r.toInt64)) := hD
    refine lv_goto (tgt := 17) hx hb dL_setCross_10 (by decide) ?_
    refine lv_iconst (v := 0) hx hb dL_setCross_17 rfl ?_
    exact lh_ret (mk := wFO cy ad hh aa pa ho) (u := (v, vp_updL f (Int32.toNatClampNeg 0) r.toInt64)) hx hb hr hlocks hP hD hS h1 (by decide) (by decide) dL_setCross_18
