/-! the law's object, made -/
section JK
variable {p : Program} {l : Launch} {e : Env} {R : Room} {s : State} {m : MethodId} {args : Array Value} {below : List Frame} {meth : Method} {c : Code} {H H0 : Heap} {locs : List Loc} {cells slots : Nat} {Q : State → Prop}
variable {D : va_G} {cy : Nat → ClassId} {ws wc wr : va_W} {A : Nat → Prop} {za zv : Nat → Nat} {Y : YB} {As : List Value}
/-- what the law's constructor wants besides: the class of arrays of States -/
def kPreW (D : va_G) (cy : Nat → ClassId) (za zv : Nat → Nat) (Y : YB) (sz : Nat) (ws : va_W) (U : State) : Prop := kPreY D cy za zv Y sz ws U ∧ va_AO "FerryRamp$State" U
theorem k_preSW (hQ : va_AO "FerryRamp$State" s) (hY : mY Y A s s.heap) (hZ : mZ za zv A s s.heap) (hS : va_S A s.heap H locs) (hF : ∀ q, va_A wc H.size q → A q) (hK : mK D cy s) (hP : va_P D kCl wc H) (hD : va_D A wc) : PreS s H (va_Pc As (kPreW D cy za zv Y H.size wc)) As := by
  refine ⟨fun a U g mk q => ?_, fun U hU hW => ⟨rfl, ⟨⟨⟨by rw [hU], by rw [hU]; exact hP, hK.warm hW, hD.weaken (fun _ _ _ _ => trivial)⟩, hZ.at hS hF hU hW⟩, hY.at hS hF hU hW⟩, va_AO.moved hW.alike hQ⟩⟩
  obtain ⟨h0, ⟨⟨⟨h1, h2, h3, h4⟩, h5⟩, h6⟩, h7⟩ := q
  exact ⟨h0, ⟨⟨⟨h1, h2, h3.calling, h4⟩, h5.calling⟩, h6.calling⟩, va_AO.moved (u := U) (U := U.calling g mk a) (Vm.Alike.refl U.vm) h7⟩
end JK
theorem inJ5_init_J4 : ∀ w ∈ u_ws RJ4 TJ4 4, w ∈ wsJ5_init_d00df := k_lays 16 rfl
theorem lkJ5_init_18 : Cond.fieldLink RJ5 18 "java/lang/String" "COMPACT_STRINGS" "Z" ∈ wsJ5_init_d00df := List.mem_of_getElem? (i := 4) rfl
theorem lkJ5_init_15 : Cond.fieldLink RJ5 15 "java/lang/AbstractStringBuilder" "value" "[B" ∈ wsJ5_init_d00df := List.mem_of_getElem? (i := 6) rfl
theorem lkJ5_init_22 : Cond.fieldLink RJ5 22 "java/lang/AbstractStringBuilder" "coder" "B" ∈ wsJ5_init_d00df := List.mem_of_getElem? (i := 7) rfl
abbrev rmJ5_init : Room := { frames := 2, cells := 1, slots := 16, locals := 60 }
set_option maxHeartbeats 4000000 in
set_option maxRecDepth 100000 in
theorem cJ5_initM (l : Launch) (D : va_G) (cy : Nat → ClassId) (za zv : Nat → Nat) (Y : YB) (sz gb : Nat) : Met l yJ5_init_d00df wsJ5_init_d00df rmJ5_init (va_Pc [.ref gb, .int 16] (kPreY D cy za zv Y sz ([(gb, .inr (5, [.null, .int 0, .int 0, .int 0]))]))) (va_Qv (fun _ : Nat => True) (fun q => kPost D (va_A ([(gb, .inr (5, [.null, .int 0, .int 0, .int 0]))]) sz) (wSB cy gb q 16 (fun _ => 0) 0 0)) (va_A ([(gb, .inr (5, [.null, .int 0, .int 0, .int 0]))]) sz)) 1 16 (va_A ([(gb, .inr (5, [.null, .int 0, .int 0, .int 0]))]) sz) := by
  refine Met.ofW (cc := cJ5_init_d00df) (maxL := 2) (ret := none) (by decide) rfl ?_
  intro p e s m args below meth c s₁ B hml hv
  obtain ⟨rfl, ⟨⟨hsz, hP, hK, hD0⟩, hZ⟩, hY⟩ := hv
  subst hsz
  have hx := B.exec
  have hb := B.bytes
  have hr := B.returns
  have hts := atoms_spec (ws := wsJ5_init_d00df) B.pre
  have hown : s.vm.findClass RJ5 = some m.cls := findClass_of_methodNamed B.named
  have hin : meth.name = "<init>" := (name_of_methodNamed B.named B.method).1
  have hlocks := B.notSynchronized
  have hA : ∀ q, s.heap.size ≤ q → va_A ([(gb, .inr (5, [.null, .int 0, .int 0, .int 0]))]) s.heap.size q := fun q h => Or.inr h
  have hS : va_S (va_A ([(gb, .inr (5, [.null, .int 0, .int 0, .int 0]))]) s.heap.size) s.heap s.heap [] := va_S.rf
  have hD : va_D (va_A ([(gb, .inr (5, [.null, .int 0, .int 0, .int 0]))]) s.heap.size) ([(gb, .inr (5, [.null, .int 0, .int 0, .int 0]))]) := hD0.self
  have hl := lv_entry ([.ref gb, .int 16]) (n := 2) (Nat.le_of_ble_eq_true rfl)
  rw [lg_entry_eq]
  generalize (lg_sl ([.ref gb, .int 16]) ++ List.replicate (2 - (lg_sl ([.ref gb, .int 16])).length) Slot.unset).toArray = ls at hl ⊢
  have hl : lv_has ls 2 [(0, .ref gb), (1, .int 16)] := hl
  refine lv_aload_n hx hb dJ5_init_d00df_0 rfl (lv_at hl 0 rfl) ?_
  refine W.objInit hx hb hown (hts _ (List.mem_of_getElem? (i := 1) rfl)) (hts _ (List.mem_of_getElem? (i := 2) rfl)) (hts _ (List.mem_of_getElem? (i := 3) rfl)) rfl (by rw [hml]; exact hl.1) rfl dJ5_init_d00df_1 (Nat.le_of_ble_eq_true rfl) (Nat.le_of_ble_eq_true rfl) ?_
  refine W.eq (g2 := F0 m 4 ls []) rfl ?_
  refine va_gets hx hb hZ.1 hS hown (hts _ lkJ5_init_18) (fun _ h => h) dJ5_init_d00df_4 ?_
  refine lv_if_eq (tgt := 25) hx hb dJ5_init_d00df_7 (by decide) (fun c7 => absurd c7 (by decide)) (fun _ => ?_)
  refine lv_aload_n hx hb dJ5_init_d00df_10 rfl (lv_at hl 0 rfl) ?_
  refine lv_iload_n hx hb dJ5_init_d00df_11 rfl (lv_at hl 1 rfl) ?_
  refine k_newb (k := 16) hx hb (hts _ (List.mem_of_getElem? (i := 5) rfl)) hK hP hD hS hA (by decide) rfl (by decide) (Nat.le_of_ble_eq_true rfl) (Nat.le_of_ble_eq_true rfl) dJ5_init_d00df_12 (fun q H hP hD hS => ?_)
  refine W.widen (k := 1) (n := 16) (Nat.le_of_ble_eq_true rfl) (Nat.le_of_ble_eq_true rfl) ?_
  replace hP : va_P D kCl [(gb, .inr (5, [.null, .int 0, .int 0, .int 0])), (q, .inl (cy 3, 16, .inl (fun _ => 0)))] _ := hP
  replace hD : va_D (va_A ([(gb, .inr (5, [.null, .int 0, .int 0, .int 0]))]) s.heap.size) [(gb, .inr (5, [.null, .int 0, .int 0, .int 0])), (q, .inl (cy 3, 16, .inl (fun _ => 0)))] := hD
  refine k_put (v := .ref q) (ty := (.array .byte)) (C := RJ4) (T := TJ4) (N := 4) hx hb hts inJ5_init_J4 tyJ4 tyJ4_ok nmJ4 hown hK hP hD hS 0 rfl rfl 0 (by decide) lkJ5_init_15 rfl (by decide +kernel) rfl rfl (Nat.le_of_ble_eq_true rfl) (ws' := [(gb, .inr (5, [.ref q, .int 0, .int 0, .int 0])), (q, .inl (cy 3, 16, .inl (fun _ => 0)))]) rfl dJ5_init_d00df_14 (fun H locs hP hD hS => ?_)
  refine lv_aload_n hx hb dJ5_init_d00df_17 rfl (lv_at hl 0 rfl) ?_
  refine lv_iconst (v := 0) hx hb dJ5_init_d00df_18 rfl ?_
  refine k_put (v := .int 0) (ty := .byte) (C := RJ4) (T := TJ4) (N := 4) hx hb hts inJ5_init_J4 tyJ4 tyJ4_ok nmJ4 hown hK hP hD hS 0 rfl rfl 1 (by decide) lkJ5_init_22 rfl (by decide +kernel) rfl rfl (Nat.le_of_ble_eq_true rfl) (ws' := [(gb, .inr (5, [.ref q, .int 0, .int 0, .int 0])), (q, .inl (cy 3, 16, .inl (fun _ => 0)))]) rfl dJ5_init_d00df_19 (fun H locs hP hD hS => ?_)
  refine lv_goto (tgt := 38) hx hb dJ5_init_d00df_22 (by decide) ?_
  exact W.vret hx hb hr (fun t ht hW => ⟨⟨q, rfl, trivial, by rw [ht]; exact hP, hD⟩, hS.F ht⟩) hS.2.2 dJ5_init_d00df_38 hlocks
theorem heJ5_init : yJ5_init_d00df.cls ≠ "java/lang/invoke/MethodHandle" ∧ yJ5_init_d00df.cls ≠ "java/lang/invoke/VarHandle" ∧ (parseMethodDescriptor yJ5_init_d00df.desc).map (fun d => d.parameters.length) = some 1 := by decide +kernel
theorem heJ4_init : yJ4_init_da8c8.cls ≠ "java/lang/invoke/MethodHandle" ∧ yJ4_init_da8c8.cls ≠ "java/lang/invoke/VarHandle" ∧ (parseMethodDescriptor yJ4_init_da8c8.desc).map (fun d => d.parameters.length) = some 0 := by decide +kernel
theorem heX9_init : yX9_init.cls ≠ "java/lang/invoke/MethodHandle" ∧ yX9_init.cls ≠ "java/lang/invoke/VarHandle" ∧ (parseMethodDescriptor yX9_init.desc).map (fun d => d.parameters.length) = some 0 := by decide +kernel
theorem heL_init : yL_init.cls ≠ "java/lang/invoke/MethodHandle" ∧ yL_init.cls ≠ "java/lang/invoke/VarHandle" ∧ (parseMethodDescriptor yL_init.desc).map (fun d => d.parameters.length) = some 0 := by decide +kernel
theorem dvX9 : ∀ j, j < 9 → defaultValue (tyX9 j) = vp_V [.null, .null, .null, .null, .null, .null, .null, .null, .int 0] j := by decide +kernel
theorem dvL : ∀ j, j < 4 → defaultValue (tyL j) = vp_V [.null, .null, .int 0, .null] j := by decide +kernel
theorem dvJ4 : ∀ j, j < 4 → defaultValue (tyJ4 j) = vp_V [.null, .int 0, .int 0, .int 0] j := by decide +kernel
abbrev rmJ4_init : Room := { frames := 3, cells := 1, slots := 16, locals := 100 }
set_option maxHeartbeats 4000000 in
set_option maxRecDepth 100000 in
theorem cJ4_initM (l : Launch) (D : va_G) (cy : Nat → ClassId) (za zv : Nat → Nat) (Y : YB) (sz gb : Nat) : Met l yJ4_init_da8c8 wsJ4_init_da8c8 rmJ4_init (va_Pc [.ref gb] (kPreY D cy za zv Y sz ([(gb, .inr (5, [.null, .int 0, .int 0, .int 0]))]))) (va_Qv (fun _ : Nat => True) (fun q => kPost D (va_A ([(gb, .inr (5, [.null, .int 0, .int 0, .int 0]))]) sz) (wSB cy gb q 16 (fun _ => 0) 0 0)) (va_A ([(gb, .inr (5, [.null, .int 0, .int 0, .int 0]))]) sz)) 1 16 (va_A ([(gb, .inr (5, [.null, .int 0, .int 0, .int 0]))]) sz) := by
  refine Met.ofW (cc := cJ4_init_da8c8) (maxL := 1) (ret := none) (by decide) rfl ?_
  intro p e s m args below meth c s₁ B hml hv
  obtain ⟨rfl, ⟨⟨hsz, hP, hK, hD0⟩, hZ⟩, hY⟩ := hv
  subst hsz
  have hx := B.exec
  have hb := B.bytes
  have hr := B.returns
  have hts := atoms_spec (ws := wsJ4_init_da8c8) B.pre
  have hown : s.vm.findClass RJ4 = some m.cls := findClass_of_methodNamed B.named
  have hin : meth.name = "<init>" := (name_of_methodNamed B.named B.method).1
  have hlocks := B.notSynchronized
  have hA : ∀ q, s.heap.size ≤ q → va_A ([(gb, .inr (5, [.null, .int 0, .int 0, .int 0]))]) s.heap.size q := fun q h => Or.inr h
  have hS : va_S (va_A ([(gb, .inr (5, [.null, .int 0, .int 0, .int 0]))]) s.heap.size) s.heap s.heap [] := va_S.rf
  have hD : va_D (va_A ([(gb, .inr (5, [.null, .int 0, .int 0, .int 0]))]) s.heap.size) ([(gb, .inr (5, [.null, .int 0, .int 0, .int 0]))]) := hD0.self
  have hl := lv_entry ([.ref gb]) (n := 1) (Nat.le_of_ble_eq_true rfl)
  rw [lg_entry_eq]
  generalize (lg_sl ([.ref gb]) ++ List.replicate (1 - (lg_sl ([.ref gb])).length) Slot.unset).toArray = ls at hl ⊢
  have hl : lv_has ls 1 [(0, .ref gb)] := hl
  refine lv_aload_n hx hb dJ4_init_da8c8_0 rfl (lv_at hl 0 rfl) ?_
  refine lv_bipush (v := 16) hx hb dJ4_init_da8c8_1 rfl ?_
  have hp : ([(gb, .inr (5, [.null, .int 0, .int 0, .int 0]))] : va_W).Perm ([(gb, .inr (5, [.null, .int 0, .int 0, .int 0]))] ++ []) := by rw [List.append_nil]
  refine jr_v (As := [.ref gb, .int 16]) (rest := []) (mk := fun q : Nat => wSB cy gb q 16 (fun _ => 0) 0 0) (va_runI (b := gb) (As := [.int 16]) ⟨hx, hb, hml, hown, hts⟩ (cJ5_initM l D cy za zv Y s.heap.size gb) (cwI 1 hts gJ4_init_da8c8_J5_init_d00df rfl rfl rfl (hts _ (List.mem_of_getElem? (i := 3) rfl)) (hts _ (List.mem_of_getElem? (i := 1) rfl)) (hts _ (List.mem_of_getElem? (i := 2) rfl)) rfl heJ5_init ⟨Nat.le_of_ble_eq_true rfl, Nat.le_of_ble_eq_true rfl⟩) (k_preSY hY hZ hS (k_free hp hD hS hA) hK hP hD) rfl rfl hl.1 rfl (lv_room (Nat.le_of_ble_eq_true rfl)) dJ4_init_da8c8_3 ⟨Nat.le_of_ble_eq_true rfl, Nat.le_of_ble_eq_true rfl⟩) hp hP hD hS hA (fun q H locs _ hP hD hS => ?_)
  replace hP : va_P D kCl (wSB cy gb q 16 (fun _ => 0) 0 0) H := by
    rw [← List.append_nil (wSB cy gb q 16 (fun _ => 0) 0 0)]
    exact hP
  replace hD : va_D (va_A ([(gb, .inr (5, [.null, .int 0, .int 0, .int 0]))]) s.heap.size) (wSB cy gb q 16 (fun _ => 0) 0 0) := by
    rw [← List.append_nil (wSB cy gb q 16 (fun _ => 0) 0 0)]
    exact hD
  refine W.widen (k := 1) (n := 16) (Nat.le_of_ble_eq_true rfl) (Nat.le_of_ble_eq_true rfl) ?_
  exact W.vret hx hb hr (fun t ht hW => ⟨⟨q, rfl, trivial, by rw [ht]; exact hP, hD⟩, hS.F ht⟩) hS.2.2 dJ4_init_da8c8_6 hlocks
/-- the law's object as it is made -/
abbrev LiS : Type := (Nat → Nat) × (Nat → Nat) × (Nat → Nat → Nat) × (Nat → Nat) × KS × Nat × Nat
def liW (cy : Nat → ClassId) (hL : Nat) (q : LiS) : va_W := [(hL, .inr (4, [.ref (q.1 0), .null, .int 0, .ref q.2.2.2.2.2.1]))] ++ wF cy q.1 q.2.1 q.2.2.1 q.2.2.2.1 (gN FS0 q.2.2.2.2.1) ++ wSB cy q.2.2.2.2.2.1 q.2.2.2.2.2.2 16 (fun _ => 0) 0 0
theorem new_t : ∃ u', bnd (fX8_becomeNew KS0) (fun u => bnd (fX8_becomeLevel u) some) = some u' := by
  obtain ⟨u1, g, e1, ⟨D, S⟩, -⟩ := bn_all KS0
  obtain ⟨u', e2, -⟩ := lv_good D S
  exact ⟨u', by rw [e1, qa_b, e2, qa_b]⟩
theorem inL_init_X9 : ∀ w ∈ u_ws RX9 TX9 9, w ∈ wsL_init := k_lays 128 rfl
theorem inL_init_L : ∀ w ∈ u_ws RL TL 4, w ∈ wsL_init := k_lays 137 rfl
theorem inL_init_J4 : ∀ w ∈ u_ws RJ4 TJ4 4, w ∈ wsL_init := k_lays 141 rfl
theorem lkL_init_10 : Cond.fieldLink RL 10 "FerryRampLaw" "x" "LFerryRamp;" ∈ wsL_init := List.mem_of_getElem? (i := 7) rfl
theorem lkL_init_19 : Cond.fieldLink RL 19 "FerryRampLaw" "text" "Ljava/lang/StringBuilder;" ∈ wsL_init := List.mem_of_getElem? (i := 11) rfl
abbrev rmL_init : Room := { frames := 8, cells := 144, slots := 9076, locals := 200 }
set_option maxHeartbeats 4000000 in
set_option maxRecDepth 100000 in
theorem cL_initM (l : Launch) (D : va_G) (cy : Nat → ClassId) (za zv : Nat → Nat) (Y : YB) (sz hL : Nat) : Met l yL_init wsL_init rmL_init (va_Pc [.ref hL] (kPreW D cy za zv Y sz ([(hL, .inr (4, [.null, .null, .int 0, .null]))]))) (va_Qv (fun _ : LiS => True) (fun q => kPost D (va_A ([(hL, .inr (4, [.null, .null, .int 0, .null]))]) sz) (liW cy hL q)) (va_A ([(hL, .inr (4, [.null, .null, .int 0, .null]))]) sz)) 144 9076 (va_A ([(hL, .inr (4, [.null, .null, .int 0, .null]))]) sz) := by
  obtain ⟨u0, e0⟩ := new_t
  refine Met.ofW (cc := cL_init) (maxL := 1) (ret := none) (by decide) rfl ?_
  intro p e s m args below meth c s₁ B hml hv
  obtain ⟨rfl, ⟨⟨⟨hsz, hP, hK, hD0⟩, hZ⟩, hY⟩, hQ⟩ := hv
  subst hsz
  have hx := B.exec
  have hb := B.bytes
  have hr := B.returns
  have hts := atoms_spec (ws := wsL_init) B.pre
  have hown : s.vm.findClass RL = some m.cls := findClass_of_methodNamed B.named
  have hin : meth.name = "<init>" := (name_of_methodNamed B.named B.method).1
  have hlocks := B.notSynchronized
  have hA : ∀ q, s.heap.size ≤ q → va_A ([(hL, .inr (4, [.null, .null, .int 0, .null]))]) s.heap.size q := fun q h => Or.inr h
  have hS : va_S (va_A ([(hL, .inr (4, [.null, .null, .int 0, .null]))]) s.heap.size) s.heap s.heap [] := va_S.rf
  have hD : va_D (va_A ([(hL, .inr (4, [.null, .null, .int 0, .null]))]) s.heap.size) ([(hL, .inr (4, [.null, .null, .int 0, .null]))]) := hD0.self
  have hl := lv_entry ([.ref hL]) (n := 1) (Nat.le_of_ble_eq_true rfl)
  rw [lg_entry_eq]
  generalize (lg_sl ([.ref hL]) ++ List.replicate (1 - (lg_sl ([.ref hL])).length) Slot.unset).toArray = ls at hl ⊢
  have hl : lv_has ls 1 [(0, .ref hL)] := hl
  refine lv_aload_n hx hb dL_init_0 rfl (lv_at hl 0 rfl) ?_
  refine W.objInit hx hb hown (hts _ (List.mem_of_getElem? (i := 1) rfl)) (hts _ (List.mem_of_getElem? (i := 2) rfl)) (hts _ (List.mem_of_getElem? (i := 3) rfl)) rfl (by rw [hml]; exact hl.1) rfl dL_init_1 (Nat.le_of_ble_eq_true rfl) (Nat.le_of_ble_eq_true rfl) ?_
  refine W.eq (g2 := F0 m 4 ls []) rfl ?_
  refine lv_aload_n hx hb dL_init_4 rfl (lv_at hl 0 rfl) ?_
  refine va_new (C := RX9) (T := TX9) (N := 9) (ci := 3) (fs := [.null, .null, .null, .null, .null, .null, .null, .null, .int 0]) hx hb hts inL_init_X9 tyX9 tyX9_ok hown (hts _ (List.mem_of_getElem? (i := 4) rfl)) (hts _ (List.mem_of_getElem? (i := 5) rfl)) (hts _ (List.mem_of_getElem? (i := 6) rfl)) hK.1 hP hD hS hA rfl dvX9 (Nat.le_of_ble_eq_true rfl) (Nat.le_of_ble_eq_true rfl) dL_init_5 (fun q0 H hP hD hS => ?_)
  refine W.widen (k := 1) (n := 9) (Nat.le_of_ble_eq_true rfl) (Nat.le_of_ble_eq_true rfl) ?_
  refine lv_dup hx hb dL_init_8 rfl ?_
  refine kc_cQ (ws := [(hL, .inr (4, [.null, .null, .int 0, .null]))]) (rest := [.ref q0, .ref hL]) ⟨hx, hb, hml, hown, hts⟩ (cX9_initM l D cy q0 H.size (fun _ => True) ⟨u0, e0, trivial⟩) (cwI 0 hts gL_init_X9_init rfl rfl rfl (hts _ (List.mem_of_getElem? (i := 6) rfl)) (hts _ (List.mem_of_getElem? (i := 12) rfl)) (hts _ (List.mem_of_getElem? (i := 13) rfl)) rfl heX9_init ⟨Nat.le_of_ble_eq_true rfl, Nat.le_of_ble_eq_true rfl⟩) hQ hK hP hD hS hA hl.1 (Nat.le_of_ble_eq_true rfl) dL_init_9 ⟨Nat.le_of_ble_eq_true rfl, Nat.le_of_ble_eq_true rfl⟩ (fun v H1 locs1 hk hPa hDa hSa => ?_)
  refine W.widen (k := 142) (n := 9056) (Nat.le_of_ble_eq_true rfl) (Nat.le_of_ble_eq_true rfl) ?_
  obtain ⟨ad, hh, aa, pa, u⟩ := v
  replace hk : ad 0 = q0 := hk.1
  subst hk
  replace hPa : va_P D kCl ([(hL, .inr (4, [.null, .null, .int 0, .null]))] ++ wF cy ad hh aa pa (gN FS0 u)) H1 := hPa
  replace hDa : va_D (va_A ([(hL, .inr (4, [.null, .null, .int 0, .null]))]) s.heap.size) ([(hL, .inr (4, [.null, .null, .int 0, .null]))] ++ wF cy ad hh aa pa (gN FS0 u)) := hDa
  clear hP hD hS
  refine k_putF (v := .ref (ad 0)) (ty := (.object "FerryRamp")) (C := RL) (T := TL) (N := 4) hx hb hts inL_init_L tyL tyL_ok nmL hown hK hPa hDa hSa 0 rfl rfl 0 (by decide) lkL_init_10 rfl hin rfl (by decide +kernel) rfl rfl (Nat.le_of_ble_eq_true rfl) (ws' := [(hL, .inr (4, [.ref (ad 0), .null, .int 0, .null]))] ++ wF cy ad hh aa pa (gN FS0 u)) rfl dL_init_12 (fun H locs hP hD hS => ?_)
  refine lv_aload_n hx hb dL_init_15 rfl (lv_at hl 0 rfl) ?_
  refine va_new (C := RJ4) (T := TJ4) (N := 4) (ci := 5) (fs := [.null, .int 0, .int 0, .int 0]) hx hb hts inL_init_J4 tyJ4 tyJ4_ok hown (hts _ (List.mem_of_getElem? (i := 8) rfl)) (hts _ (List.mem_of_getElem? (i := 9) rfl)) (hts _ (List.mem_of_getElem? (i := 10) rfl)) hK.1 hP hD hS hA rfl dvJ4 (Nat.le_of_ble_eq_true rfl) (Nat.le_of_ble_eq_true rfl) dL_init_16 (fun gb H hP hD hS => ?_)
  refine W.widen (k := 143) (n := 9060) (Nat.le_of_ble_eq_true rfl) (Nat.le_of_ble_eq_true rfl) ?_
  refine lv_dup hx hb dL_init_19 rfl ?_
  have hp : (([(hL, .inr (4, [.ref (ad 0), .null, .int 0, .null]))] ++ wF cy ad hh aa pa (gN FS0 u)) ++ [(gb, .inr (5, [.null, .int 0, .int 0, .int 0]))] : va_W).Perm ([(gb, .inr (5, [.null, .int 0, .int 0, .int 0]))] ++ ([(hL, .inr (4, [.ref (ad 0), .null, .int 0, .null]))] ++ wF cy ad hh aa pa (gN FS0 u))) := List.perm_append_comm
  have hP' := kP_app.mp (kP_perm hp hP)
  have hD' := kD_app (kD_perm hp hD)
  refine jr_v (As := [.ref gb]) (rest := [.ref gb, .ref hL]) (mk := fun q : Nat => wSB cy gb q 16 (fun _ => 0) 0 0) (va_runI (b := gb) (As := []) ⟨hx, hb, hml, hown, hts⟩ (cJ4_initM l D cy za zv Y H.size gb) (cwI 0 hts gL_init_J4_init_da8c8 rfl rfl rfl (hts _ (List.mem_of_getElem? (i := 10) rfl)) (hts _ (List.mem_of_getElem? (i := 108) rfl)) (hts _ (List.mem_of_getElem? (i := 109) rfl)) rfl heJ4_init ⟨Nat.le_of_ble_eq_true rfl, Nat.le_of_ble_eq_true rfl⟩) (k_preSY hY hZ hS (k_free hp hD hS hA) hK hP'.1 hD'.1) rfl rfl hl.1 rfl (lv_room (Nat.le_of_ble_eq_true rfl)) dL_init_20 ⟨Nat.le_of_ble_eq_true rfl, Nat.le_of_ble_eq_true rfl⟩) hp hP hD hS hA (fun v H locs _ hP hD hS => ?_)
  refine W.widen (k := 144) (n := 9076) (Nat.le_of_ble_eq_true rfl) (Nat.le_of_ble_eq_true rfl) ?_
  replace hP := kP_perm List.perm_append_comm hP
  replace hD := kD_perm List.perm_append_comm hD
  refine k_putF (v := .ref gb) (ty := (.object "java/lang/StringBuilder")) (C := RL) (T := TL) (N := 4) hx hb hts inL_init_L tyL tyL_ok nmL hown hK hP hD hS 0 rfl rfl 3 (by decide) lkL_init_19 rfl hin rfl (by decide +kernel) rfl rfl (Nat.le_of_ble_eq_true rfl) (ws' := liW cy hL (ad, hh, aa, pa, u, gb, v)) rfl dL_init_23 (fun H locs hP hD hS => ?_)
  exact W.vret hx hb hr (fun t ht hW => ⟨⟨(ad, hh, aa, pa, u, gb, v), rfl, trivial, by rw [ht]; exact hP, hD⟩, hS.F ht⟩) hS.2.2 dL_init_26 hlocks
