section KN2
variable {p : Program} {l : Launch} {e : Env} {R : Room} {s : State} {m : MethodId} {args : Array Value} {below : List Frame} {meth : Method} {c : Code} {H H0 : Heap} {locs : List Loc} {cells slots : Nat} {Q : State → Prop}
variable {Ts wy : List Cond} {cc bytes : ByteArray} {nL maxL index n q0 ci N mc ms pc : Nat} {own C host : String} {T : u_T} {y : MethodName} {ret : Option FieldType} {rm : Room} {b : Addr} {As rest st : List Value} {fs : List Value} {ls : Array Slot}
variable {D : va_G} {cy : Nat → ClassId} {ws wc wr : va_W} {A : Nat → Prop} {S γ : Type} {mk : S → va_W} {K0 : γ → Prop}
theorem k_arrq {cA : ClassId} {f g : Nat → Option Nat} (h : ∀ i, i < n → f i = g i) : vp_cell cA (n, .inr (.inr (.inr (.inr f)))) = vp_cell cA (n, .inr (.inr (.inr (.inr g)))) := by
  have e : (fun j : Fin n => va_rf (f j.val)) = fun j : Fin n => va_rf (g j.val) := funext fun j => by rw [h j.val j.isLt]
  rw [vp_cell_q, vp_cell_q]
  unfold arrV
  rw [e]
theorem kP_re (k : Nat) {a : Nat} {cA : ClassId} {f g : Nat → Option Nat} (hP : va_P D kCl ws H) (hD : va_D A ws) (he : ws[k]? = some (a, .inl (cA, n, .inr (.inr (.inr (.inr f)))))) (h : ∀ i, i < n → f i = g i) {ws' : va_W} (hw : ws.set k (a, .inl (cA, n, .inr (.inr (.inr (.inr g))))) = ws') : va_P D kCl ws' H ∧ va_D A ws' := by
  subst hw
  refine ⟨hP.set hD he ?_ (fun _ _ => rfl), hD.set he⟩
  show H[a]? = some (vp_cell _ _)
  rw [← k_arrq h]
  exact hP k _ he
theorem k_newq (hx : p.tables.exec = Jvm.exec) (hb : c.code = cc) (hown : s.vm.findClass own = some m.cls) (hclink : (Cond.classLink own index "FerryRamp$State").before args s = true) (hover : va_AO "FerryRamp$State" s) (hK : mK D cy s) (hP : va_P D kCl ws H) (hD : va_D A ws) (hS : va_S A H0 H locs) (hA : ∀ q, H0.size ≤ q → A q) {i : Int32} {k : Nat} (hn : ¬ i < 0) (hN : i.toNatClampNeg = k) (hbytes : k * 4 ≤ 536870912) (hc : cells + 1 ≤ R.cells) (hs : slots + k ≤ R.slots) (hdg : decode cc pc = .ok (.anewarray index, 3))
    (kk : ∀ (q : Nat) (H1 : Heap), va_P D kCl (ws ++ [(q, .inl (cy 2, k, .inr (.inr (.inr (.inr (fun _ => none))))))]) H1 → va_D A (ws ++ [(q, .inl (cy 2, k, .inr (.inr (.inr (.inr (fun _ => none))))))]) → va_S A H0 H1 locs → W p l e R s m args below meth c H1 locs (cells + 1) (slots + k) Q (F0 m (pc + 3) ls (.ref q :: rest))) : W p l e R s m args below meth c H locs cells slots Q (F0 m pc ls (.int i :: rest)) := by
  refine va_newq hx hb hown hclink hover hK.1 hP hD hS hA hn hN hbytes hc hs hdg (fun q cA H1 hK2 h1 h2 h3 => ?_)
  obtain ⟨_, _, _, _, _, e1⟩ := (hK2.2 4 _ rfl).2
  obtain ⟨_, _, _, _, _, e2⟩ := (hK.1.2 2 _ rfl).2
  have e : cA = cy 2 := Option.some.inj (e1.symm.trans e2)
  subst e
  exact kk q H1 h1 h2 h3
theorem k_aast (hx : p.tables.exec = Jvm.exec) (hb : c.code = cc) (hK : mK D cy s) (hP : va_P D kCl ws H) (hD : va_D A ws) (hS : va_S A H0 H locs) (q0 qk : Nat) {a n v : Nat} {f : Nat → Option Nat} {vs : List Value} (ha : ws[q0]? = some (a, .inl (cy 2, n, .inr (.inr (.inr (.inr f)))))) (hv : ws[qk]? = some (v, .inr (2, vs))) {i : Int32} {k : Nat} (hin : inb i n = true) (hi : ix i = k) {ws' : va_W} (hws : ws.set q0 (a, .inl (cy 2, n, .inr (.inr (.inr (.inr (va_up f k (some v))))))) = ws') (hdg : decode cc pc = .ok (.aastore, 1))
    (kk : ∀ (H1 : Heap) (locs1 : List Loc), va_P D kCl ws' H1 → va_D A ws' → va_S A H0 H1 locs1 → W p l e R s m args below meth c H1 locs1 cells slots Q (F0 m (pc + 1) ls rest)) : W p l e R s m args below meth c H locs cells slots Q (F0 m pc ls (.ref v :: .int i :: .ref a :: rest)) := by
  subst hi
  subst hws
  exact va_astq hx hb hK.1 hP hD hS q0 2 qk 2 (r := (RX8, TX8, 13)) ha rfl hv rfl (inb_vp hin) hdg kk
theorem kj_c {K : S → Prop} {E : va_E}
    (hr : va_Run p l e R s m args below meth c H locs cells slots mc ms (F0 m pc ls st) rest (va_Qv K (fun u => kPost D (va_A [(b, E)] H.size) (mk u)) (va_A [(b, E)] H.size) As.toArray) (va_A [(b, E)] H.size))
    (hP : va_P D kCl (ws ++ [(b, E)]) H) (hD : va_D A (ws ++ [(b, E)])) (hS : va_S A H0 H locs) (hA : ∀ q, H0.size ≤ q → A q)
    (kk : ∀ (u : S) (H1 : Heap) (locs1 : List Loc), K u → va_P D kCl (ws ++ mk u) H1 → va_D A (ws ++ mk u) → va_S A H0 H1 locs1 → W p l e R s m args below meth c H1 locs1 (cells + mc) (slots + ms) Q (F0 m (pc + 3) ls rest)) :
    W p l e R s m args below meth c H locs cells slots Q (F0 m pc ls st) := by
  have hp : (ws ++ [(b, E)]).Perm ([(b, E)] ++ ws) := List.perm_append_comm
  have hF := k_free hp hD hS hA
  refine va_callv hr hS (fun q _ h => hF q h) hF (fun u t H1 locs1 ht hvm hw hB hz1 hk1 hS1 => ?_)
  obtain ⟨hP1, hD1⟩ := hB
  rw [ht] at hP1
  obtain ⟨hP2, hD2⟩ := k_join hp hP hD hk1 hF hP1 hD1
  exact kk u H1 locs1 hw (kP_perm List.perm_append_comm hP2) (kD_perm List.perm_append_comm hD2) hS1
theorem kc_cN {K : S → Prop} {E : va_E} (CF : CallFix p m c cc nL s args Ts own)
    (hM : Met l y wy rm (va_Pc [.ref b] (kPre D cy H.size [(b, E)])) (va_Qv K (fun u => kPost D (va_A [(b, E)] H.size) (mk u)) (va_A [(b, E)] H.size)) mc ms (va_A [(b, E)] H.size))
    (cw : va_CN R s args own index y host bytes maxL none wy rm mc ms 0 ∧ y.name = "<init>" ∧ (Cond.instanceMethod y).before args s = true) (hK : mK D cy s)
    (hP : va_P D kCl (ws ++ [(b, E)]) H) (hD : va_D A (ws ++ [(b, E)])) (hS : va_S A H0 H locs) (hA : ∀ q, H0.size ≤ q → A q)
    (hl : ls.size = nL) (hw : (rest.map fun v => v.category).sum ≤ 8) (hdg : decode cc pc = .ok (.invokespecial index, 3)) (hf : cells + mc ≤ R.cells ∧ slots + ms ≤ R.slots)
    (kk : ∀ (u : S) (H1 : Heap) (locs1 : List Loc), K u → va_P D kCl (ws ++ mk u) H1 → va_D A (ws ++ mk u) → va_S A H0 H1 locs1 → W p l e R s m args below meth c H1 locs1 (cells + mc) (slots + ms) Q (F0 m (pc + 3) ls rest)) :
    W p l e R s m args below meth c H locs cells slots Q (F0 m pc ls (.ref b :: rest)) :=
  kj_c (As := [.ref b]) (va_runIN (As := []) CF hM cw (k_preS hK (kP_app.mp hP).2 (kD_app (kD_perm List.perm_append_comm hD)).1) rfl rfl hl rfl (lv_room hw) hdg hf) hP hD hS hA kk
/-- what History's constructor wants besides: the class of arrays of States -/
def kPreQ (D : va_G) (cy : Nat → ClassId) (sz : Nat) (ws : va_W) (U : State) : Prop := kPre D cy sz ws U ∧ va_AO "FerryRamp$State" U
theorem k_preSQ (hQ : va_AO "FerryRamp$State" s) (hK : mK D cy s) (hP : va_P D kCl wc H) (hD : va_D A wc) : PreS s H (va_Pc As (kPreQ D cy H.size wc)) As := by
  refine ⟨fun a U g mk q => ?_, fun U hU hW => ⟨rfl, ⟨by rw [hU], by rw [hU]; exact hP, hK.warm hW, hD.weaken (fun _ _ _ _ => trivial)⟩, va_AO.moved hW.alike hQ⟩⟩
  obtain ⟨h0, ⟨h1, h2, h3, h4⟩, h5⟩ := q
  exact ⟨h0, ⟨h1, h2, h3.calling, h4⟩, va_AO.moved (u := U) (U := U.calling g mk a) (Vm.Alike.refl U.vm) h5⟩
theorem kc_cQ {K : S → Prop} {E : va_E} (CF : CallFix p m c cc nL s args Ts own)
    (hM : Met l y wy rm (va_Pc [.ref b] (kPreQ D cy H.size [(b, E)])) (va_Qv K (fun u => kPost D (va_A [(b, E)] H.size) (mk u)) (va_A [(b, E)] H.size)) mc ms (va_A [(b, E)] H.size))
    (cw : CallB R s args own index y bytes maxL none wy rm mc ms 0 ∧ y.name = "<init>" ∧ (Cond.instanceMethod y).before args s = true) (hQ : va_AO "FerryRamp$State" s) (hK : mK D cy s)
    (hP : va_P D kCl (ws ++ [(b, E)]) H) (hD : va_D A (ws ++ [(b, E)])) (hS : va_S A H0 H locs) (hA : ∀ q, H0.size ≤ q → A q)
    (hl : ls.size = nL) (hw : (rest.map fun v => v.category).sum ≤ 8) (hdg : decode cc pc = .ok (.invokespecial index, 3)) (hf : cells + mc ≤ R.cells ∧ slots + ms ≤ R.slots)
    (kk : ∀ (u : S) (H1 : Heap) (locs1 : List Loc), K u → va_P D kCl (ws ++ mk u) H1 → va_D A (ws ++ mk u) → va_S A H0 H1 locs1 → W p l e R s m args below meth c H1 locs1 (cells + mc) (slots + ms) Q (F0 m (pc + 3) ls rest)) :
    W p l e R s m args below meth c H locs cells slots Q (F0 m pc ls (.ref b :: rest)) :=
  kj_c (As := [.ref b]) (va_runI (As := []) CF hM cw (k_preSQ hQ hK (kP_app.mp hP).2 (kD_app (kD_perm List.perm_append_comm hD)).1) rfl rfl hl rfl (lv_room hw) hdg hf) hP hD hS hA kk
end KN2
/-- a History as it is made; a FerryRamp -/
def wX4 (cy : Nat → ClassId) (h hp : Nat) (hh : Nat → Nat) (aa : Nat → Nat → Nat) : va_W := wH cy h hp hh 0 0 ++ wS cy (hh 4) (aa 4) KS0 ++ wS cy (hh 5) (aa 5) KS0 ++ wS cy (hh 6) (aa 6) KS0 ++ wS cy (hh 7) (aa 7) KS0 ++ wS cy (hh 8) (aa 8) KS0 ++ wS cy (hh 9) (aa 9) KS0 ++ wS cy (hh 10) (aa 10) KS0 ++ wS cy (hh 11) (aa 11) KS0
def FS0 : FS := (KS0, KS0, 0, 0, KS0, KS0, KS0, KS0, KS0, KS0, KS0, KS0, PS0, KS0, KS0, fun _ => 0, fun _ => 0, fun _ => 0, 0)
theorem heX8_init : yX8_init.cls ≠ "java/lang/invoke/MethodHandle" ∧ yX8_init.cls ≠ "java/lang/invoke/VarHandle" ∧ (parseMethodDescriptor yX8_init.desc).map (fun d => d.parameters.length) = some 0 := by decide +kernel
theorem heX6_init : yX6_init.cls ≠ "java/lang/invoke/MethodHandle" ∧ yX6_init.cls ≠ "java/lang/invoke/VarHandle" ∧ (parseMethodDescriptor yX6_init.desc).map (fun d => d.parameters.length) = some 0 := by decide +kernel
theorem heX4_init : yX4_init.cls ≠ "java/lang/invoke/MethodHandle" ∧ yX4_init.cls ≠ "java/lang/invoke/VarHandle" ∧ (parseMethodDescriptor yX4_init.desc).map (fun d => d.parameters.length) = some 0 := by decide +kernel
theorem dvX8 : ∀ j, j < 13 → defaultValue (tyX8 j) = vp_V [.null, .null, .null, .null, .null, .null, .null, .null, .null, .null, .int 0, .int 0, .int 0] j := by decide +kernel
theorem dvX6 : ∀ j, j < 11 → defaultValue (tyX6 j) = vp_V [.null, .int 0, .int 0, .int 0, .null, .int 0, .int 0, .int 0, .int 0, .int 0, .int 0] j := by decide +kernel
theorem dvX4 : ∀ j, j < 3 → defaultValue (tyX4 j) = vp_V [.null, .int 0, .int 0] j := by decide +kernel
theorem inX4_init_X4 : ∀ w ∈ u_ws RX4 TX4 3, w ∈ wsX4_init := k_lays 27 rfl
theorem lkX4_init_11 : Cond.fieldLink RX4 11 "FerryRamp$History" "past" "[LFerryRamp$State;" ∈ wsX4_init := List.mem_of_getElem? (i := 5) rfl
theorem lkX4_init_17 : Cond.fieldLink RX4 17 "FerryRamp$History" "next" "I" ∈ wsX4_init := List.mem_of_getElem? (i := 6) rfl
theorem lkX4_init_21 : Cond.fieldLink RX4 21 "FerryRamp$History" "many" "I" ∈ wsX4_init := List.mem_of_getElem? (i := 7) rfl
theorem inX4_init_X8 : ∀ w ∈ u_ws RX8 TX8 13, w ∈ wsX4_init := k_lays 30 rfl
abbrev rmX4_init : Room := { frames := 2, cells := 89, slots := 5408, locals := 60 }
set_option maxHeartbeats 16000000 in
set_option maxRecDepth 100000 in
theorem cX4_initM (l : Launch) (D : va_G) (cy : Nat → ClassId) (h sz : Nat) : Met l yX4_init wsX4_init rmX4_init (va_Pc [.ref h] (kPreQ D cy sz [(h, .inr (0, [.null, .int 0, .int 0]))])) (va_Qv (fun q : Nat × (Nat → Nat) × (Nat → Nat → Nat) => True) (fun q t => kPost D (va_A ([(h, .inr (0, [.null, .int 0, .int 0]))]) sz) (wX4 cy h q.1 q.2.1 q.2.2) t) (va_A ([(h, .inr (0, [.null, .int 0, .int 0]))]) sz)) 89 5408 (va_A ([(h, .inr (0, [.null, .int 0, .int 0]))]) sz) := by
  refine Met.ofW (cc := cX4_init) (maxL := 2) (ret := none) (by decide) rfl ?_
  intro p e s m args below meth c s₁ B hml hv
  obtain ⟨rfl, ⟨hsz, hP, hK, hD0⟩, hQ⟩ := hv
  subst hsz
  have hx := B.exec
  have hb := B.bytes
  have hr := B.returns
  have hts := atoms_spec (ws := wsX4_init) B.pre
  have hown : s.vm.findClass RX4 = some m.cls := findClass_of_methodNamed B.named
  have hin : meth.name = "<init>" := (name_of_methodNamed B.named B.method).1
  have hlocks := B.notSynchronized
  have hA : ∀ q, s.heap.size ≤ q → va_A ([(h, .inr (0, [.null, .int 0, .int 0]))]) s.heap.size q := fun q h => Or.inr h
  have hS : va_S (va_A ([(h, .inr (0, [.null, .int 0, .int 0]))]) s.heap.size) s.heap s.heap [] := va_S.rf
  have hD : va_D (va_A ([(h, .inr (0, [.null, .int 0, .int 0]))]) s.heap.size) ([(h, .inr (0, [.null, .int 0, .int 0]))]) := hD0.self
  have hl := lv_entry ([.ref h]) (n := 2) (Nat.le_of_ble_eq_true rfl)
  rw [lg_entry_eq]
  generalize (lg_sl ([.ref h]) ++ List.replicate (2 - (lg_sl ([.ref h])).length) Slot.unset).toArray = ls at hl ⊢
  have hl : lv_has ls 2 [(0, .ref h)] := hl
  refine lv_aload_n hx hb dX4_init_0 rfl (lv_at hl 0 rfl) ?_
  refine W.objInit hx hb hown (hts _ (List.mem_of_getElem? (i := 1) rfl)) (hts _ (List.mem_of_getElem? (i := 2) rfl)) (hts _ (List.mem_of_getElem? (i := 3) rfl)) rfl (by rw [hml]; exact hl.1) rfl dX4_init_1 (Nat.le_of_ble_eq_true rfl) (Nat.le_of_ble_eq_true rfl) ?_
  refine W.eq (g2 := F0 m 4 ls []) rfl ?_
  refine lv_aload_n hx hb dX4_init_4 rfl (lv_at hl 0 rfl) ?_
  refine lv_bipush (v := 8) hx hb dX4_init_5 rfl ?_
  refine k_newq (k := 8) hx hb hown (hts _ (List.mem_of_getElem? (i := 4) rfl)) hQ hK hP hD hS hA (by decide) rfl (Nat.le_of_ble_eq_true rfl) (Nat.le_of_ble_eq_true rfl) (Nat.le_of_ble_eq_true rfl) dX4_init_7 (fun q1 H hP hD hS => ?_)
  refine W.widen (k := 1) (n := 8) (Nat.le_of_ble_eq_true rfl) (Nat.le_of_ble_eq_true rfl) ?_
  replace hP : va_P D kCl ([(h, .inr (0, [.null, .int 0, .int 0]))] ++ [(q1, .inl (cy 2, 8, .inr (.inr (.inr (.inr (fun _ => none))))))]) _ := hP
  replace hD : va_D (va_A ([(h, .inr (0, [.null, .int 0, .int 0]))]) s.heap.size) ([(h, .inr (0, [.null, .int 0, .int 0]))] ++ [(q1, .inl (cy 2, 8, .inr (.inr (.inr (.inr (fun _ => none))))))]) := hD
  refine k_putF (v := .ref q1) (ty := (.array (.object "FerryRamp$State"))) (C := RX4) (T := TX4) (N := 3) hx hb hts inX4_init_X4 tyX4 tyX4_ok nmX4 hown hK hP hD hS 0 rfl rfl 0 (by decide) lkX4_init_11 rfl hin rfl (by decide +kernel) rfl rfl (Nat.le_of_ble_eq_true rfl) (ws' := [(h, .inr (0, [.ref q1, .int 0, .int 0]))] ++ [(q1, .inl (cy 2, 8, .inr (.inr (.inr (.inr (fun _ => none))))))]) rfl dX4_init_10 (fun H locs hP hD hS => ?_)
  refine lv_aload_n hx hb dX4_init_13 rfl (lv_at hl 0 rfl) ?_
  refine lv_iconst (v := 0) hx hb dX4_init_14 rfl ?_
  refine k_put (v := .int 0) (ty := .int) (C := RX4) (T := TX4) (N := 3) hx hb hts inX4_init_X4 tyX4 tyX4_ok nmX4 hown hK hP hD hS 0 rfl rfl 1 (by decide) lkX4_init_17 rfl (by decide +kernel) rfl rfl (Nat.le_of_ble_eq_true rfl) (ws' := [(h, .inr (0, [.ref q1, .int 0, .int 0]))] ++ [(q1, .inl (cy 2, 8, .inr (.inr (.inr (.inr (fun _ => none))))))]) rfl dX4_init_15 (fun H locs hP hD hS => ?_)
  refine lv_aload_n hx hb dX4_init_18 rfl (lv_at hl 0 rfl) ?_
  refine lv_iconst (v := 0) hx hb dX4_init_19 rfl ?_
  refine k_put (v := .int 0) (ty := .int) (C := RX4) (T := TX4) (N := 3) hx hb hts inX4_init_X4 tyX4 tyX4_ok nmX4 hown hK hP hD hS 0 rfl rfl 2 (by decide) lkX4_init_21 rfl (by decide +kernel) rfl rfl (Nat.le_of_ble_eq_true rfl) (ws' := [(h, .inr (0, [.ref q1, .int 0, .int 0]))] ++ [(q1, .inl (cy 2, 8, .inr (.inr (.inr (.inr (fun _ => none))))))]) rfl dX4_init_20 (fun H locs hP hD hS => ?_)
  refine lv_iconst (v := 0) hx hb dX4_init_23 rfl ?_
  refine lv_istore_n (lv' := [(1, .int 0), (0, .ref h)]) hx hb dX4_init_24 rfl hl (by decide) rfl (fun ls hl => ?_)
  refine lv_iload_n hx hb dX4_init_25 rfl (lv_at hl 0 rfl) ?_
  refine lv_bipush (v := 8) hx hb dX4_init_26 rfl ?_
  refine lv_icmp_ge (tgt := 50) hx hb dX4_init_28 (by decide) (fun g => absurd g (by decide)) (fun _ => ?_)
  refine lv_aload_n hx hb dX4_init_31 rfl (lv_at hl 1 rfl) ?_
  refine k_get (v := .ref q1) (C := RX4) (T := TX4) (N := 3) hx hb hts inX4_init_X4 hown hK hP 0 rfl rfl 0 (by decide) lkX4_init_11 rfl dX4_init_32 ?_
  refine lv_iload_n hx hb dX4_init_35 rfl (lv_at hl 0 rfl) ?_
  refine va_new (C := RX8) (T := TX8) (N := 13) (ci := 2) (fs := [.null, .null, .null, .null, .null, .null, .null, .null, .null, .null, .int 0, .int 0, .int 0]) hx hb hts inX4_init_X8 tyX8 tyX8_ok hown (hts _ (List.mem_of_getElem? (i := 4) rfl)) (hts _ (List.mem_of_getElem? (i := 8) rfl)) (hts _ (List.mem_of_getElem? (i := 9) rfl)) hK.1 hP hD hS hA rfl dvX8 (Nat.le_of_ble_eq_true rfl) (Nat.le_of_ble_eq_true rfl) dX4_init_36 (fun q2 H hP hD hS => ?_)
  refine W.widen (k := 2) (n := 21) (Nat.le_of_ble_eq_true rfl) (Nat.le_of_ble_eq_true rfl) ?_
  refine lv_dup hx hb dX4_init_39 rfl ?_
  refine kc_cN (rest := [.ref q2, .int 0, .ref q1]) ⟨hx, hb, hml, hown, hts⟩ (cX8_initM l D cy q2 H.size) ⟨va_cnB 0 hts gX4_init_X8_init_n24 rfl rfl rfl hK.2.2.2.2.2.2 (hts _ (List.mem_of_getElem? (i := 9) rfl)) heX8_init ⟨(Nat.le_of_ble_eq_true rfl), (Nat.le_of_ble_eq_true rfl)⟩, rfl, (hts _ (List.mem_of_getElem? (i := 10) rfl))⟩ hK hP hD hS hA hl.1 (Nat.le_of_ble_eq_true rfl) dX4_init_40 ⟨(Nat.le_of_ble_eq_true rfl), (Nat.le_of_ble_eq_true rfl)⟩ (fun g3 H locs hk hP hD hS => ?_)
  refine W.widen (k := 12) (n := 683) (Nat.le_of_ble_eq_true rfl) (Nat.le_of_ble_eq_true rfl) ?_
  replace hP : va_P D kCl ([(h, .inr (0, [.ref q1, .int 0, .int 0]))] ++ [(q1, .inl (cy 2, 8, .inr (.inr (.inr (.inr (fun _ => none))))))] ++ wS cy q2 g3 KS0) _ := hP
  replace hD : va_D (va_A ([(h, .inr (0, [.null, .int 0, .int 0]))]) s.heap.size) ([(h, .inr (0, [.ref q1, .int 0, .int 0]))] ++ [(q1, .inl (cy 2, 8, .inr (.inr (.inr (.inr (fun _ => none))))))] ++ wS cy q2 g3 KS0) := hD
  refine k_aast (k := 0) hx hb hK hP hD hS 1 2 rfl rfl (by decide) (by decide) (ws' := [(h, .inr (0, [.ref q1, .int 0, .int 0]))] ++ [(q1, .inl (cy 2, 8, .inr (.inr (.inr (.inr (va_up (fun _ => none) 0 (some q2)))))))] ++ wS cy q2 g3 KS0) rfl dX4_init_43 (fun H locs hP hD hS => ?_)
  refine lv_iinc (v := 1) (lv' := [(1, .int 1), (0, .ref h)]) hx hb dX4_init_44 hl (k := 0) rfl (by decide) (by decide) rfl (fun ls hl => ?_)
  refine lv_goto (tgt := 25) hx hb dX4_init_47 (by decide) ?_
  refine lv_iload_n hx hb dX4_init_25 rfl (lv_at hl 0 rfl) ?_
  refine lv_bipush (v := 8) hx hb dX4_init_26 rfl ?_
  refine lv_icmp_ge (tgt := 50) hx hb dX4_init_28 (by decide) (fun g => absurd g (by decide)) (fun _ => ?_)
  refine lv_aload_n hx hb dX4_init_31 rfl (lv_at hl 1 rfl) ?_
  refine k_get (v := .ref q1) (C := RX4) (T := TX4) (N := 3) hx hb hts inX4_init_X4 hown hK hP 0 rfl rfl 0 (by decide) lkX4_init_11 rfl dX4_init_32 ?_
  refine lv_iload_n hx hb dX4_init_35 rfl (lv_at hl 0 rfl) ?_
  refine va_new (C := RX8) (T := TX8) (N := 13) (ci := 2) (fs := [.null, .null, .null, .null, .null, .null, .null, .null, .null, .null, .int 0, .int 0, .int 0]) hx hb hts inX4_init_X8 tyX8 tyX8_ok hown (hts _ (List.mem_of_getElem? (i := 4) rfl)) (hts _ (List.mem_of_getElem? (i := 8) rfl)) (hts _ (List.mem_of_getElem? (i := 9) rfl)) hK.1 hP hD hS hA rfl dvX8 (Nat.le_of_ble_eq_true rfl) (Nat.le_of_ble_eq_true rfl) dX4_init_36 (fun q4 H hP hD hS => ?_)
  refine W.widen (k := 13) (n := 696) (Nat.le_of_ble_eq_true rfl) (Nat.le_of_ble_eq_true rfl) ?_
  refine lv_dup hx hb dX4_init_39 rfl ?_
  refine kc_cN (rest := [.ref q4, .int 1, .ref q1]) ⟨hx, hb, hml, hown, hts⟩ (cX8_initM l D cy q4 H.size) ⟨va_cnB 0 hts gX4_init_X8_init_n24 rfl rfl rfl hK.2.2.2.2.2.2 (hts _ (List.mem_of_getElem? (i := 9) rfl)) heX8_init ⟨(Nat.le_of_ble_eq_true rfl), (Nat.le_of_ble_eq_true rfl)⟩, rfl, (hts _ (List.mem_of_getElem? (i := 10) rfl))⟩ hK hP hD hS hA hl.1 (Nat.le_of_ble_eq_true rfl) dX4_init_40 ⟨(Nat.le_of_ble_eq_true rfl), (Nat.le_of_ble_eq_true rfl)⟩ (fun g5 H locs hk hP hD hS => ?_)
  refine W.widen (k := 23) (n := 1358) (Nat.le_of_ble_eq_true rfl) (Nat.le_of_ble_eq_true rfl) ?_
  replace hP : va_P D kCl ([(h, .inr (0, [.ref q1, .int 0, .int 0]))] ++ [(q1, .inl (cy 2, 8, .inr (.inr (.inr (.inr (va_up (fun _ => none) 0 (some q2)))))))] ++ wS cy q2 g3 KS0 ++ wS cy q4 g5 KS0) _ := hP
  replace hD : va_D (va_A ([(h, .inr (0, [.null, .int 0, .int 0]))]) s.heap.size) ([(h, .inr (0, [.ref q1, .int 0, .int 0]))] ++ [(q1, .inl (cy 2, 8, .inr (.inr (.inr (.inr (va_up (fun _ => none) 0 (some q2)))))))] ++ wS cy q2 g3 KS0 ++ wS cy q4 g5 KS0) := hD
  refine k_aast (k := 1) hx hb hK hP hD hS 1 13 rfl rfl (by decide) (by decide) (ws' := [(h, .inr (0, [.ref q1, .int 0, .int 0]))] ++ [(q1, .inl (cy 2, 8, .inr (.inr (.inr (.inr (va_up (va_up (fun _ => none) 0 (some q2)) 1 (some q4)))))))] ++ wS cy q2 g3 KS0 ++ wS cy q4 g5 KS0) rfl dX4_init_43 (fun H locs hP hD hS => ?_)
  refine lv_iinc (v := 2) (lv' := [(1, .int 2), (0, .ref h)]) hx hb dX4_init_44 hl (k := 0) rfl (by decide) (by decide) rfl (fun ls hl => ?_)
  refine lv_goto (tgt := 25) hx hb dX4_init_47 (by decide) ?_
  refine lv_iload_n hx hb dX4_init_25 rfl (lv_at hl 0 rfl) ?_
  refine lv_bipush (v := 8) hx hb dX4_init_26 rfl ?_
  refine lv_icmp_ge (tgt := 50) hx hb dX4_init_28 (by decide) (fun g => absurd g (by decide)) (fun _ => ?_)
  refine lv_aload_n hx hb dX4_init_31 rfl (lv_at hl 1 rfl) ?_
  refine k_get (v := .ref q1) (C := RX4) (T := TX4) (N := 3) hx hb hts inX4_init_X4 hown hK hP 0 rfl rfl 0 (by decide) lkX4_init_11 rfl dX4_init_32 ?_
  refine lv_iload_n hx hb dX4_init_35 rfl (lv_at hl 0 rfl) ?_
  refine va_new (C := RX8) (T := TX8) (N := 13) (ci := 2) (fs := [.null, .null, .null, .null, .null, .null, .null, .null, .null, .null, .int 0, .int 0, .int 0]) hx hb hts inX4_init_X8 tyX8 tyX8_ok hown (hts _ (List.mem_of_getElem? (i := 4) rfl)) (hts _ (List.mem_of_getElem? (i := 8) rfl)) (hts _ (List.mem_of_getElem? (i := 9) rfl)) hK.1 hP hD hS hA rfl dvX8 (Nat.le_of_ble_eq_true rfl) (Nat.le_of_ble_eq_true rfl) dX4_init_36 (fun q6 H hP hD hS => ?_)
  refine W.widen (k := 24) (n := 1371) (Nat.le_of_ble_eq_true rfl) (Nat.le_of_ble_eq_true rfl) ?_
  refine lv_dup hx hb dX4_init_39 rfl ?_
  refine kc_cN (rest := [.ref q6, .int 2, .ref q1]) ⟨hx, hb, hml, hown, hts⟩ (cX8_initM l D cy q6 H.size) ⟨va_cnB 0 hts gX4_init_X8_init_n24 rfl rfl rfl hK.2.2.2.2.2.2 (hts _ (List.mem_of_getElem? (i := 9) rfl)) heX8_init ⟨(Nat.le_of_ble_eq_true rfl), (Nat.le_of_ble_eq_true rfl)⟩, rfl, (hts _ (List.mem_of_getElem? (i := 10) rfl))⟩ hK hP hD hS hA hl.1 (Nat.le_of_ble_eq_true rfl) dX4_init_40 ⟨(Nat.le_of_ble_eq_true rfl), (Nat.le_of_ble_eq_true rfl)⟩ (fun g7 H locs hk hP hD hS => ?_)
  refine W.widen (k := 34) (n := 2033) (Nat.le_of_ble_eq_true rfl) (Nat.le_of_ble_eq_true rfl) ?_
  replace hP : va_P D kCl ([(h, .inr (0, [.ref q1, .int 0, .int 0]))] ++ [(q1, .inl (cy 2, 8, .inr (.inr (.inr (.inr (va_up (va_up (fun _ => none) 0 (some q2)) 1 (some q4)))))))] ++ wS cy q2 g3 KS0 ++ wS cy q4 g5 KS0 ++ wS cy q6 g7 KS0) _ := hP
  replace hD : va_D (va_A ([(h, .inr (0, [.null, .int 0, .int 0]))]) s.heap.size) ([(h, .inr (0, [.ref q1, .int 0, .int 0]))] ++ [(q1, .inl (cy 2, 8, .inr (.inr (.inr (.inr (va_up (va_up (fun _ => none) 0 (some q2)) 1 (some q4)))))))] ++ wS cy q2 g3 KS0 ++ wS cy q4 g5 KS0 ++ wS cy q6 g7 KS0) := hD
  refine k_aast (k := 2) hx hb hK hP hD hS 1 24 rfl rfl (by decide) (by decide) (ws' := [(h, .inr (0, [.ref q1, .int 0, .int 0]))] ++ [(q1, .inl (cy 2, 8, .inr (.inr (.inr (.inr (va_up (va_up (va_up (fun _ => none) 0 (some q2)) 1 (some q4)) 2 (some q6)))))))] ++ wS cy q2 g3 KS0 ++ wS cy q4 g5 KS0 ++ wS cy q6 g7 KS0) rfl dX4_init_43 (fun H locs hP hD hS => ?_)
  refine lv_iinc (v := 3) (lv' := [(1, .int 3), (0, .ref h)]) hx hb dX4_init_44 hl (k := 0) rfl (by decide) (by decide) rfl (fun ls hl => ?_)
  refine lv_goto (tgt := 25) hx hb dX4_init_47 (by decide) ?_
  refine lv_iload_n hx hb dX4_init_25 rfl (lv_at hl 0 rfl) ?_
  refine lv_bipush (v := 8) hx hb dX4_init_26 rfl ?_
  refine lv_icmp_ge (tgt := 50) hx hb dX4_init_28 (by decide) (fun g => absurd g (by decide)) (fun _ => ?_)
  refine lv_aload_n hx hb dX4_init_31 rfl (lv_at hl 1 rfl) ?_
  refine k_get (v := .ref q1) (C := RX4) (T := TX4) (N := 3) hx hb hts inX4_init_X4 hown hK hP 0 rfl rfl 0 (by decide) lkX4_init_11 rfl dX4_init_32 ?_
  refine lv_iload_n hx hb dX4_init_35 rfl (lv_at hl 0 rfl) ?_
  refine va_new (C := RX8) (T := TX8) (N := 13) (ci := 2) (fs := [.null, .null, .null, .null, .null, .null, .null, .null, .null, .null, .int 0, .int 0, .int 0]) hx hb hts inX4_init_X8 tyX8 tyX8_ok hown (hts _ (List.mem_of_getElem? (i := 4) rfl)) (hts _ (List.mem_of_getElem? (i := 8) rfl)) (hts _ (List.mem_of_getElem? (i := 9) rfl)) hK.1 hP hD hS hA rfl dvX8 (Nat.le_of_ble_eq_true rfl) (Nat.le_of_ble_eq_true rfl) dX4_init_36 (fun q8 H hP hD hS => ?_)
  refine W.widen (k := 35) (n := 2046) (Nat.le_of_ble_eq_true rfl) (Nat.le_of_ble_eq_true rfl) ?_
  refine lv_dup hx hb dX4_init_39 rfl ?_
  refine kc_cN (rest := [.ref q8, .int 3, .ref q1]) ⟨hx, hb, hml, hown, hts⟩ (cX8_initM l D cy q8 H.size) ⟨va_cnB 0 hts gX4_init_X8_init_n24 rfl rfl rfl hK.2.2.2.2.2.2 (hts _ (List.mem_of_getElem? (i := 9) rfl)) heX8_init ⟨(Nat.le_of_ble_eq_true rfl), (Nat.le_of_ble_eq_true rfl)⟩, rfl, (hts _ (List.mem_of_getElem? (i := 10) rfl))⟩ hK hP hD hS hA hl.1 (Nat.le_of_ble_eq_true rfl) dX4_init_40 ⟨(Nat.le_of_ble_eq_true rfl), (Nat.le_of_ble_eq_true rfl)⟩ (fun g9 H locs hk hP hD hS => ?_)
  refine W.widen (k := 45) (n := 2708) (Nat.le_of_ble_eq_true rfl) (Nat.le_of_ble_eq_true rfl) ?_
  replace hP : va_P D kCl ([(h, .inr (0, [.ref q1, .int 0, .int 0]))] ++ [(q1, .inl (cy 2, 8, .inr (.inr (.inr (.inr (va_up (va_up (va_up (fun _ => none) 0 (some q2)) 1 (some q4)) 2 (some q6)))))))] ++ wS cy q2 g3 KS0 ++ wS cy q4 g5 KS0 ++ wS cy q6 g7 KS0 ++ wS cy q8 g9 KS0) _ := hP
  replace hD : va_D (va_A ([(h, .inr (0, [.null, .int 0, .int 0]))]) s.heap.size) ([(h, .inr (0, [.ref q1, .int 0, .int 0]))] ++ [(q1, .inl (cy 2, 8, .inr (.inr (.inr (.inr (va_up (va_up (va_up (fun _ => none) 0 (some q2)) 1 (some q4)) 2 (some q6)))))))] ++ wS cy q2 g3 KS0 ++ wS cy q4 g5 KS0 ++ wS cy q6 g7 KS0 ++ wS cy q8 g9 KS0) := hD
  refine k_aast (k := 3) hx hb hK hP hD hS 1 35 rfl rfl (by decide) (by decide) (ws' := [(h, .inr (0, [.ref q1, .int 0, .int 0]))] ++ [(q1, .inl (cy 2, 8, .inr (.inr (.inr (.inr (va_up (va_up (va_up (va_up (fun _ => none) 0 (some q2)) 1 (some q4)) 2 (some q6)) 3 (some q8)))))))] ++ wS cy q2 g3 KS0 ++ wS cy q4 g5 KS0 ++ wS cy q6 g7 KS0 ++ wS cy q8 g9 KS0) rfl dX4_init_43 (fun H locs hP hD hS => ?_)
  refine lv_iinc (v := 4) (lv' := [(1, .int 4), (0, .ref h)]) hx hb dX4_init_44 hl (k := 0) rfl (by decide) (by decide) rfl (fun ls hl => ?_)
  refine lv_goto (tgt := 25) hx hb dX4_init_47 (by decide) ?_
  refine lv_iload_n hx hb dX4_init_25 rfl (lv_at hl 0 rfl) ?_
  refine lv_bipush (v := 8) hx hb dX4_init_26 rfl ?_
  refine lv_icmp_ge (tgt := 50) hx hb dX4_init_28 (by decide) (fun g => absurd g (by decide)) (fun _ => ?_)
  refine lv_aload_n hx hb dX4_init_31 rfl (lv_at hl 1 rfl) ?_
  refine k_get (v := .ref q1) (C := RX4) (T := TX4) (N := 3) hx hb hts inX4_init_X4 hown hK hP 0 rfl rfl 0 (by decide) lkX4_init_11 rfl dX4_init_32 ?_
  refine lv_iload_n hx hb dX4_init_35 rfl (lv_at hl 0 rfl) ?_
  refine va_new (C := RX8) (T := TX8) (N := 13) (ci := 2) (fs := [.null, .null, .null, .null, .null, .null, .null, .null, .null, .null, .int 0, .int 0, .int 0]) hx hb hts inX4_init_X8 tyX8 tyX8_ok hown (hts _ (List.mem_of_getElem? (i := 4) rfl)) (hts _ (List.mem_of_getElem? (i := 8) rfl)) (hts _ (List.mem_of_getElem? (i := 9) rfl)) hK.1 hP hD hS hA rfl dvX8 (Nat.le_of_ble_eq_true rfl) (Nat.le_of_ble_eq_true rfl) dX4_init_36 (fun q10 H hP hD hS => ?_)
  refine W.widen (k := 46) (n := 2721) (Nat.le_of_ble_eq_true rfl) (Nat.le_of_ble_eq_true rfl) ?_
  refine lv_dup hx hb dX4_init_39 rfl ?_
  refine kc_cN (rest := [.ref q10, .int 4, .ref q1]) ⟨hx, hb, hml, hown, hts⟩ (cX8_initM l D cy q10 H.size) ⟨va_cnB 0 hts gX4_init_X8_init_n24 rfl rfl rfl hK.2.2.2.2.2.2 (hts _ (List.mem_of_getElem? (i := 9) rfl)) heX8_init ⟨(Nat.le_of_ble_eq_true rfl), (Nat.le_of_ble_eq_true rfl)⟩, rfl, (hts _ (List.mem_of_getElem? (i := 10) rfl))⟩ hK hP hD hS hA hl.1 (Nat.le_of_ble_eq_true rfl) dX4_init_40 ⟨(Nat.le_of_ble_eq_true rfl), (Nat.le_of_ble_eq_true rfl)⟩ (fun g11 H locs hk hP hD hS => ?_)
  refine W.widen (k := 56) (n := 3383) (Nat.le_of_ble_eq_true rfl) (Nat.le_of_ble_eq_true rfl) ?_
  replace hP : va_P D kCl ([(h, .inr (0, [.ref q1, .int 0, .int 0]))] ++ [(q1, .inl (cy 2, 8, .inr (.inr (.inr (.inr (va_up (va_up (va_up (va_up (fun _ => none) 0 (some q2)) 1 (some q4)) 2 (some q6)) 3 (some q8)))))))] ++ wS cy q2 g3 KS0 ++ wS cy q4 g5 KS0 ++ wS cy q6 g7 KS0 ++ wS cy q8 g9 KS0 ++ wS cy q10 g11 KS0) _ := hP
  replace hD : va_D (va_A ([(h, .inr (0, [.null, .int 0, .int 0]))]) s.heap.size) ([(h, .inr (0, [.ref q1, .int 0, .int 0]))] ++ [(q1, .inl (cy 2, 8, .inr (.inr (.inr (.inr (va_up (va_up (va_up (va_up (fun _ => none) 0 (some q2)) 1 (some q4)) 2 (some q6)) 3 (some q8)))))))] ++ wS cy q2 g3 KS0 ++ wS cy q4 g5 KS0 ++ wS cy q6 g7 KS0 ++ wS cy q8 g9 KS0 ++ wS cy q10 g11 KS0) := hD
  refine k_aast (k := 4) hx hb hK hP hD hS 1 46 rfl rfl (by decide) (by decide) (ws' := [(h, .inr (0, [.ref q1, .int 0, .int 0]))] ++ [(q1, .inl (cy 2, 8, .inr (.inr (.inr (.inr (va_up (va_up (va_up (va_up (va_up (fun _ => none) 0 (some q2)) 1 (some q4)) 2 (some q6)) 3 (some q8)) 4 (some q10)))))))] ++ wS cy q2 g3 KS0 ++ wS cy q4 g5 KS0 ++ wS cy q6 g7 KS0 ++ wS cy q8 g9 KS0 ++ wS cy q10 g11 KS0) rfl dX4_init_43 (fun H locs hP hD hS => ?_)
  refine lv_iinc (v := 5) (lv' := [(1, .int 5), (0, .ref h)]) hx hb dX4_init_44 hl (k := 0) rfl (by decide) (by decide) rfl (fun ls hl => ?_)
  refine lv_goto (tgt := 25) hx hb dX4_init_47 (by decide) ?_
  refine lv_iload_n hx hb dX4_init_25 rfl (lv_at hl 0 rfl) ?_
  refine lv_bipush (v := 8) hx hb dX4_init_26 rfl ?_
  refine lv_icmp_ge (tgt := 50) hx hb dX4_init_28 (by decide) (fun g => absurd g (by decide)) (fun _ => ?_)
  refine lv_aload_n hx hb dX4_init_31 rfl (lv_at hl 1 rfl) ?_
  refine k_get (v := .ref q1) (C := RX4) (T := TX4) (N := 3) hx hb hts inX4_init_X4 hown hK hP 0 rfl rfl 0 (by decide) lkX4_init_11 rfl dX4_init_32 ?_
  refine lv_iload_n hx hb dX4_init_35 rfl (lv_at hl 0 rfl) ?_
  refine va_new (C := RX8) (T := TX8) (N := 13) (ci := 2) (fs := [.null, .null, .null, .null, .null, .null, .null, .null, .null, .null, .int 0, .int 0, .int 0]) hx hb hts inX4_init_X8 tyX8 tyX8_ok hown (hts _ (List.mem_of_getElem? (i := 4) rfl)) (hts _ (List.mem_of_getElem? (i := 8) rfl)) (hts _ (List.mem_of_getElem? (i := 9) rfl)) hK.1 hP hD hS hA rfl dvX8 (Nat.le_of_ble_eq_true rfl) (Nat.le_of_ble_eq_true rfl) dX4_init_36 (fun q12 H hP hD hS => ?_)
  refine W.widen (k := 57) (n := 3396) (Nat.le_of_ble_eq_true rfl) (Nat.le_of_ble_eq_true rfl) ?_
  refine lv_dup hx hb dX4_init_39 rfl ?_
  refine kc_cN (rest := [.ref q12, .int 5, .ref q1]) ⟨hx, hb, hml, hown, hts⟩ (cX8_initM l D cy q12 H.size) ⟨va_cnB 0 hts gX4_init_X8_init_n24 rfl rfl rfl hK.2.2.2.2.2.2 (hts _ (List.mem_of_getElem? (i := 9) rfl)) heX8_init ⟨(Nat.le_of_ble_eq_true rfl), (Nat.le_of_ble_eq_true rfl)⟩, rfl, (hts _ (List.mem_of_getElem? (i := 10) rfl))⟩ hK hP hD hS hA hl.1 (Nat.le_of_ble_eq_true rfl) dX4_init_40 ⟨(Nat.le_of_ble_eq_true rfl), (Nat.le_of_ble_eq_true rfl)⟩ (fun g13 H locs hk hP hD hS => ?_)
  refine W.widen (k := 67) (n := 4058) (Nat.le_of_ble_eq_true rfl) (Nat.le_of_ble_eq_true rfl) ?_
  replace hP : va_P D kCl ([(h, .inr (0, [.ref q1, .int 0, .int 0]))] ++ [(q1, .inl (cy 2, 8, .inr (.inr (.inr (.inr (va_up (va_up (va_up (va_up (va_up (fun _ => none) 0 (some q2)) 1 (some q4)) 2 (some q6)) 3 (some q8)) 4 (some q10)))))))] ++ wS cy q2 g3 KS0 ++ wS cy q4 g5 KS0 ++ wS cy q6 g7 KS0 ++ wS cy q8 g9 KS0 ++ wS cy q10 g11 KS0 ++ wS cy q12 g13 KS0) _ := hP
  replace hD : va_D (va_A ([(h, .inr (0, [.null, .int 0, .int 0]))]) s.heap.size) ([(h, .inr (0, [.ref q1, .int 0, .int 0]))] ++ [(q1, .inl (cy 2, 8, .inr (.inr (.inr (.inr (va_up (va_up (va_up (va_up (va_up (fun _ => none) 0 (some q2)) 1 (some q4)) 2 (some q6)) 3 (some q8)) 4 (some q10)))))))] ++ wS cy q2 g3 KS0 ++ wS cy q4 g5 KS0 ++ wS cy q6 g7 KS0 ++ wS cy q8 g9 KS0 ++ wS cy q10 g11 KS0 ++ wS cy q12 g13 KS0) := hD
  refine k_aast (k := 5) hx hb hK hP hD hS 1 57 rfl rfl (by decide) (by decide) (ws' := [(h, .inr (0, [.ref q1, .int 0, .int 0]))] ++ [(q1, .inl (cy 2, 8, .inr (.inr (.inr (.inr (va_up (va_up (va_up (va_up (va_up (va_up (fun _ => none) 0 (some q2)) 1 (some q4)) 2 (some q6)) 3 (some q8)) 4 (some q10)) 5 (some q12)))))))] ++ wS cy q2 g3 KS0 ++ wS cy q4 g5 KS0 ++ wS cy q6 g7 KS0 ++ wS cy q8 g9 KS0 ++ wS cy q10 g11 KS0 ++ wS cy q12 g13 KS0) rfl dX4_init_43 (fun H locs hP hD hS => ?_)
  refine lv_iinc (v := 6) (lv' := [(1, .int 6), (0, .ref h)]) hx hb dX4_init_44 hl (k := 0) rfl (by decide) (by decide) rfl (fun ls hl => ?_)
  refine lv_goto (tgt := 25) hx hb dX4_init_47 (by decide) ?_
  refine lv_iload_n hx hb dX4_init_25 rfl (lv_at hl 0 rfl) ?_
  refine lv_bipush (v := 8) hx hb dX4_init_26 rfl ?_
  refine lv_icmp_ge (tgt := 50) hx hb dX4_init_28 (by decide) (fun g => absurd g (by decide)) (fun _ => ?_)
  refine lv_aload_n hx hb dX4_init_31 rfl (lv_at hl 1 rfl) ?_
  refine k_get (v := .ref q1) (C := RX4) (T := TX4) (N := 3) hx hb hts inX4_init_X4 hown hK hP 0 rfl rfl 0 (by decide) lkX4_init_11 rfl dX4_init_32 ?_
  refine lv_iload_n hx hb dX4_init_35 rfl (lv_at hl 0 rfl) ?_
  refine va_new (C := RX8) (T := TX8) (N := 13) (ci := 2) (fs := [.null, .null, .null, .null, .null, .null, .null, .null, .null, .null, .int 0, .int 0, .int 0]) hx hb hts inX4_init_X8 tyX8 tyX8_ok hown (hts _ (List.mem_of_getElem? (i := 4) rfl)) (hts _ (List.mem_of_getElem? (i := 8) rfl)) (hts _ (List.mem_of_getElem? (i := 9) rfl)) hK.1 hP hD hS hA rfl dvX8 (Nat.le_of_ble_eq_true rfl) (Nat.le_of_ble_eq_true rfl) dX4_init_36 (fun q14 H hP hD hS => ?_)
  refine W.widen (k := 68) (n := 4071) (Nat.le_of_ble_eq_true rfl) (Nat.le_of_ble_eq_true rfl) ?_
  refine lv_dup hx hb dX4_init_39 rfl ?_
  refine kc_cN (rest := [.ref q14, .int 6, .ref q1]) ⟨hx, hb, hml, hown, hts⟩ (cX8_initM l D cy q14 H.size) ⟨va_cnB 0 hts gX4_init_X8_init_n24 rfl rfl rfl hK.2.2.2.2.2.2 (hts _ (List.mem_of_getElem? (i := 9) rfl)) heX8_init ⟨(Nat.le_of_ble_eq_true rfl), (Nat.le_of_ble_eq_true rfl)⟩, rfl, (hts _ (List.mem_of_getElem? (i := 10) rfl))⟩ hK hP hD hS hA hl.1 (Nat.le_of_ble_eq_true rfl) dX4_init_40 ⟨(Nat.le_of_ble_eq_true rfl), (Nat.le_of_ble_eq_true rfl)⟩ (fun g15 H locs hk hP hD hS => ?_)
  refine W.widen (k := 78) (n := 4733) (Nat.le_of_ble_eq_true rfl) (Nat.le_of_ble_eq_true rfl) ?_
  replace hP : va_P D kCl ([(h, .inr (0, [.ref q1, .int 0, .int 0]))] ++ [(q1, .inl (cy 2, 8, .inr (.inr (.inr (.inr (va_up (va_up (va_up (va_up (va_up (va_up (fun _ => none) 0 (some q2)) 1 (some q4)) 2 (some q6)) 3 (some q8)) 4 (some q10)) 5 (some q12)))))))] ++ wS cy q2 g3 KS0 ++ wS cy q4 g5 KS0 ++ wS cy q6 g7 KS0 ++ wS cy q8 g9 KS0 ++ wS cy q10 g11 KS0 ++ wS cy q12 g13 KS0 ++ wS cy q14 g15 KS0) _ := hP
  replace hD : va_D (va_A ([(h, .inr (0, [.null, .int 0, .int 0]))]) s.heap.size) ([(h, .inr (0, [.ref q1, .int 0, .int 0]))] ++ [(q1, .inl (cy 2, 8, .inr (.inr (.inr (.inr (va_up (va_up (va_up (va_up (va_up (va_up (fun _ => none) 0 (some q2)) 1 (some q4)) 2 (some q6)) 3 (some q8)) 4 (some q10)) 5 (some q12)))))))] ++ wS cy q2 g3 KS0 ++ wS cy q4 g5 KS0 ++ wS cy q6 g7 KS0 ++ wS cy q8 g9 KS0 ++ wS cy q10 g11 KS0 ++ wS cy q12 g13 KS0 ++ wS cy q14 g15 KS0) := hD
  refine k_aast (k := 6) hx hb hK hP hD hS 1 68 rfl rfl (by decide) (by decide) (ws' := [(h, .inr (0, [.ref q1, .int 0, .int 0]))] ++ [(q1, .inl (cy 2, 8, .inr (.inr (.inr (.inr (va_up (va_up (va_up (va_up (va_up (va_up (va_up (fun _ => none) 0 (some q2)) 1 (some q4)) 2 (some q6)) 3 (some q8)) 4 (some q10)) 5 (some q12)) 6 (some q14)))))))] ++ wS cy q2 g3 KS0 ++ wS cy q4 g5 KS0 ++ wS cy q6 g7 KS0 ++ wS cy q8 g9 KS0 ++ wS cy q10 g11 KS0 ++ wS cy q12 g13 KS0 ++ wS cy q14 g15 KS0) rfl dX4_init_43 (fun H locs hP hD hS => ?_)
  refine lv_iinc (v := 7) (lv' := [(1, .int 7), (0, .ref h)]) hx hb dX4_init_44 hl (k := 0) rfl (by decide) (by decide) rfl (fun ls hl => ?_)
  refine lv_goto (tgt := 25) hx hb dX4_init_47 (by decide) ?_
  refine lv_iload_n hx hb dX4_init_25 rfl (lv_at hl 0 rfl) ?_
  refine lv_bipush (v := 8) hx hb dX4_init_26 rfl ?_
  refine lv_icmp_ge (tgt := 50) hx hb dX4_init_28 (by decide) (fun g => absurd g (by decide)) (fun _ => ?_)
  refine lv_aload_n hx hb dX4_init_31 rfl (lv_at hl 1 rfl) ?_
  refine k_get (v := .ref q1) (C := RX4) (T := TX4) (N := 3) hx hb hts inX4_init_X4 hown hK hP 0 rfl rfl 0 (by decide) lkX4_init_11 rfl dX4_init_32 ?_
  refine lv_iload_n hx hb dX4_init_35 rfl (lv_at hl 0 rfl) ?_
  refine va_new (C := RX8) (T := TX8) (N := 13) (ci := 2) (fs := [.null, .null, .null, .null, .null, .null, .null, .null, .null, .null, .int 0, .int 0, .int 0]) hx hb hts inX4_init_X8 tyX8 tyX8_ok hown (hts _ (List.mem_of_getElem? (i := 4) rfl)) (hts _ (List.mem_of_getElem? (i := 8) rfl)) (hts _ (List.mem_of_getElem? (i := 9) rfl)) hK.1 hP hD hS hA rfl dvX8 (Nat.le_of_ble_eq_true rfl) (Nat.le_of_ble_eq_true rfl) dX4_init_36 (fun q16 H hP hD hS => ?_)
  refine W.widen (k := 79) (n := 4746) (Nat.le_of_ble_eq_true rfl) (Nat.le_of_ble_eq_true rfl) ?_
  refine lv_dup hx hb dX4_init_39 rfl ?_
  refine kc_cN (rest := [.ref q16, .int 7, .ref q1]) ⟨hx, hb, hml, hown, hts⟩ (cX8_initM l D cy q16 H.size) ⟨va_cnB 0 hts gX4_init_X8_init_n24 rfl rfl rfl hK.2.2.2.2.2.2 (hts _ (List.mem_of_getElem? (i := 9) rfl)) heX8_init ⟨(Nat.le_of_ble_eq_true rfl), (Nat.le_of_ble_eq_true rfl)⟩, rfl, (hts _ (List.mem_of_getElem? (i := 10) rfl))⟩ hK hP hD hS hA hl.1 (Nat.le_of_ble_eq_true rfl) dX4_init_40 ⟨(Nat.le_of_ble_eq_true rfl), (Nat.le_of_ble_eq_true rfl)⟩ (fun g17 H locs hk hP hD hS => ?_)
  refine W.widen (k := 89) (n := 5408) (Nat.le_of_ble_eq_true rfl) (Nat.le_of_ble_eq_true rfl) ?_
  replace hP : va_P D kCl ([(h, .inr (0, [.ref q1, .int 0, .int 0]))] ++ [(q1, .inl (cy 2, 8, .inr (.inr (.inr (.inr (va_up (va_up (va_up (va_up (va_up (va_up (va_up (fun _ => none) 0 (some q2)) 1 (some q4)) 2 (some q6)) 3 (some q8)) 4 (some q10)) 5 (some q12)) 6 (some q14)))))))] ++ wS cy q2 g3 KS0 ++ wS cy q4 g5 KS0 ++ wS cy q6 g7 KS0 ++ wS cy q8 g9 KS0 ++ wS cy q10 g11 KS0 ++ wS cy q12 g13 KS0 ++ wS cy q14 g15 KS0 ++ wS cy q16 g17 KS0) _ := hP
  replace hD : va_D (va_A ([(h, .inr (0, [.null, .int 0, .int 0]))]) s.heap.size) ([(h, .inr (0, [.ref q1, .int 0, .int 0]))] ++ [(q1, .inl (cy 2, 8, .inr (.inr (.inr (.inr (va_up (va_up (va_up (va_up (va_up (va_up (va_up (fun _ => none) 0 (some q2)) 1 (some q4)) 2 (some q6)) 3 (some q8)) 4 (some q10)) 5 (some q12)) 6 (some q14)))))))] ++ wS cy q2 g3 KS0 ++ wS cy q4 g5 KS0 ++ wS cy q6 g7 KS0 ++ wS cy q8 g9 KS0 ++ wS cy q10 g11 KS0 ++ wS cy q12 g13 KS0 ++ wS cy q14 g15 KS0 ++ wS cy q16 g17 KS0) := hD
  refine k_aast (k := 7) hx hb hK hP hD hS 1 79 rfl rfl (by decide) (by decide) (ws' := [(h, .inr (0, [.ref q1, .int 0, .int 0]))] ++ [(q1, .inl (cy 2, 8, .inr (.inr (.inr (.inr (va_up (va_up (va_up (va_up (va_up (va_up (va_up (va_up (fun _ => none) 0 (some q2)) 1 (some q4)) 2 (some q6)) 3 (some q8)) 4 (some q10)) 5 (some q12)) 6 (some q14)) 7 (some q16)))))))] ++ wS cy q2 g3 KS0 ++ wS cy q4 g5 KS0 ++ wS cy q6 g7 KS0 ++ wS cy q8 g9 KS0 ++ wS cy q10 g11 KS0 ++ wS cy q12 g13 KS0 ++ wS cy q14 g15 KS0 ++ wS cy q16 g17 KS0) rfl dX4_init_43 (fun H locs hP hD hS => ?_)
  refine lv_iinc (v := 8) (lv' := [(1, .int 8), (0, .ref h)]) hx hb dX4_init_44 hl (k := 0) rfl (by decide) (by decide) rfl (fun ls hl => ?_)
  refine lv_goto (tgt := 25) hx hb dX4_init_47 (by decide) ?_
  refine lv_iload_n hx hb dX4_init_25 rfl (lv_at hl 0 rfl) ?_
  refine lv_bipush (v := 8) hx hb dX4_init_26 rfl ?_
  refine lv_icmp_ge (tgt := 50) hx hb dX4_init_28 (by decide) (fun _ => ?_) (fun g => absurd (by decide) g)
  obtain ⟨hP, hD⟩ := kP_re 1 (g := fun i => some ((fun k => [0, 0, 0, 0, q2, q4, q6, q8, q10, q12, q14, q16].getD k 0) (4 + i))) (ws' := wX4 cy h q1 (fun k => [0, 0, 0, 0, q2, q4, q6, q8, q10, q12, q14, q16].getD k 0) (fun k => [fun _ => 0, fun _ => 0, fun _ => 0, fun _ => 0, g3, g5, g7, g9, g11, g13, g15, g17].getD k (fun _ => 0))) hP hD rfl (fun i hi => by rcases i with _ | _ | _ | _ | _ | _ | _ | _ | i <;> first | rfl | omega) rfl
  exact W.vret hx hb hr (fun t ht hW => ⟨⟨(q1, (fun k => [0, 0, 0, 0, q2, q4, q6, q8, q10, q12, q14, q16].getD k 0), (fun k => [fun _ => 0, fun _ => 0, fun _ => 0, fun _ => 0, g3, g5, g7, g9, g11, g13, g15, g17].getD k (fun _ => 0))), rfl, trivial, by rw [ht]; exact hP, hD⟩, hS.F ht⟩) hS.2.2 dX4_init_50 hlocks
