/-! THE LAW: its helpers, each a call of the class with its exceptions caught -/
def lhK1 {S : Type} (n : String) (f : Nat → Int64) (K : Int32 → S × (Nat → Int64) → Prop) (q : (String ⊕ Int32) × S) : Prop := match q.1 with
  | .inl E => E = n ∧ K 1 (q.2, f)
  | .inr b => K 0 (q.2, vp_updL f (Int32.toNatClampNeg 0) b.toInt64)
def lhK2 {S : Type} (n n' : String) (f : Nat → Int64) (K : Int32 → S × (Nat → Int64) → Prop) (q : (String ⊕ Int32) × S) : Prop := match q.1 with
  | .inl E => (E = n ∧ K 1 (q.2, f)) ∨ (E = n' ∧ K 2 (q.2, f))
  | .inr b => K 0 (q.2, vp_updL f (Int32.toNatClampNeg 0) b.toInt64)
def lhV1 {S : Type} (n : String) (K : Int32 → S → Prop) (q : (String ⊕ Int32) × S) : Prop := match q.1 with
  | .inl E => E = n ∧ K 1 q.2
  | .inr _ => K 0 q.2
def lhV2 {S : Type} (n n' : String) (K : Int32 → S → Prop) (q : (String ⊕ Int32) × S) : Prop := match q.1 with
  | .inl E => (E = n ∧ K 1 q.2) ∨ (E = n' ∧ K 2 q.2)
  | .inr _ => K 0 q.2
abbrev wOu (cy : Nat → ClassId) (ho : Nat) (f : Nat → Int64) : va_W := [(ho, .inl (cy 3, 1, .inr (.inl f)))]
def wFO (cy : Nat → ClassId) (ad hh : Nat → Nat) (aa : Nat → Nat → Nat) (pa : Nat → Nat) (ho : Nat) (q : FS × (Nat → Int64)) : va_W := wOu cy ho q.2 ++ wF cy ad hh aa pa q.1
/-- classes that a handler lets pass -/
def lNc (U : State) : Prop := va_Nc "java/lang/IllegalArgumentException" "java/lang/IndexOutOfBoundsException" U ∧ va_Nc "java/lang/IllegalStateException" "java/lang/IllegalArgumentException" U
theorem lNc.warm {s U : State} (hW : s.WarmedH U.vm) (h : lNc s) : lNc U := ⟨va_Nc.moved hW.alike h.1, va_Nc.moved hW.alike h.2⟩
theorem lNc.calling {U : State} {g : JFrame} {mk : MethodId} {a : Array Value} (h : lNc U) : lNc (U.calling g mk a) := ⟨va_Nc.moved (u := U) (U := U.calling g mk a) (Vm.Alike.refl U.vm) h.1, va_Nc.moved (u := U) (U := U.calling g mk a) (Vm.Alike.refl U.vm) h.2⟩
def kPreL (D : va_G) (cy : Nat → ClassId) (za zv : Nat → Nat) (sz : Nat) (ws : va_W) (U : State) : Prop := kPreZ D cy za zv sz ws U ∧ lNc U
section KL
variable {p : Program} {l : Launch} {e : Env} {R : Room} {s : State} {m : MethodId} {args : Array Value} {below : List Frame} {meth : Method} {c : Code} {H H0 : Heap} {locs : List Loc} {cells slots : Nat} {Q : State → Prop}
variable {Ts wy : List Cond} {cc bytes : ByteArray} {nL maxL index n q0 ci N mc ms pc : Nat} {own C host : String} {T : u_T} {y : MethodName} {ret : Option FieldType} {rm : Room} {b : Addr} {As rest st : List Value} {fs : List Value} {ls : Array Slot}
variable {D : va_G} {cy : Nat → ClassId} {ws wc wr : va_W} {A : Nat → Prop} {S : Type} {mk : S → va_W} {za zv : Nat → Nat}
theorem k_preSL (hN : lNc s) (hZ : mZ za zv A s s.heap) (hS : va_S A s.heap H locs) (hF : ∀ q, va_A wc H.size q → A q) (hK : mK D cy s) (hP : va_P D vwCl wc H) (hD : va_D A wc) : PreS s H (va_Pc As (kPreL D cy za zv H.size wc)) As := by
  refine ⟨fun a U g mk q => ?_, fun U hU hW => ⟨rfl, ⟨⟨by rw [hU], by rw [hU]; exact hP, hK.warm hW, hD.weaken (fun _ _ _ _ => trivial)⟩, hZ.at hS hF hU hW⟩, hN.warm hW⟩⟩
  obtain ⟨h0, ⟨⟨h1, h2, h3, h4⟩, h5⟩, h6⟩ := q
  exact ⟨h0, ⟨⟨h1, h2, h3.calling, h4⟩, h5.calling⟩, h6.calling⟩
/-- a call that may throw, over a part of the world -/
theorem lc_xV {K0 : (String ⊕ Int32) × S → Prop} {o : Option ((String ⊕ Int32) × S)} (h : Ok o K0) (CF : CallFix p m c cc nL s args Ts own)
    (hM : ∀ K : (String ⊕ Int32) × S → Prop, Ok o K → vx_Met l y wy rm (va_Pc (.ref b :: As) (kPreZ D cy za zv H.size wc)) (va_Qi (fun r q => K (.inr r, q)) (fun q => kPost D (va_A wc H.size) (mk q)) (va_A wc H.size)) (vx_X (fun _ : S => True) (fun E q t => K (.inl E, q) ∧ kPost D (va_A wc H.size) (mk q) t) (va_A wc H.size)) 1 6 (va_A wc H.size))
    (cw : CallW R s args own C index y bytes maxL ret wy rm 1 6 n) (hZ : mZ za zv A s s.heap) (hK : mK D cy s) (hp : ws.Perm (wc ++ wr)) (hP : va_P D vwCl ws H) (hD : va_D A ws) (hS : va_S A s.heap H locs) (hA : ∀ q, s.heap.size ≤ q → A q)
    (hrec : wc[q0]? = some (b, .inr (ci, fs))) (hci : vwCl[ci]? = some (C, T, N)) (hn : As.length = n) (hl : ls.size = nL) (hst : st = As.reverse ++ .ref b :: rest) (hw : (rest.map fun v => v.category).sum ≤ 8) (hdg : decode cc pc = .ok (.invokevirtual index, 3)) (hf : cells + 1 ≤ R.cells ∧ slots + 6 ≤ R.slots)
    (kx : ∀ (E : String) (u : S) (H1 : Heap) (locs1 : List Loc) (ce : Cell) (q9 : Addr), K0 (.inl E, u) → va_P D vwCl (mk u ++ wr) H1 → va_D A (mk u ++ wr) → va_S A s.heap H1 locs1 → H1[q9]? = some ce → ce.vm = .none → s.vm.findClass E = some ce.cls → vx_W p l e R s m args below meth c H1 locs1 (cells + 1) (slots + 6) Q (F0 m pc ls rest) q9)
    (kk : ∀ (r : Int32) (u : S) (H1 : Heap) (locs1 : List Loc), K0 (.inr r, u) → va_P D vwCl (mk u ++ wr) H1 → va_D A (mk u ++ wr) → va_S A s.heap H1 locs1 → W p l e R s m args below meth c H1 locs1 (cells + 1) (slots + 6) Q (F0 m (pc + 3) ls (.int r :: rest))) :
    W p l e R s m args below meth c H locs cells slots Q (F0 m pc ls st) := by
  have hP' := kP_app.mp (kP_perm hp hP)
  have hD' := kD_app (kD_perm hp hD)
  have hF := k_free hp hD hS hA
  refine vx_calli (vx_runV CF (hM K0 h) cw (k_preVZ hZ hS hF hK hP'.1 hD'.1 hrec hci) rfl hn hl hst (lv_room hw) hdg hf) hS (fun q _ h => hF q h) hF (fun q _ h => hF q h) (fun E ce q9 u t H1 locs1 ht hvm _ hB hz1 hk1 hS1 hce hcv hcl => ?_) (fun r u t H1 locs1 ht hvm hw1 hB hz1 hk1 hS1 => ?_)
  · obtain ⟨hB1, hP1, hD1⟩ := hB
    rw [ht] at hP1
    obtain ⟨hP2, hD2⟩ := k_join hp hP hD hk1 hF hP1 hD1
    exact kx E u H1 locs1 ce q9 hB1 hP2 hD2 hS1 hce hcv hcl
  · obtain ⟨hP1, hD1⟩ := hB
    rw [ht] at hP1
    obtain ⟨hP2, hD2⟩ := k_join hp hP hD hk1 hF hP1 hD1
    exact kk r u H1 locs1 hw1 hP2 hD2 hS1
/-- .. that answers nothing -/
theorem lc_xVv {K0 : (String ⊕ Int32) × S → Prop} {o : Option ((String ⊕ Int32) × S)} (h : Ok o K0) (CF : CallFix p m c cc nL s args Ts own)
    (hM : ∀ K : (String ⊕ Int32) × S → Prop, Ok o K → vx_Met l y wy rm (va_Pc (.ref b :: As) (kPreZ D cy za zv H.size wc)) (va_Qv (fun q => K (.inr 0, q)) (fun q => kPost D (va_A wc H.size) (mk q)) (va_A wc H.size)) (vx_X (fun _ : S => True) (fun E q t => K (.inl E, q) ∧ kPost D (va_A wc H.size) (mk q) t) (va_A wc H.size)) 1 6 (va_A wc H.size))
    (cw : CallW R s args own C index y bytes maxL ret wy rm 1 6 n) (hZ : mZ za zv A s s.heap) (hK : mK D cy s) (hp : ws.Perm (wc ++ wr)) (hP : va_P D vwCl ws H) (hD : va_D A ws) (hS : va_S A s.heap H locs) (hA : ∀ q, s.heap.size ≤ q → A q)
    (hrec : wc[q0]? = some (b, .inr (ci, fs))) (hci : vwCl[ci]? = some (C, T, N)) (hn : As.length = n) (hl : ls.size = nL) (hst : st = As.reverse ++ .ref b :: rest) (hw : (rest.map fun v => v.category).sum ≤ 8) (hdg : decode cc pc = .ok (.invokevirtual index, 3)) (hf : cells + 1 ≤ R.cells ∧ slots + 6 ≤ R.slots)
    (kx : ∀ (E : String) (u : S) (H1 : Heap) (locs1 : List Loc) (ce : Cell) (q9 : Addr), K0 (.inl E, u) → va_P D vwCl (mk u ++ wr) H1 → va_D A (mk u ++ wr) → va_S A s.heap H1 locs1 → H1[q9]? = some ce → ce.vm = .none → s.vm.findClass E = some ce.cls → vx_W p l e R s m args below meth c H1 locs1 (cells + 1) (slots + 6) Q (F0 m pc ls rest) q9)
    (kk : ∀ (u : S) (H1 : Heap) (locs1 : List Loc), K0 (.inr 0, u) → va_P D vwCl (mk u ++ wr) H1 → va_D A (mk u ++ wr) → va_S A s.heap H1 locs1 → W p l e R s m args below meth c H1 locs1 (cells + 1) (slots + 6) Q (F0 m (pc + 3) ls rest)) :
    W p l e R s m args below meth c H locs cells slots Q (F0 m pc ls st) := by
  have hP' := kP_app.mp (kP_perm hp hP)
  have hD' := kD_app (kD_perm hp hD)
  have hF := k_free hp hD hS hA
  refine vx_callv (vx_runV CF (hM K0 h) cw (k_preVZ hZ hS hF hK hP'.1 hD'.1 hrec hci) rfl hn hl hst (lv_room hw) hdg hf) hS (fun q _ h => hF q h) hF (fun q _ h => hF q h) (fun E ce q9 u t H1 locs1 ht hvm _ hB hz1 hk1 hS1 hce hcv hcl => ?_) (fun u t H1 locs1 ht hvm hw1 hB hz1 hk1 hS1 => ?_)
  · obtain ⟨hB1, hP1, hD1⟩ := hB
    rw [ht] at hP1
    obtain ⟨hP2, hD2⟩ := k_join hp hP hD hk1 hF hP1 hD1
    exact kx E u H1 locs1 ce q9 hB1 hP2 hD2 hS1 hce hcv hcl
  · obtain ⟨hP1, hD1⟩ := hB
    rw [ht] at hP1
    obtain ⟨hP2, hD2⟩ := k_join hp hP hD hk1 hF hP1 hD1
    exact kk u H1 locs1 hw1 hP2 hD2 hS1
theorem lh_ret {K : Int32 → S → Prop} {XC : String → State → State → Prop} {v : Int32} {u : S} (hx : p.tables.exec = Jvm.exec) (hb : c.code = cc) (hr : meth.sig.returnType = some .int) (hlocks : meth.locks = false) (hP : va_P D vwCl (mk u) H) (hD : va_D A (mk u)) (hS : va_S A s.heap H locs) (h : K v u) (hc : cells ≤ 1) (hs : slots ≤ 6) (hdg : decode cc pc = .ok (.ireturn, 1)) :
    W p l e R s m args below meth c H locs cells slots (vx_MQ below (va_Qi K (fun q => kPost D A (mk q)) A) XC args s 1 6 A) (F0 m pc ls [.int v]) :=
  vx_ret (W.widen (k := 1) (n := 6) hc hs (W.iret hx hb hr (fun t ht hW => ⟨⟨v, u, rfl, h, by rw [ht]; exact hP, hD⟩, hS.F ht⟩) hS.2.2 hdg hlocks))
end KL
theorem pFO (cy : Nat → ClassId) (ad hh : Nat → Nat) (aa : Nat → Nat → Nat) (pa : Nat → Nat) (ho : Nat) (u : FS) (f : Nat → Int64) : (wFO cy ad hh aa pa ho (u, f)).Perm (wF cy ad hh aa pa u ++ wOu cy ho f) := List.perm_append_comm
-- appendText
theorem hlX9_appendText : yX9_appendText.cls = RX9 ∧ yX9_appendText.cls ≠ "java/lang/invoke/MethodHandle" ∧ yX9_appendText.cls ≠ "java/lang/invoke/VarHandle" ∧ (parseMethodDescriptor yX9_appendText.desc).map (fun d => d.parameters.length) = some 1 := by decide +kernel
abbrev rmL_appendText : Room := { frames := 8, cells := 1, slots := 6, locals := 180 }
set_option maxHeartbeats 4000000 in
set_option maxRecDepth 100000 in
theorem cL_appendTextM (l : Launch) (hfl : l.stackTraces = false) (D : va_G) (cy : Nat → ClassId) (za zv : Nat → Nat) (ad hh : Nat → Nat) (aa : Nat → Nat → Nat) (pa : Nat → Nat) (ho : Nat) (sz : Nat) (u : FS) (f : Nat → Int64) (p1 : Int32) (K : Int32 → FS × (Nat → Int64) → Prop) (h1 : Ok (fX9_appendText p1 u) (lhK1 "java/lang/IllegalStateException" f K)) : vx_Met l yL_appendText wsL_appendText rmL_appendText (va_Pc [.ref (ad 0), .int p1, .ref ho] (kPreL D cy za zv sz (wFO cy ad hh aa pa ho (u, f)))) (va_Qi K (fun q => kPost D (va_A (wFO cy ad hh aa pa ho (u, f)) sz) (wFO cy ad hh aa pa ho q)) (va_A (wFO cy ad hh aa pa ho (u, f)) sz)) (vx_X (fun _ : Unit => False) (fun _ _ _ => False) (va_A (wFO cy ad hh aa pa ho (u, f)) sz)) 1 6 (va_A (wFO cy ad hh aa pa ho (u, f)) sz) := by
  refine vx_ofWH (cc := cL_appendText) (maxL := 4) (ret := some .int) (hh := [(0, 9, 12, 13)]) (by decide) rfl ?_
  intro p e s m args below meth c s₁ B hml hv
  obtain ⟨rfl, ⟨⟨hsz, hP, hK, hD0⟩, hZ⟩, hN⟩ := hv
  subst hsz
  have hts := atoms_spec (ws := wsL_appendText) B.pre
  have htab := vx_table (x := yL_appendText) B (hts _ List.mem_cons_self)
  have hx := B.exec
  have hb := B.bytes
  have hr := B.returns
  have hown : s.vm.findClass RL = some m.cls := findClass_of_methodNamed B.named
  have hlocks := B.notSynchronized
  have hD := hD0.self (sz := s.heap.size)
  have hA : ∀ q, s.heap.size ≤ q → va_A (wFO cy ad hh aa pa ho (u, f)) s.heap.size q := fun q h => Or.inr h
  generalize va_A (wFO cy ad hh aa pa ho (u, f)) s.heap.size = A at hZ hD hA ⊢
  have hS : va_S A s.heap s.heap [] := va_S.rf
  have hl := lv_entry ([.ref (ad 0), .int p1, .ref ho]) (n := 4) (Nat.le_of_ble_eq_true rfl)
  rw [lg_entry_eq]
  generalize (lg_sl ([.ref (ad 0), .int p1, .ref ho]) ++ List.replicate (4 - (lg_sl ([.ref (ad 0), .int p1, .ref ho])).length) Slot.unset).toArray = ls at hl ⊢
  have hl : lv_has ls 4 [(0, .ref (ad 0)), (1, .int p1), (2, .ref ho)] := hl
  refine lv_aload_n hx hb dL_appendText_0 rfl (lv_at hl 2 rfl) ?_
  refine lv_iconst (v := 0) hx hb dL_appendText_1 rfl ?_
  refine lv_aload_n hx hb dL_appendText_2 rfl (lv_at hl 0 rfl) ?_
  refine lv_iload_n hx hb dL_appendText_3 rfl (lv_at hl 1 rfl) ?_
  refine lc_xV (mk := wF cy ad hh aa pa) (b := (ad 0)) (As := [.int p1]) (rest := [.int 0, .ref ho]) h1 ⟨hx, hb, hml, hown, hts⟩ (cX9_appendTextM l hfl D cy za zv ad hh aa pa s.heap.size u p1) (cwV 1 hts gL_appendText_X9_appendText rfl rfl rfl hlX9_appendText ⟨Nat.le_of_ble_eq_true rfl, Nat.le_of_ble_eq_true rfl⟩) hZ hK (pFO cy ad hh aa pa ho u f) hP hD hS hA (q0 := 0) (wF_c0 _ _ _ _ _ _) rfl rfl hl.1 rfl (Nat.le_of_ble_eq_true rfl) dL_appendText_4 ⟨Nat.le_of_ble_eq_true rfl, Nat.le_of_ble_eq_true rfl⟩ (fun E v H locs ce q9 h1 hP hD hS hce hcv hcl => ?_) (fun r v H locs h1 hP hD hS => ?_)
  · replace hP := kP_perm (pFO cy ad hh aa pa ho v f).symm hP
    replace hD := kD_perm (pFO cy ad hh aa pa ho v f).symm hD
    obtain ⟨hE, h1⟩ := h1
    replace hE : E = "java/lang/IllegalStateException" := hE
    subst hE
    refine vx_catch hown [] ⟨0, 9, 12, 13⟩ [] htab (fun z hz => absurd hz List.not_mem_nil) rfl (by decide) (hts _ (List.mem_of_getElem? (i := 1) rfl)) (hZ.cast (E := "java/lang/IllegalStateException") (by decide) _ List.mem_cons_self) hce hcv hcl ?_
    refine lv_astore_n (lv' := [(3, .ref q9), (0, .ref (ad 0)), (1, .int p1), (2, .ref ho)]) hx hb dL_appendText_12 rfl hl (by decide) rfl (fun ls hl => ?_)
    refine lv_iconst (v := 1) hx hb dL_appendText_13 rfl ?_
    exact lh_ret (mk := wFO cy ad hh aa pa ho) (u := (v, f)) hx hb hr hlocks hP hD hS h1 (by decide) (by decide) dL_appendText_14
  · replace hP := kP_perm (pFO cy ad hh aa pa ho v f).symm hP
    replace hD := kD_perm (pFO cy ad hh aa pa ho v f).symm hD
    refine lv_i2l (v := r.toInt64) hx hb dL_appendText_7 rfl ?_
    refine va_last (ws := wFO cy ad hh aa pa ho (v, f)) (cA := cy 3) (n := 1) (f := f) hx hb hK.1 hP hD hS 0 3 rfl rfl (inb_vp (by decide)) dL_appendText_8 (fun H locs hP hD hS => ?_)
    replace hP : va_P D vwCl (wFO cy ad hh aa pa ho (v, vp_updL f (Int32.toNatClampNeg 0) r.toInt64)) H := hP
    replace hD : va_D A (wFO cy ad hh aa pa ho (v, vp_updL f (Int32.toNatClampNeg 0) r.toInt64)) := hD
    refine lv_goto (tgt := 15) hx hb dL_appendText_9 (by decide) ?_
    refine lv_iconst (v := 0) hx hb dL_appendText_15 rfl ?_
    exact lh_ret (mk := wFO cy ad hh aa pa ho) (u := (v, vp_updL f (Int32.toNatClampNeg 0) r.toInt64)) hx hb hr hlocks hP hD hS h1 (by decide) (by decide) dL_appendText_16
-- kind
theorem hlX9_kind : yX9_kind.cls = RX9 ∧ yX9_kind.cls ≠ "java/lang/invoke/MethodHandle" ∧ yX9_kind.cls ≠ "java/lang/invoke/VarHandle" ∧ (parseMethodDescriptor yX9_kind.desc).map (fun d => d.parameters.length) = some 2 := by decide +kernel
abbrev rmL_kind : Room := { frames := 8, cells := 1, slots := 6, locals := 180 }
set_option maxHeartbeats 4000000 in
set_option maxRecDepth 100000 in
theorem cL_kindM (l : Launch) (hfl : l.stackTraces = false) (D : va_G) (cy : Nat → ClassId) (za zv : Nat → Nat) (ad hh : Nat → Nat) (aa : Nat → Nat → Nat) (pa : Nat → Nat) (ho : Nat) (sz : Nat) (u : FS) (f : Nat → Int64) (p1 : Int32) (p2 : Int32) (K : Int32 → FS × (Nat → Int64) → Prop) (h1 : Ok (fX9_kind p1 p2 u) (lhK2 "java/lang/IndexOutOfBoundsException" "java/lang/IllegalArgumentException" f K)) : vx_Met l yL_kind wsL_kind rmL_kind (va_Pc [.ref (ad 0), .int p1, .int p2, .ref ho] (kPreL D cy za zv sz (wFO cy ad hh aa pa ho (u, f)))) (va_Qi K (fun q => kPost D (va_A (wFO cy ad hh aa pa ho (u, f)) sz) (wFO cy ad hh aa pa ho q)) (va_A (wFO cy ad hh aa pa ho (u, f)) sz)) (vx_X (fun _ : Unit => False) (fun _ _ _ => False) (va_A (wFO cy ad hh aa pa ho (u, f)) sz)) 1 6 (va_A (wFO cy ad hh aa pa ho (u, f)) sz) := by
  refine vx_ofWH (cc := cL_kind) (maxL := 5) (ret := some .int) (hh := [(0, 10, 13, 30), (0, 10, 17, 18)]) (by decide) rfl ?_
  intro p e s m args below meth c s₁ B hml hv
  obtain ⟨rfl, ⟨⟨hsz, hP, hK, hD0⟩, hZ⟩, hN⟩ := hv
  subst hsz
  have hts := atoms_spec (ws := wsL_kind) B.pre
  have htab := vx_table (x := yL_appendText) B (hts _ List.mem_cons_self)
  have hx := B.exec
  have hb := B.bytes
  have hr := B.returns
  have hown : s.vm.findClass RL = some m.cls := findClass_of_methodNamed B.named
  have hlocks := B.notSynchronized
  have hD := hD0.self (sz := s.heap.size)
  have hA : ∀ q, s.heap.size ≤ q → va_A (wFO cy ad hh aa pa ho (u, f)) s.heap.size q := fun q h => Or.inr h
  generalize va_A (wFO cy ad hh aa pa ho (u, f)) s.heap.size = A at hZ hD hA ⊢
  have hS : va_S A s.heap s.heap [] := va_S.rf
  have hl := lv_entry ([.ref (ad 0), .int p1, .int p2, .ref ho]) (n := 5) (Nat.le_of_ble_eq_true rfl)
  rw [lg_entry_eq]
  generalize (lg_sl ([.ref (ad 0), .int p1, .int p2, .ref ho]) ++ List.replicate (5 - (lg_sl ([.ref (ad 0), .int p1, .int p2, .ref ho])).length) Slot.unset).toArray = ls at hl ⊢
  have hl : lv_has ls 5 [(0, .ref (ad 0)), (1, .int p1), (2, .int p2), (3, .ref ho)] := hl
  refine lv_aload_n hx hb dL_kind_0 rfl (lv_at hl 3 rfl) ?_
  refine lv_iconst (v := 0) hx hb dL_kind_1 rfl ?_
  refine lv_aload_n hx hb dL_kind_2 rfl (lv_at hl 0 rfl) ?_
  refine lv_iload_n hx hb dL_kind_3 rfl (lv_at hl 1 rfl) ?_
  refine lv_iload_n hx hb dL_kind_4 rfl (lv_at hl 2 rfl) ?_
  refine lc_xV (mk := wF cy ad hh aa pa) (b := (ad 0)) (As := [.int p1, .int p2]) (rest := [.int 0, .ref ho]) h1 ⟨hx, hb, hml, hown, hts⟩ (cX9_kindM l hfl D cy za zv ad hh aa pa s.heap.size u p1 p2) (cwV 2 hts gL_kind_X9_kind rfl rfl rfl hlX9_kind ⟨Nat.le_of_ble_eq_true rfl, Nat.le_of_ble_eq_true rfl⟩) hZ hK (pFO cy ad hh aa pa ho u f) hP hD hS hA (q0 := 0) (wF_c0 _ _ _ _ _ _) rfl rfl hl.1 rfl (Nat.le_of_ble_eq_true rfl) dL_kind_5 ⟨Nat.le_of_ble_eq_true rfl, Nat.le_of_ble_eq_true rfl⟩ (fun E v H locs ce q9 h1 hP hD hS hce hcv hcl => ?_) (fun r v H locs h1 hP hD hS => ?_)
  · replace hP := kP_perm (pFO cy ad hh aa pa ho v f).symm hP
    replace hD := kD_perm (pFO cy ad hh aa pa ho v f).symm hD
    rcases h1 with ⟨hE, h1⟩ | ⟨hE, h1⟩
    · replace hE : E = "java/lang/IndexOutOfBoundsException" := hE
      subst hE
      refine vx_catch hown [] ⟨0, 10, 13, 30⟩ [⟨0, 10, 17, 18⟩] htab (fun z hz => absurd hz List.not_mem_nil) rfl (by decide) (hts _ (List.mem_of_getElem? (i := 1) rfl)) (hZ.cast (E := "java/lang/IndexOutOfBoundsException") (by decide) _ List.mem_cons_self) hce hcv hcl ?_
      refine lv_astore (lv' := [(4, .ref q9), (0, .ref (ad 0)), (1, .int p1), (2, .int p2), (3, .ref ho)]) hx hb dL_kind_13 hl (by decide) rfl (fun ls hl => ?_)
      refine lv_iconst (v := 1) hx hb dL_kind_15 rfl ?_
      exact lh_ret (mk := wFO cy ad hh aa pa ho) (u := (v, f)) hx hb hr hlocks hP hD hS h1 (by decide) (by decide) dL_kind_16
    · replace hE : E = "java/lang/IllegalArgumentException" := hE
      subst hE
      refine vx_catch hown [⟨0, 10, 13, 30⟩] ⟨0, 10, 17, 18⟩ [] htab (fun z hz => by cases List.mem_singleton.mp hz; exact Or.inr ⟨by decide, "java/lang/IndexOutOfBoundsException", hts _ (List.mem_of_getElem? (i := 1) rfl), hN.1⟩) rfl (by decide) (hts _ (List.mem_of_getElem? (i := 2) rfl)) (hZ.cast (E := "java/lang/IllegalArgumentException") (by decide) _ List.mem_cons_self) hce hcv hcl ?_
      refine lv_astore (lv' := [(4, .ref q9), (0, .ref (ad 0)), (1, .int p1), (2, .int p2), (3, .ref ho)]) hx hb dL_kind_17 hl (by decide) rfl (fun ls hl => ?_)
      refine lv_iconst (v := 2) hx hb dL_kind_19 rfl ?_
      exact lh_ret (mk := wFO cy ad hh aa pa ho) (u := (v, f)) hx hb hr hlocks hP hD hS h1 (by decide) (by decide) dL_kind_20
  · replace hP := kP_perm (pFO cy ad hh aa pa ho v f).symm hP
    replace hD := kD_perm (pFO cy ad hh aa pa ho v f).symm hD
    refine lv_i2l (v := r.toInt64) hx hb dL_kind_8 rfl ?_
    refine va_last (ws := wFO cy ad hh aa pa ho (v, f)) (cA := cy 3) (n := 1) (f := f) hx hb hK.1 hP hD hS 0 3 rfl rfl (inb_vp (by decide)) dL_kind_9 (fun H locs hP hD hS => ?_)
    replace hP : va_P D vwCl (wFO cy ad hh aa pa ho (v, vp_updL f (Int32.toNatClampNeg 0) r.toInt64)) H := hP
    replace hD : va_D A (wFO cy ad hh aa pa ho (v, vp_updL f (Int32.toNatClampNeg 0) r.toInt64)) := hD
    refine lv_goto (tgt := 21) hx hb dL_kind_10 (by decide) ?_
    refine lv_iconst (v := 0) hx hb dL_kind_21 rfl ?_
    exact lh_ret (mk := wFO cy ad hh aa pa ho) (u := (v, vp_updL f (Int32.toNatClampNeg 0) r.toInt64)) hx hb hr hlocks hP hD hS h1 (by decide) (by decide) dL_kind_22
-- save
theorem hlX9_save : yX9_save.cls = RX9 ∧ yX9_save.cls ≠ "java/lang/invoke/MethodHandle" ∧ yX9_save.cls ≠ "java/lang/invoke/VarHandle" ∧ (parseMethodDescriptor yX9_save.desc).map (fun d => d.parameters.length) = some 1 := by decide +kernel
abbrev rmL_save : Room := { frames := 8, cells := 1, slots := 6, locals := 180 }
set_option maxHeartbeats 4000000 in
set_option maxRecDepth 100000 in
theorem cL_saveM (l : Launch) (hfl : l.stackTraces = false) (D : va_G) (cy : Nat → ClassId) (za zv : Nat → Nat) (ad hh : Nat → Nat) (aa : Nat → Nat → Nat) (pa : Nat → Nat) (sz : Nat) (u : FS) (p1 : Int32) (K : Int32 → FS → Prop) (h1 : Ok (fX9_save p1 u) (lhV1 "java/lang/IllegalArgumentException" K)) : vx_Met l yL_save wsL_save rmL_save (va_Pc [.ref (ad 0), .int p1] (kPreL D cy za zv sz (wF cy ad hh aa pa u))) (va_Qi K (fun q => kPost D (va_A (wF cy ad hh aa pa u) sz) (wF cy ad hh aa pa q)) (va_A (wF cy ad hh aa pa u) sz)) (vx_X (fun _ : Unit => False) (fun _ _ _ => False) (va_A (wF cy ad hh aa pa u) sz)) 1 6 (va_A (wF cy ad hh aa pa u) sz) := by
  refine vx_ofWH (cc := cL_save) (maxL := 3) (ret := some .int) (hh := [(0, 5, 8, 18)]) (by decide) rfl ?_
  intro p e s m args below meth c s₁ B hml hv
  obtain ⟨rfl, ⟨⟨hsz, hP, hK, hD0⟩, hZ⟩, hN⟩ := hv
  subst hsz
  have hts := atoms_spec (ws := wsL_save) B.pre
  have htab := vx_table (x := yL_appendText) B (hts _ List.mem_cons_self)
  have hx := B.exec
  have hb := B.bytes
  have hr := B.returns
  have hown : s.vm.findClass RL = some m.cls := findClass_of_methodNamed B.named
  have hlocks := B.notSynchronized
  have hD := hD0.self (sz := s.heap.size)
  have hA : ∀ q, s.heap.size ≤ q → va_A (wF cy ad hh aa pa u) s.heap.size q := fun q h => Or.inr h
  generalize va_A (wF cy ad hh aa pa u) s.heap.size = A at hZ hD hA ⊢
  have hS : va_S A s.heap s.heap [] := va_S.rf
  have hl := lv_entry ([.ref (ad 0), .int p1]) (n := 3) (Nat.le_of_ble_eq_true rfl)
  rw [lg_entry_eq]
  generalize (lg_sl ([.ref (ad 0), .int p1]) ++ List.replicate (3 - (lg_sl ([.ref (ad 0), .int p1])).length) Slot.unset).toArray = ls at hl ⊢
  have hl : lv_has ls 3 [(0, .ref (ad 0)), (1, .int p1)] := hl
  refine lv_aload_n hx hb dL_save_0 rfl (lv_at hl 0 rfl) ?_
  refine lv_iload_n hx hb dL_save_1 rfl (lv_at hl 1 rfl) ?_
  refine lc_xVv (mk := wF cy ad hh aa pa) (b := (ad 0)) (As := [.int p1]) (rest := []) h1 ⟨hx, hb, hml, hown, hts⟩ (cX9_saveM l hfl D cy za zv ad hh aa pa s.heap.size u p1) (cwV 1 hts gL_save_X9_save rfl rfl rfl hlX9_save ⟨Nat.le_of_ble_eq_true rfl, Nat.le_of_ble_eq_true rfl⟩) hZ hK (by rw [List.append_nil]) hP hD hS hA (q0 := 0) (wF_c0 _ _ _ _ _ _) rfl rfl hl.1 rfl (Nat.le_of_ble_eq_true rfl) dL_save_2 ⟨Nat.le_of_ble_eq_true rfl, Nat.le_of_ble_eq_true rfl⟩ (fun E v H locs ce q9 h1 hP hD hS hce hcv hcl => ?_) (fun v H locs h1 hP hD hS => ?_)
  · replace hP : va_P D vwCl (wF cy ad hh aa pa v) H := by rw [List.append_nil] at hP; exact hP
    replace hD : va_D A (wF cy ad hh aa pa v) := by rw [List.append_nil] at hD; exact hD
    obtain ⟨hE, h1⟩ := h1
    replace hE : E = "java/lang/IllegalArgumentException" := hE
    subst hE
    refine vx_catch hown [] ⟨0, 5, 8, 18⟩ [] htab (fun z hz => absurd hz List.not_mem_nil) rfl (by decide) (hts _ (List.mem_of_getElem? (i := 1) rfl)) (hZ.cast (E := "java/lang/IllegalArgumentException") (by decide) _ List.mem_cons_self) hce hcv hcl ?_
    refine lv_astore_n (lv' := [(2, .ref q9), (0, .ref (ad 0)), (1, .int p1)]) hx hb dL_save_8 rfl hl (by decide) rfl (fun ls hl => ?_)
    refine lv_iconst (v := 1) hx hb dL_save_9 rfl ?_
    exact lh_ret (mk := wF cy ad hh aa pa) (u := v) hx hb hr hlocks hP hD hS h1 (by decide) (by decide) dL_save_10
  · replace hP : va_P D vwCl (wF cy ad hh aa pa v) H := by rw [List.append_nil] at hP; exact hP
    replace hD : va_D A (wF cy ad hh aa pa v) := by rw [List.append_nil] at hD; exact hD
    refine lv_goto (tgt := 11) hx hb dL_save_5 (by decide) ?_
    refine lv_iconst (v := 0) hx hb dL_save_11 rfl ?_
    exact lh_ret (mk := wF cy ad hh aa pa) (u := v) hx hb hr hlocks hP hD hS h1 (by decide) (by decide) dL_save_12
-- restore
theorem hlX9_restore : yX9_restore.cls = RX9 ∧ yX9_restore.cls ≠ "java/lang/invoke/MethodHandle" ∧ yX9_restore.cls ≠ "java/lang/invoke/VarHandle" ∧ (parseMethodDescriptor yX9_restore.desc).map (fun d => d.parameters.length) = some 1 := by decide +kernel
abbrev rmL_restore : Room := { frames := 8, cells := 1, slots := 6, locals := 180 }
set_option maxHeartbeats 4000000 in
set_option maxRecDepth 100000 in
theorem cL_restoreM (l : Launch) (hfl : l.stackTraces = false) (D : va_G) (cy : Nat → ClassId) (za zv : Nat → Nat) (ad hh : Nat → Nat) (aa : Nat → Nat → Nat) (pa : Nat → Nat) (sz : Nat) (u : FS) (p1 : Int32) (K : Int32 → FS → Prop) (h1 : Ok (fX9_restore p1 u) (lhV2 "java/lang/IllegalArgumentException" "java/lang/IllegalStateException" K)) : vx_Met l yL_restore wsL_restore rmL_restore (va_Pc [.ref (ad 0), .int p1] (kPreL D cy za zv sz (wF cy ad hh aa pa u))) (va_Qi K (fun q => kPost D (va_A (wF cy ad hh aa pa u) sz) (wF cy ad hh aa pa q)) (va_A (wF cy ad hh aa pa u) sz)) (vx_X (fun _ : Unit => False) (fun _ _ _ => False) (va_A (wF cy ad hh aa pa u) sz)) 1 6 (va_A (wF cy ad hh aa pa u) sz) := by
  refine vx_ofWH (cc := cL_restore) (maxL := 3) (ret := some .int) (hh := [(0, 5, 8, 18), (0, 5, 11, 13)]) (by decide) rfl ?_
  intro p e s m args below meth c s₁ B hml hv
  obtain ⟨rfl, ⟨⟨hsz, hP, hK, hD0⟩, hZ⟩, hN⟩ := hv
  subst hsz
  have hts := atoms_spec (ws := wsL_restore) B.pre
  have htab := vx_table (x := yL_appendText) B (hts _ List.mem_cons_self)
  have hx := B.exec
  have hb := B.bytes
  have hr := B.returns
  have hown : s.vm.findClass RL = some m.cls := findClass_of_methodNamed B.named
  have hlocks := B.notSynchronized
  have hD := hD0.self (sz := s.heap.size)
  have hA : ∀ q, s.heap.size ≤ q → va_A (wF cy ad hh aa pa u) s.heap.size q := fun q h => Or.inr h
  generalize va_A (wF cy ad hh aa pa u) s.heap.size = A at hZ hD hA ⊢
  have hS : va_S A s.heap s.heap [] := va_S.rf
  have hl := lv_entry ([.ref (ad 0), .int p1]) (n := 3) (Nat.le_of_ble_eq_true rfl)
  rw [lg_entry_eq]
  generalize (lg_sl ([.ref (ad 0), .int p1]) ++ List.replicate (3 - (lg_sl ([.ref (ad 0), .int p1])).length) Slot.unset).toArray = ls at hl ⊢
  have hl : lv_has ls 3 [(0, .ref (ad 0)), (1, .int p1)] := hl
  refine lv_aload_n hx hb dL_restore_0 rfl (lv_at hl 0 rfl) ?_
  refine lv_iload_n hx hb dL_restore_1 rfl (lv_at hl 1 rfl) ?_
  refine lc_xVv (mk := wF cy ad hh aa pa) (b := (ad 0)) (As := [.int p1]) (rest := []) h1 ⟨hx, hb, hml, hown, hts⟩ (cX9_restoreM l hfl D cy za zv ad hh aa pa s.heap.size u p1) (cwV 1 hts gL_restore_X9_restore rfl rfl rfl hlX9_restore ⟨Nat.le_of_ble_eq_true rfl, Nat.le_of_ble_eq_true rfl⟩) hZ hK (by rw [List.append_nil]) hP hD hS hA (q0 := 0) (wF_c0 _ _ _ _ _ _) rfl rfl hl.1 rfl (Nat.le_of_ble_eq_true rfl) dL_restore_2 ⟨Nat.le_of_ble_eq_true rfl, Nat.le_of_ble_eq_true rfl⟩ (fun E v H locs ce q9 h1 hP hD hS hce hcv hcl => ?_) (fun v H locs h1 hP hD hS => ?_)
  · replace hP : va_P D vwCl (wF cy ad hh aa pa v) H := by rw [List.append_nil] at hP; exact hP
    replace hD : va_D A (wF cy ad hh aa pa v) := by rw [List.append_nil] at hD; exact hD
    rcases h1 with ⟨hE, h1⟩ | ⟨hE, h1⟩
    · replace hE : E = "java/lang/IllegalArgumentException" := hE
      subst hE
      refine vx_catch hown [] ⟨0, 5, 8, 18⟩ [⟨0, 5, 11, 13⟩] htab (fun z hz => absurd hz List.not_mem_nil) rfl (by decide) (hts _ (List.mem_of_getElem? (i := 1) rfl)) (hZ.cast (E := "java/lang/IllegalArgumentException") (by decide) _ List.mem_cons_self) hce hcv hcl ?_
      refine lv_astore_n (lv' := [(2, .ref q9), (0, .ref (ad 0)), (1, .int p1)]) hx hb dL_restore_8 rfl hl (by decide) rfl (fun ls hl => ?_)
      refine lv_iconst (v := 1) hx hb dL_restore_9 rfl ?_
      exact lh_ret (mk := wF cy ad hh aa pa) (u := v) hx hb hr hlocks hP hD hS h1 (by decide) (by decide) dL_restore_10
    · replace hE : E = "java/lang/IllegalStateException" := hE
      subst hE
      refine vx_catch hown [⟨0, 5, 8, 18⟩] ⟨0, 5, 11, 13⟩ [] htab (fun z hz => by cases List.mem_singleton.mp hz; exact Or.inr ⟨by decide, "java/lang/IllegalArgumentException", hts _ (List.mem_of_getElem? (i := 1) rfl), hN.2⟩) rfl (by decide) (hts _ (List.mem_of_getElem? (i := 2) rfl)) (hZ.cast (E := "java/lang/IllegalStateException") (by decide) _ List.mem_cons_self) hce hcv hcl ?_
      refine lv_astore_n (lv' := [(2, .ref q9), (0, .ref (ad 0)), (1, .int p1)]) hx hb dL_restore_11 rfl hl (by decide) rfl (fun ls hl => ?_)
      refine lv_iconst (v := 2) hx hb dL_restore_12 rfl ?_
      exact lh_ret (mk := wF cy ad hh aa pa) (u := v) hx hb hr hlocks hP hD hS h1 (by decide) (by decide) dL_restore_13
  · replace hP : va_P D vwCl (wF cy ad hh aa pa v) H := by rw [List.append_nil] at hP; exact hP
    replace hD : va_D A (wF cy ad hh aa pa v) := by rw [List.append_nil] at hD; exact hD
    refine lv_goto (tgt := 14) hx hb dL_restore_5 (by decide) ?_
    refine lv_iconst (v := 0) hx hb dL_restore_14 rfl ?_
    exact lh_ret (mk := wF cy ad hh aa pa) (u := v) hx hb hr hlocks hP hD hS h1 (by decide) (by decide) dL_restore_15
