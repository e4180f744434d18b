/-! constructors -/
section KN
variable {p : Program} {l : Launch} {e : Env} {R : Room} {s : State} {m : MethodId} {args : Array Value} {below : List Frame} {meth : Method} {c : Code} {H H0 : Heap} {locs : List Loc} {cells slots : Nat} {Q : State → Prop}
variable {Ts wy : List Cond} {cc bytes : ByteArray} {nL maxL index n q0 ci N mc ms pc : Nat} {own C host : String} {T : u_T} {y : MethodName} {ret : Option FieldType} {rm : Room} {b : Addr} {As rest st : List Value} {fs : List Value} {ls : Array Slot}
variable {D : va_G} {cy : Nat → ClassId} {ws wc wr : va_W} {A : Nat → Prop} {S γ : Type} {mk : S → va_W} {K0 : γ → Prop}
theorem k_newi (hx : p.tables.exec = Jvm.exec) (hb : c.code = cc) (harr : (Cond.arrayClass .int).before args s = true) (hK : mK D cy s) (hP : va_P D kCl ws H) (hD : va_D A ws) (hS : va_S A H0 H locs) (hA : ∀ q, H0.size ≤ q → A q) {i : Int32} {k : Nat} (hn : ¬ i < 0) (hN : i.toNatClampNeg = k) (hbytes : k * 4 ≤ 536870912) (hc : cells + 1 ≤ R.cells) (hs : slots + k ≤ R.slots) (hdg : decode cc pc = .ok (.newarray .int, 2))
    (kk : ∀ (q : Nat) (H1 : Heap), va_P D kCl (ws ++ [(q, .inl (cy 0, k, .inl (fun _ => 0)))]) H1 → va_D A (ws ++ [(q, .inl (cy 0, k, .inl (fun _ => 0)))]) → va_S A H0 H1 locs → W p l e R s m args below meth c H1 locs (cells + 1) (slots + k) Q (F0 m (pc + 2) ls (.ref q :: rest))) : W p l e R s m args below meth c H locs cells slots Q (F0 m pc ls (.int i :: rest)) := by
  refine va_newaK (atype := .int) hx hb harr rfl hdg rfl hn hN hbytes hc hs rfl (fun H' cA h1 h2 h3 _ h5 => ?_)
  have e : cA = cy 0 := Option.some.inj (h5.symm.trans (hK.1.2 0 _ rfl).2)
  subst e
  have hk : ∀ q, q < H.size → H'[q]? = H[q]? := h3
  refine kk H.size H' ?_ ?_ ⟨Nat.le_trans hS.1 (by omega), fun q g1 g2 => (hk q (Nat.lt_of_lt_of_le g1 hS.1)).trans (hS.2.1 q g1 g2), hS.2.2⟩
  · refine kP_app.mpr ⟨fun j q hq => (hP j q hq).kept (hk _ (hP j q hq).lt), fun j q hq => ?_⟩
    cases j with
    | zero =>
      cases hq
      exact h1
    | succ j => simp at hq
  · exact hD.push hP rfl (hA _ hS.1)
theorem k_newz (hx : p.tables.exec = Jvm.exec) (hb : c.code = cc) (harr : (Cond.arrayClass .boolean).before args s = true) (hK : mK D cy s) (hP : va_P D kCl ws H) (hD : va_D A ws) (hS : va_S A H0 H locs) (hA : ∀ q, H0.size ≤ q → A q) {i : Int32} {k : Nat} (hn : ¬ i < 0) (hN : i.toNatClampNeg = k) (hbytes : k * 1 ≤ 536870912) (hc : cells + 1 ≤ R.cells) (hs : slots + k ≤ R.slots) (hdg : decode cc pc = .ok (.newarray .boolean, 2))
    (kk : ∀ (q : Nat) (H1 : Heap), va_P D kCl (ws ++ [(q, .inl (cy 1, k, .inl (fun _ => 0)))]) H1 → va_D A (ws ++ [(q, .inl (cy 1, k, .inl (fun _ => 0)))]) → va_S A H0 H1 locs → W p l e R s m args below meth c H1 locs (cells + 1) (slots + k) Q (F0 m (pc + 2) ls (.ref q :: rest))) : W p l e R s m args below meth c H locs cells slots Q (F0 m pc ls (.int i :: rest)) := by
  refine va_newaK (atype := .boolean) hx hb harr rfl hdg rfl hn hN hbytes hc hs rfl (fun H' cA h1 h2 h3 _ h5 => ?_)
  have e : cA = cy 1 := Option.some.inj (h5.symm.trans (hK.1.2 1 _ rfl).2)
  subst e
  have hk : ∀ q, q < H.size → H'[q]? = H[q]? := h3
  refine kk H.size H' ?_ ?_ ⟨Nat.le_trans hS.1 (by omega), fun q g1 g2 => (hk q (Nat.lt_of_lt_of_le g1 hS.1)).trans (hS.2.1 q g1 g2), hS.2.2⟩
  · refine kP_app.mpr ⟨fun j q hq => (hP j q hq).kept (hk _ (hP j q hq).lt), fun j q hq => ?_⟩
    cases j with
    | zero =>
      cases hq
      exact h1
    | succ j => simp at hq
  · exact hD.push hP rfl (hA _ hS.1)
theorem k_putF (hx : p.tables.exec = Jvm.exec) (hb : c.code = cc) {a : Nat} (hts : ∀ w ∈ Ts, w.before args s = true) (hin : ∀ w ∈ u_ws C T N, w ∈ Ts) (ty0 : Nat → FieldType) (hty : ∀ k, k < N → parseFieldDescriptor (T k).2.2.1 = some (ty0 k)) (hnm : ∀ a, a < N → ∀ b, b < N → a ≠ b → (T a).2.1 ≠ (T b).2.1) (hown : s.vm.findClass own = some m.cls) (hK : mK D cy s) (hP : va_P D kCl ws H) (hD : va_D A ws) (hS : va_S A H0 H locs)
    (q0 : Nat) {fs : List Value} (he : ws[q0]? = some (a, .inr (ci, fs))) (hc : kCl[ci]? = some (C, T, N)) (k : Nat) (hk : k < N) (hlink : Cond.fieldLink own index (T k).1 (T k).2.1 (T k).2.2.1 ∈ Ts) (hfin : (T k).2.2.2 = true) (hin2 : meth.name = "<init>") (hdecl : (T k).1 = own) {ty : FieldType} {v : Value} (hd : parseFieldDescriptor (T k).2.2.1 = some ty) (hn : narrow ty v = v) (hfit : fits ty v = true) (hl : k < fs.length)
    {ws' : va_W} (hws : ws.set q0 (a, .inr (ci, fs.set k v)) = ws') (hdg : decode cc pc = .ok (.putfield index, 3))
    (kk : ∀ (H1 : Heap) (locs1 : List Loc), va_P D kCl ws' H1 → va_D A ws' → va_S A H0 H1 locs1 → W p l e R s m args below meth c H1 locs1 cells slots Q (F0 m (pc + 3) ls rest)) : W p l e R s m args below meth c H locs cells slots Q (F0 m pc ls (v :: .ref a :: rest)) := by
  subst hws
  exact va_putF hx hb hts hin ty0 hty hnm hown hK.1 hP hD hS q0 he hc k hk (hts _ hlink) (fun _ h => h) hfin hin2 hdecl hd hn hfit hl hdg kk
end KN

/-- a State as it is made; a Parser; the reference -/
def KS0 : KS := (fun _ => 0, fun _ => 0, fun _ => 0, fun _ => 0, fun _ => 0, fun _ => 0, fun _ => 0, fun _ => 0, fun _ => 0, fun _ => 0, 0, 0, 0)
def PS0 : PS := (fun _ => 0, fun _ => 0, 0, 0, -1, 0, 0, 0, 0, 0, 0)
theorem inX8_init_X8 : ∀ w ∈ u_ws RX8 TX8 13, w ∈ wsX8_init := k_lays 18 rfl
theorem lkX8_init_11 : Cond.fieldLink RX8 11 "FerryRamp$State" "counts" "[I" ∈ wsX8_init := List.mem_of_getElem? (i := 5) rfl
theorem lkX8_init_19 : Cond.fieldLink RX8 19 "FerryRamp$State" "settings" "[I" ∈ wsX8_init := List.mem_of_getElem? (i := 6) rfl
theorem lkX8_init_24 : Cond.fieldLink RX8 24 "FerryRamp$State" "kinds" "[I" ∈ wsX8_init := List.mem_of_getElem? (i := 7) rfl
theorem lkX8_init_29 : Cond.fieldLink RX8 29 "FerryRamp$State" "cars" "[I" ∈ wsX8_init := List.mem_of_getElem? (i := 8) rfl
theorem lkX8_init_32 : Cond.fieldLink RX8 32 "FerryRamp$State" "queue" "[I" ∈ wsX8_init := List.mem_of_getElem? (i := 9) rfl
theorem lkX8_init_35 : Cond.fieldLink RX8 35 "FerryRamp$State" "onDeck" "[I" ∈ wsX8_init := List.mem_of_getElem? (i := 10) rfl
theorem lkX8_init_38 : Cond.fieldLink RX8 38 "FerryRamp$State" "deckCars" "[I" ∈ wsX8_init := List.mem_of_getElem? (i := 11) rfl
theorem lkX8_init_41 : Cond.fieldLink RX8 41 "FerryRamp$State" "weights" "[I" ∈ wsX8_init := List.mem_of_getElem? (i := 12) rfl
theorem lkX8_init_44 : Cond.fieldLink RX8 44 "FerryRamp$State" "taken" "[I" ∈ wsX8_init := List.mem_of_getElem? (i := 13) rfl
theorem lkX8_init_49 : Cond.fieldLink RX8 49 "FerryRamp$State" "calls" "[I" ∈ wsX8_init := List.mem_of_getElem? (i := 14) rfl
theorem lkX8_init_52 : Cond.fieldLink RX8 52 "FerryRamp$State" "deck" "I" ∈ wsX8_init := List.mem_of_getElem? (i := 15) rfl
theorem lkX8_init_56 : Cond.fieldLink RX8 56 "FerryRamp$State" "slope" "I" ∈ wsX8_init := List.mem_of_getElem? (i := 16) rfl
theorem lkX8_init_59 : Cond.fieldLink RX8 59 "FerryRamp$State" "lip" "I" ∈ wsX8_init := List.mem_of_getElem? (i := 17) rfl
abbrev rmX8_init : Room := { frames := 1, cells := 10, slots := 662, locals := 20 }
set_option maxHeartbeats 4000000 in
set_option maxRecDepth 100000 in
theorem cX8_initM (l : Launch) (D : va_G) (cy : Nat → ClassId) (h sz : Nat) : Met l yX8_init wsX8_init rmX8_init (va_Pc [.ref h] (kPre D cy sz [(h, .inr (2, [.null, .null, .null, .null, .null, .null, .null, .null, .null, .null, .int 0, .int 0, .int 0]))])) (va_Qv (fun a : Nat → Nat => True) (fun a t => kPost D (va_A ([(h, .inr (2, [.null, .null, .null, .null, .null, .null, .null, .null, .null, .null, .int 0, .int 0, .int 0]))]) sz) (wS cy h a KS0) t) (va_A ([(h, .inr (2, [.null, .null, .null, .null, .null, .null, .null, .null, .null, .null, .int 0, .int 0, .int 0]))]) sz)) 10 662 (va_A ([(h, .inr (2, [.null, .null, .null, .null, .null, .null, .null, .null, .null, .null, .int 0, .int 0, .int 0]))]) sz) := by
  refine Met.ofW (cc := cX8_init) (maxL := 1) (ret := none) (by decide) rfl ?_
  intro p e s m args below meth c s₁ B hml hv
  obtain ⟨rfl, hsz, hP, hK, hD0⟩ := hv
  subst hsz
  have hx := B.exec
  have hb := B.bytes
  have hr := B.returns
  have hts := atoms_spec (ws := wsX8_init) B.pre
  have hown : s.vm.findClass RX8 = some m.cls := findClass_of_methodNamed B.named
  have hin : meth.name = "<init>" := (name_of_methodNamed B.named B.method).1
  have hlocks := B.notSynchronized
  have hA : ∀ q, s.heap.size ≤ q → va_A ([(h, .inr (2, [.null, .null, .null, .null, .null, .null, .null, .null, .null, .null, .int 0, .int 0, .int 0]))]) s.heap.size q := fun q h => Or.inr h
  have hS : va_S (va_A ([(h, .inr (2, [.null, .null, .null, .null, .null, .null, .null, .null, .null, .null, .int 0, .int 0, .int 0]))]) s.heap.size) s.heap s.heap [] := va_S.rf
  have hD : va_D (va_A ([(h, .inr (2, [.null, .null, .null, .null, .null, .null, .null, .null, .null, .null, .int 0, .int 0, .int 0]))]) s.heap.size) ([(h, .inr (2, [.null, .null, .null, .null, .null, .null, .null, .null, .null, .null, .int 0, .int 0, .int 0]))]) := hD0.self
  have hl := lv_entry ([.ref h]) (n := 1) (Nat.le_of_ble_eq_true rfl)
  rw [lg_entry_eq]
  generalize (lg_sl ([.ref h]) ++ List.replicate (1 - (lg_sl ([.ref h])).length) Slot.unset).toArray = ls at hl ⊢
  have hl : lv_has ls 1 [(0, .ref h)] := hl
  refine lv_aload_n hx hb dX8_init_0 rfl (lv_at hl 0 rfl) ?_
  refine W.objInit hx hb hown (hts _ (List.mem_of_getElem? (i := 1) rfl)) (hts _ (List.mem_of_getElem? (i := 2) rfl)) (hts _ (List.mem_of_getElem? (i := 3) rfl)) rfl (by rw [hml]; exact hl.1) rfl dX8_init_1 (Nat.le_of_ble_eq_true rfl) (Nat.le_of_ble_eq_true rfl) ?_
  refine W.eq (g2 := F0 m 4 ls []) rfl ?_
  refine lv_aload_n hx hb dX8_init_4 rfl (lv_at hl 0 rfl) ?_
  refine lv_bipush (v := 17) hx hb dX8_init_5 rfl ?_
  refine k_newi (k := 17) hx hb (hts _ (List.mem_of_getElem? (i := 4) rfl)) hK hP hD hS hA (by decide) rfl (Nat.le_of_ble_eq_true rfl) (Nat.le_of_ble_eq_true rfl) (Nat.le_of_ble_eq_true rfl) dX8_init_7 (fun q0 H hP hD hS => ?_)
  replace hP : va_P D kCl [(h, .inr (2, [.null, .null, .null, .null, .null, .null, .null, .null, .null, .null, .int 0, .int 0, .int 0])), (q0, .inl (cy 0, 17, .inl (fun _ => 0)))] H := hP
  replace hD : va_D (va_A ([(h, .inr (2, [.null, .null, .null, .null, .null, .null, .null, .null, .null, .null, .int 0, .int 0, .int 0]))]) s.heap.size) [(h, .inr (2, [.null, .null, .null, .null, .null, .null, .null, .null, .null, .null, .int 0, .int 0, .int 0])), (q0, .inl (cy 0, 17, .inl (fun _ => 0)))] := hD
  refine W.widen (k := 1) (n := 17) (Nat.le_of_ble_eq_true rfl) (Nat.le_of_ble_eq_true rfl) ?_
  refine k_putF (v := .ref q0) (ty := (.array .int)) (C := RX8) (T := TX8) (N := 13) hx hb hts inX8_init_X8 tyX8 tyX8_ok nmX8 hown hK hP hD hS 0 rfl rfl 0 (by decide) lkX8_init_11 rfl hin rfl (by decide +kernel) rfl rfl (Nat.le_of_ble_eq_true rfl) (ws' := [(h, .inr (2, [.ref q0, .null, .null, .null, .null, .null, .null, .null, .null, .null, .int 0, .int 0, .int 0])), (q0, .inl (cy 0, 17, .inl (fun _ => 0)))]) rfl dX8_init_9 (fun H locs hP hD hS => ?_)
  refine lv_aload_n hx hb dX8_init_12 rfl (lv_at hl 0 rfl) ?_
  refine lv_bipush (v := 14) hx hb dX8_init_13 rfl ?_
  refine k_newi (k := 14) hx hb (hts _ (List.mem_of_getElem? (i := 4) rfl)) hK hP hD hS hA (by decide) rfl (Nat.le_of_ble_eq_true rfl) (Nat.le_of_ble_eq_true rfl) (Nat.le_of_ble_eq_true rfl) dX8_init_15 (fun q1 H hP hD hS => ?_)
  replace hP : va_P D kCl [(h, .inr (2, [.ref q0, .null, .null, .null, .null, .null, .null, .null, .null, .null, .int 0, .int 0, .int 0])), (q0, .inl (cy 0, 17, .inl (fun _ => 0))), (q1, .inl (cy 0, 14, .inl (fun _ => 0)))] H := hP
  replace hD : va_D (va_A ([(h, .inr (2, [.null, .null, .null, .null, .null, .null, .null, .null, .null, .null, .int 0, .int 0, .int 0]))]) s.heap.size) [(h, .inr (2, [.ref q0, .null, .null, .null, .null, .null, .null, .null, .null, .null, .int 0, .int 0, .int 0])), (q0, .inl (cy 0, 17, .inl (fun _ => 0))), (q1, .inl (cy 0, 14, .inl (fun _ => 0)))] := hD
  refine W.widen (k := 2) (n := 31) (Nat.le_of_ble_eq_true rfl) (Nat.le_of_ble_eq_true rfl) ?_
  refine k_putF (v := .ref q1) (ty := (.array .int)) (C := RX8) (T := TX8) (N := 13) hx hb hts inX8_init_X8 tyX8 tyX8_ok nmX8 hown hK hP hD hS 0 rfl rfl 1 (by decide) lkX8_init_19 rfl hin rfl (by decide +kernel) rfl rfl (Nat.le_of_ble_eq_true rfl) (ws' := [(h, .inr (2, [.ref q0, .ref q1, .null, .null, .null, .null, .null, .null, .null, .null, .int 0, .int 0, .int 0])), (q0, .inl (cy 0, 17, .inl (fun _ => 0))), (q1, .inl (cy 0, 14, .inl (fun _ => 0)))]) rfl dX8_init_17 (fun H locs hP hD hS => ?_)
  refine lv_aload_n hx hb dX8_init_20 rfl (lv_at hl 0 rfl) ?_
  refine lv_bipush (v := 12) hx hb dX8_init_21 rfl ?_
  refine k_newi (k := 12) hx hb (hts _ (List.mem_of_getElem? (i := 4) rfl)) hK hP hD hS hA (by decide) rfl (Nat.le_of_ble_eq_true rfl) (Nat.le_of_ble_eq_true rfl) (Nat.le_of_ble_eq_true rfl) dX8_init_23 (fun q2 H hP hD hS => ?_)
  replace hP : va_P D kCl [(h, .inr (2, [.ref q0, .ref q1, .null, .null, .null, .null, .null, .null, .null, .null, .int 0, .int 0, .int 0])), (q0, .inl (cy 0, 17, .inl (fun _ => 0))), (q1, .inl (cy 0, 14, .inl (fun _ => 0))), (q2, .inl (cy 0, 12, .inl (fun _ => 0)))] H := hP
  replace hD : va_D (va_A ([(h, .inr (2, [.null, .null, .null, .null, .null, .null, .null, .null, .null, .null, .int 0, .int 0, .int 0]))]) s.heap.size) [(h, .inr (2, [.ref q0, .ref q1, .null, .null, .null, .null, .null, .null, .null, .null, .int 0, .int 0, .int 0])), (q0, .inl (cy 0, 17, .inl (fun _ => 0))), (q1, .inl (cy 0, 14, .inl (fun _ => 0))), (q2, .inl (cy 0, 12, .inl (fun _ => 0)))] := hD
  refine W.widen (k := 3) (n := 43) (Nat.le_of_ble_eq_true rfl) (Nat.le_of_ble_eq_true rfl) ?_
  refine k_putF (v := .ref q2) (ty := (.array .int)) (C := RX8) (T := TX8) (N := 13) hx hb hts inX8_init_X8 tyX8 tyX8_ok nmX8 hown hK hP hD hS 0 rfl rfl 2 (by decide) lkX8_init_24 rfl hin rfl (by decide +kernel) rfl rfl (Nat.le_of_ble_eq_true rfl) (ws' := [(h, .inr (2, [.ref q0, .ref q1, .ref q2, .null, .null, .null, .null, .null, .null, .null, .int 0, .int 0, .int 0])), (q0, .inl (cy 0, 17, .inl (fun _ => 0))), (q1, .inl (cy 0, 14, .inl (fun _ => 0))), (q2, .inl (cy 0, 12, .inl (fun _ => 0)))]) rfl dX8_init_25 (fun H locs hP hD hS => ?_)
  refine lv_aload_n hx hb dX8_init_28 rfl (lv_at hl 0 rfl) ?_
  refine lv_sipush (v := 420) hx hb dX8_init_29 rfl ?_
  refine k_newi (k := 420) hx hb (hts _ (List.mem_of_getElem? (i := 4) rfl)) hK hP hD hS hA (by decide) rfl (Nat.le_of_ble_eq_true rfl) (Nat.le_of_ble_eq_true rfl) (Nat.le_of_ble_eq_true rfl) dX8_init_32 (fun q3 H hP hD hS => ?_)
  replace hP : va_P D kCl [(h, .inr (2, [.ref q0, .ref q1, .ref q2, .null, .null, .null, .null, .null, .null, .null, .int 0, .int 0, .int 0])), (q0, .inl (cy 0, 17, .inl (fun _ => 0))), (q1, .inl (cy 0, 14, .inl (fun _ => 0))), (q2, .inl (cy 0, 12, .inl (fun _ => 0))), (q3, .inl (cy 0, 420, .inl (fun _ => 0)))] H := hP
  replace hD : va_D (va_A ([(h, .inr (2, [.null, .null, .null, .null, .null, .null, .null, .null, .null, .null, .int 0, .int 0, .int 0]))]) s.heap.size) [(h, .inr (2, [.ref q0, .ref q1, .ref q2, .null, .null, .null, .null, .null, .null, .null, .int 0, .int 0, .int 0])), (q0, .inl (cy 0, 17, .inl (fun _ => 0))), (q1, .inl (cy 0, 14, .inl (fun _ => 0))), (q2, .inl (cy 0, 12, .inl (fun _ => 0))), (q3, .inl (cy 0, 420, .inl (fun _ => 0)))] := hD
  refine W.widen (k := 4) (n := 463) (Nat.le_of_ble_eq_true rfl) (Nat.le_of_ble_eq_true rfl) ?_
  refine k_putF (v := .ref q3) (ty := (.array .int)) (C := RX8) (T := TX8) (N := 13) hx hb hts inX8_init_X8 tyX8 tyX8_ok nmX8 hown hK hP hD hS 0 rfl rfl 3 (by decide) lkX8_init_29 rfl hin rfl (by decide +kernel) rfl rfl (Nat.le_of_ble_eq_true rfl) (ws' := [(h, .inr (2, [.ref q0, .ref q1, .ref q2, .ref q3, .null, .null, .null, .null, .null, .null, .int 0, .int 0, .int 0])), (q0, .inl (cy 0, 17, .inl (fun _ => 0))), (q1, .inl (cy 0, 14, .inl (fun _ => 0))), (q2, .inl (cy 0, 12, .inl (fun _ => 0))), (q3, .inl (cy 0, 420, .inl (fun _ => 0)))]) rfl dX8_init_34 (fun H locs hP hD hS => ?_)
  refine lv_aload_n hx hb dX8_init_37 rfl (lv_at hl 0 rfl) ?_
  refine lv_bipush (v := 20) hx hb dX8_init_38 rfl ?_
  refine k_newi (k := 20) hx hb (hts _ (List.mem_of_getElem? (i := 4) rfl)) hK hP hD hS hA (by decide) rfl (Nat.le_of_ble_eq_true rfl) (Nat.le_of_ble_eq_true rfl) (Nat.le_of_ble_eq_true rfl) dX8_init_40 (fun q4 H hP hD hS => ?_)
  replace hP : va_P D kCl [(h, .inr (2, [.ref q0, .ref q1, .ref q2, .ref q3, .null, .null, .null, .null, .null, .null, .int 0, .int 0, .int 0])), (q0, .inl (cy 0, 17, .inl (fun _ => 0))), (q1, .inl (cy 0, 14, .inl (fun _ => 0))), (q2, .inl (cy 0, 12, .inl (fun _ => 0))), (q3, .inl (cy 0, 420, .inl (fun _ => 0))), (q4, .inl (cy 0, 20, .inl (fun _ => 0)))] H := hP
  replace hD : va_D (va_A ([(h, .inr (2, [.null, .null, .null, .null, .null, .null, .null, .null, .null, .null, .int 0, .int 0, .int 0]))]) s.heap.size) [(h, .inr (2, [.ref q0, .ref q1, .ref q2, .ref q3, .null, .null, .null, .null, .null, .null, .int 0, .int 0, .int 0])), (q0, .inl (cy 0, 17, .inl (fun _ => 0))), (q1, .inl (cy 0, 14, .inl (fun _ => 0))), (q2, .inl (cy 0, 12, .inl (fun _ => 0))), (q3, .inl (cy 0, 420, .inl (fun _ => 0))), (q4, .inl (cy 0, 20, .inl (fun _ => 0)))] := hD
  refine W.widen (k := 5) (n := 483) (Nat.le_of_ble_eq_true rfl) (Nat.le_of_ble_eq_true rfl) ?_
  refine k_putF (v := .ref q4) (ty := (.array .int)) (C := RX8) (T := TX8) (N := 13) hx hb hts inX8_init_X8 tyX8 tyX8_ok nmX8 hown hK hP hD hS 0 rfl rfl 4 (by decide) lkX8_init_32 rfl hin rfl (by decide +kernel) rfl rfl (Nat.le_of_ble_eq_true rfl) (ws' := [(h, .inr (2, [.ref q0, .ref q1, .ref q2, .ref q3, .ref q4, .null, .null, .null, .null, .null, .int 0, .int 0, .int 0])), (q0, .inl (cy 0, 17, .inl (fun _ => 0))), (q1, .inl (cy 0, 14, .inl (fun _ => 0))), (q2, .inl (cy 0, 12, .inl (fun _ => 0))), (q3, .inl (cy 0, 420, .inl (fun _ => 0))), (q4, .inl (cy 0, 20, .inl (fun _ => 0)))]) rfl dX8_init_42 (fun H locs hP hD hS => ?_)
  refine lv_aload_n hx hb dX8_init_45 rfl (lv_at hl 0 rfl) ?_
  refine lv_bipush (v := 90) hx hb dX8_init_46 rfl ?_
  refine k_newi (k := 90) hx hb (hts _ (List.mem_of_getElem? (i := 4) rfl)) hK hP hD hS hA (by decide) rfl (Nat.le_of_ble_eq_true rfl) (Nat.le_of_ble_eq_true rfl) (Nat.le_of_ble_eq_true rfl) dX8_init_48 (fun q5 H hP hD hS => ?_)
  replace hP : va_P D kCl [(h, .inr (2, [.ref q0, .ref q1, .ref q2, .ref q3, .ref q4, .null, .null, .null, .null, .null, .int 0, .int 0, .int 0])), (q0, .inl (cy 0, 17, .inl (fun _ => 0))), (q1, .inl (cy 0, 14, .inl (fun _ => 0))), (q2, .inl (cy 0, 12, .inl (fun _ => 0))), (q3, .inl (cy 0, 420, .inl (fun _ => 0))), (q4, .inl (cy 0, 20, .inl (fun _ => 0))), (q5, .inl (cy 0, 90, .inl (fun _ => 0)))] H := hP
  replace hD : va_D (va_A ([(h, .inr (2, [.null, .null, .null, .null, .null, .null, .null, .null, .null, .null, .int 0, .int 0, .int 0]))]) s.heap.size) [(h, .inr (2, [.ref q0, .ref q1, .ref q2, .ref q3, .ref q4, .null, .null, .null, .null, .null, .int 0, .int 0, .int 0])), (q0, .inl (cy 0, 17, .inl (fun _ => 0))), (q1, .inl (cy 0, 14, .inl (fun _ => 0))), (q2, .inl (cy 0, 12, .inl (fun _ => 0))), (q3, .inl (cy 0, 420, .inl (fun _ => 0))), (q4, .inl (cy 0, 20, .inl (fun _ => 0))), (q5, .inl (cy 0, 90, .inl (fun _ => 0)))] := hD
  refine W.widen (k := 6) (n := 573) (Nat.le_of_ble_eq_true rfl) (Nat.le_of_ble_eq_true rfl) ?_
  refine k_putF (v := .ref q5) (ty := (.array .int)) (C := RX8) (T := TX8) (N := 13) hx hb hts inX8_init_X8 tyX8 tyX8_ok nmX8 hown hK hP hD hS 0 rfl rfl 5 (by decide) lkX8_init_35 rfl hin rfl (by decide +kernel) rfl rfl (Nat.le_of_ble_eq_true rfl) (ws' := [(h, .inr (2, [.ref q0, .ref q1, .ref q2, .ref q3, .ref q4, .ref q5, .null, .null, .null, .null, .int 0, .int 0, .int 0])), (q0, .inl (cy 0, 17, .inl (fun _ => 0))), (q1, .inl (cy 0, 14, .inl (fun _ => 0))), (q2, .inl (cy 0, 12, .inl (fun _ => 0))), (q3, .inl (cy 0, 420, .inl (fun _ => 0))), (q4, .inl (cy 0, 20, .inl (fun _ => 0))), (q5, .inl (cy 0, 90, .inl (fun _ => 0)))]) rfl dX8_init_50 (fun H locs hP hD hS => ?_)
  refine lv_aload_n hx hb dX8_init_53 rfl (lv_at hl 0 rfl) ?_
  refine lv_iconst (v := 3) hx hb dX8_init_54 rfl ?_
  refine k_newi (k := 3) hx hb (hts _ (List.mem_of_getElem? (i := 4) rfl)) hK hP hD hS hA (by decide) rfl (Nat.le_of_ble_eq_true rfl) (Nat.le_of_ble_eq_true rfl) (Nat.le_of_ble_eq_true rfl) dX8_init_55 (fun q6 H hP hD hS => ?_)
  replace hP : va_P D kCl [(h, .inr (2, [.ref q0, .ref q1, .ref q2, .ref q3, .ref q4, .ref q5, .null, .null, .null, .null, .int 0, .int 0, .int 0])), (q0, .inl (cy 0, 17, .inl (fun _ => 0))), (q1, .inl (cy 0, 14, .inl (fun _ => 0))), (q2, .inl (cy 0, 12, .inl (fun _ => 0))), (q3, .inl (cy 0, 420, .inl (fun _ => 0))), (q4, .inl (cy 0, 20, .inl (fun _ => 0))), (q5, .inl (cy 0, 90, .inl (fun _ => 0))), (q6, .inl (cy 0, 3, .inl (fun _ => 0)))] H := hP
  replace hD : va_D (va_A ([(h, .inr (2, [.null, .null, .null, .null, .null, .null, .null, .null, .null, .null, .int 0, .int 0, .int 0]))]) s.heap.size) [(h, .inr (2, [.ref q0, .ref q1, .ref q2, .ref q3, .ref q4, .ref q5, .null, .null, .null, .null, .int 0, .int 0, .int 0])), (q0, .inl (cy 0, 17, .inl (fun _ => 0))), (q1, .inl (cy 0, 14, .inl (fun _ => 0))), (q2, .inl (cy 0, 12, .inl (fun _ => 0))), (q3, .inl (cy 0, 420, .inl (fun _ => 0))), (q4, .inl (cy 0, 20, .inl (fun _ => 0))), (q5, .inl (cy 0, 90, .inl (fun _ => 0))), (q6, .inl (cy 0, 3, .inl (fun _ => 0)))] := hD
  refine W.widen (k := 7) (n := 576) (Nat.le_of_ble_eq_true rfl) (Nat.le_of_ble_eq_true rfl) ?_
  refine k_putF (v := .ref q6) (ty := (.array .int)) (C := RX8) (T := TX8) (N := 13) hx hb hts inX8_init_X8 tyX8 tyX8_ok nmX8 hown hK hP hD hS 0 rfl rfl 6 (by decide) lkX8_init_38 rfl hin rfl (by decide +kernel) rfl rfl (Nat.le_of_ble_eq_true rfl) (ws' := [(h, .inr (2, [.ref q0, .ref q1, .ref q2, .ref q3, .ref q4, .ref q5, .ref q6, .null, .null, .null, .int 0, .int 0, .int 0])), (q0, .inl (cy 0, 17, .inl (fun _ => 0))), (q1, .inl (cy 0, 14, .inl (fun _ => 0))), (q2, .inl (cy 0, 12, .inl (fun _ => 0))), (q3, .inl (cy 0, 420, .inl (fun _ => 0))), (q4, .inl (cy 0, 20, .inl (fun _ => 0))), (q5, .inl (cy 0, 90, .inl (fun _ => 0))), (q6, .inl (cy 0, 3, .inl (fun _ => 0)))]) rfl dX8_init_57 (fun H locs hP hD hS => ?_)
  refine lv_aload_n hx hb dX8_init_60 rfl (lv_at hl 0 rfl) ?_
  refine lv_iconst (v := 3) hx hb dX8_init_61 rfl ?_
  refine k_newi (k := 3) hx hb (hts _ (List.mem_of_getElem? (i := 4) rfl)) hK hP hD hS hA (by decide) rfl (Nat.le_of_ble_eq_true rfl) (Nat.le_of_ble_eq_true rfl) (Nat.le_of_ble_eq_true rfl) dX8_init_62 (fun q7 H hP hD hS => ?_)
  replace hP : va_P D kCl [(h, .inr (2, [.ref q0, .ref q1, .ref q2, .ref q3, .ref q4, .ref q5, .ref q6, .null, .null, .null, .int 0, .int 0, .int 0])), (q0, .inl (cy 0, 17, .inl (fun _ => 0))), (q1, .inl (cy 0, 14, .inl (fun _ => 0))), (q2, .inl (cy 0, 12, .inl (fun _ => 0))), (q3, .inl (cy 0, 420, .inl (fun _ => 0))), (q4, .inl (cy 0, 20, .inl (fun _ => 0))), (q5, .inl (cy 0, 90, .inl (fun _ => 0))), (q6, .inl (cy 0, 3, .inl (fun _ => 0))), (q7, .inl (cy 0, 3, .inl (fun _ => 0)))] H := hP
  replace hD : va_D (va_A ([(h, .inr (2, [.null, .null, .null, .null, .null, .null, .null, .null, .null, .null, .int 0, .int 0, .int 0]))]) s.heap.size) [(h, .inr (2, [.ref q0, .ref q1, .ref q2, .ref q3, .ref q4, .ref q5, .ref q6, .null, .null, .null, .int 0, .int 0, .int 0])), (q0, .inl (cy 0, 17, .inl (fun _ => 0))), (q1, .inl (cy 0, 14, .inl (fun _ => 0))), (q2, .inl (cy 0, 12, .inl (fun _ => 0))), (q3, .inl (cy 0, 420, .inl (fun _ => 0))), (q4, .inl (cy 0, 20, .inl (fun _ => 0))), (q5, .inl (cy 0, 90, .inl (fun _ => 0))), (q6, .inl (cy 0, 3, .inl (fun _ => 0))), (q7, .inl (cy 0, 3, .inl (fun _ => 0)))] := hD
  refine W.widen (k := 8) (n := 579) (Nat.le_of_ble_eq_true rfl) (Nat.le_of_ble_eq_true rfl) ?_
  refine k_putF (v := .ref q7) (ty := (.array .int)) (C := RX8) (T := TX8) (N := 13) hx hb hts inX8_init_X8 tyX8 tyX8_ok nmX8 hown hK hP hD hS 0 rfl rfl 7 (by decide) lkX8_init_41 rfl hin rfl (by decide +kernel) rfl rfl (Nat.le_of_ble_eq_true rfl) (ws' := [(h, .inr (2, [.ref q0, .ref q1, .ref q2, .ref q3, .ref q4, .ref q5, .ref q6, .ref q7, .null, .null, .int 0, .int 0, .int 0])), (q0, .inl (cy 0, 17, .inl (fun _ => 0))), (q1, .inl (cy 0, 14, .inl (fun _ => 0))), (q2, .inl (cy 0, 12, .inl (fun _ => 0))), (q3, .inl (cy 0, 420, .inl (fun _ => 0))), (q4, .inl (cy 0, 20, .inl (fun _ => 0))), (q5, .inl (cy 0, 90, .inl (fun _ => 0))), (q6, .inl (cy 0, 3, .inl (fun _ => 0))), (q7, .inl (cy 0, 3, .inl (fun _ => 0)))]) rfl dX8_init_64 (fun H locs hP hD hS => ?_)
  refine lv_aload_n hx hb dX8_init_67 rfl (lv_at hl 0 rfl) ?_
  refine lv_iconst (v := 3) hx hb dX8_init_68 rfl ?_
  refine k_newi (k := 3) hx hb (hts _ (List.mem_of_getElem? (i := 4) rfl)) hK hP hD hS hA (by decide) rfl (Nat.le_of_ble_eq_true rfl) (Nat.le_of_ble_eq_true rfl) (Nat.le_of_ble_eq_true rfl) dX8_init_69 (fun q8 H hP hD hS => ?_)
  replace hP : va_P D kCl [(h, .inr (2, [.ref q0, .ref q1, .ref q2, .ref q3, .ref q4, .ref q5, .ref q6, .ref q7, .null, .null, .int 0, .int 0, .int 0])), (q0, .inl (cy 0, 17, .inl (fun _ => 0))), (q1, .inl (cy 0, 14, .inl (fun _ => 0))), (q2, .inl (cy 0, 12, .inl (fun _ => 0))), (q3, .inl (cy 0, 420, .inl (fun _ => 0))), (q4, .inl (cy 0, 20, .inl (fun _ => 0))), (q5, .inl (cy 0, 90, .inl (fun _ => 0))), (q6, .inl (cy 0, 3, .inl (fun _ => 0))), (q7, .inl (cy 0, 3, .inl (fun _ => 0))), (q8, .inl (cy 0, 3, .inl (fun _ => 0)))] H := hP
  replace hD : va_D (va_A ([(h, .inr (2, [.null, .null, .null, .null, .null, .null, .null, .null, .null, .null, .int 0, .int 0, .int 0]))]) s.heap.size) [(h, .inr (2, [.ref q0, .ref q1, .ref q2, .ref q3, .ref q4, .ref q5, .ref q6, .ref q7, .null, .null, .int 0, .int 0, .int 0])), (q0, .inl (cy 0, 17, .inl (fun _ => 0))), (q1, .inl (cy 0, 14, .inl (fun _ => 0))), (q2, .inl (cy 0, 12, .inl (fun _ => 0))), (q3, .inl (cy 0, 420, .inl (fun _ => 0))), (q4, .inl (cy 0, 20, .inl (fun _ => 0))), (q5, .inl (cy 0, 90, .inl (fun _ => 0))), (q6, .inl (cy 0, 3, .inl (fun _ => 0))), (q7, .inl (cy 0, 3, .inl (fun _ => 0))), (q8, .inl (cy 0, 3, .inl (fun _ => 0)))] := hD
  refine W.widen (k := 9) (n := 582) (Nat.le_of_ble_eq_true rfl) (Nat.le_of_ble_eq_true rfl) ?_
  refine k_putF (v := .ref q8) (ty := (.array .int)) (C := RX8) (T := TX8) (N := 13) hx hb hts inX8_init_X8 tyX8 tyX8_ok nmX8 hown hK hP hD hS 0 rfl rfl 8 (by decide) lkX8_init_44 rfl hin rfl (by decide +kernel) rfl rfl (Nat.le_of_ble_eq_true rfl) (ws' := [(h, .inr (2, [.ref q0, .ref q1, .ref q2, .ref q3, .ref q4, .ref q5, .ref q6, .ref q7, .ref q8, .null, .int 0, .int 0, .int 0])), (q0, .inl (cy 0, 17, .inl (fun _ => 0))), (q1, .inl (cy 0, 14, .inl (fun _ => 0))), (q2, .inl (cy 0, 12, .inl (fun _ => 0))), (q3, .inl (cy 0, 420, .inl (fun _ => 0))), (q4, .inl (cy 0, 20, .inl (fun _ => 0))), (q5, .inl (cy 0, 90, .inl (fun _ => 0))), (q6, .inl (cy 0, 3, .inl (fun _ => 0))), (q7, .inl (cy 0, 3, .inl (fun _ => 0))), (q8, .inl (cy 0, 3, .inl (fun _ => 0)))]) rfl dX8_init_71 (fun H locs hP hD hS => ?_)
  refine lv_aload_n hx hb dX8_init_74 rfl (lv_at hl 0 rfl) ?_
  refine lv_bipush (v := 80) hx hb dX8_init_75 rfl ?_
  refine k_newi (k := 80) hx hb (hts _ (List.mem_of_getElem? (i := 4) rfl)) hK hP hD hS hA (by decide) rfl (Nat.le_of_ble_eq_true rfl) (Nat.le_of_ble_eq_true rfl) (Nat.le_of_ble_eq_true rfl) dX8_init_77 (fun q9 H hP hD hS => ?_)
  replace hP : va_P D kCl [(h, .inr (2, [.ref q0, .ref q1, .ref q2, .ref q3, .ref q4, .ref q5, .ref q6, .ref q7, .ref q8, .null, .int 0, .int 0, .int 0])), (q0, .inl (cy 0, 17, .inl (fun _ => 0))), (q1, .inl (cy 0, 14, .inl (fun _ => 0))), (q2, .inl (cy 0, 12, .inl (fun _ => 0))), (q3, .inl (cy 0, 420, .inl (fun _ => 0))), (q4, .inl (cy 0, 20, .inl (fun _ => 0))), (q5, .inl (cy 0, 90, .inl (fun _ => 0))), (q6, .inl (cy 0, 3, .inl (fun _ => 0))), (q7, .inl (cy 0, 3, .inl (fun _ => 0))), (q8, .inl (cy 0, 3, .inl (fun _ => 0))), (q9, .inl (cy 0, 80, .inl (fun _ => 0)))] H := hP
  replace hD : va_D (va_A ([(h, .inr (2, [.null, .null, .null, .null, .null, .null, .null, .null, .null, .null, .int 0, .int 0, .int 0]))]) s.heap.size) [(h, .inr (2, [.ref q0, .ref q1, .ref q2, .ref q3, .ref q4, .ref q5, .ref q6, .ref q7, .ref q8, .null, .int 0, .int 0, .int 0])), (q0, .inl (cy 0, 17, .inl (fun _ => 0))), (q1, .inl (cy 0, 14, .inl (fun _ => 0))), (q2, .inl (cy 0, 12, .inl (fun _ => 0))), (q3, .inl (cy 0, 420, .inl (fun _ => 0))), (q4, .inl (cy 0, 20, .inl (fun _ => 0))), (q5, .inl (cy 0, 90, .inl (fun _ => 0))), (q6, .inl (cy 0, 3, .inl (fun _ => 0))), (q7, .inl (cy 0, 3, .inl (fun _ => 0))), (q8, .inl (cy 0, 3, .inl (fun _ => 0))), (q9, .inl (cy 0, 80, .inl (fun _ => 0)))] := hD
  refine W.widen (k := 10) (n := 662) (Nat.le_of_ble_eq_true rfl) (Nat.le_of_ble_eq_true rfl) ?_
  refine k_putF (v := .ref q9) (ty := (.array .int)) (C := RX8) (T := TX8) (N := 13) hx hb hts inX8_init_X8 tyX8 tyX8_ok nmX8 hown hK hP hD hS 0 rfl rfl 9 (by decide) lkX8_init_49 rfl hin rfl (by decide +kernel) rfl rfl (Nat.le_of_ble_eq_true rfl) (ws' := [(h, .inr (2, [.ref q0, .ref q1, .ref q2, .ref q3, .ref q4, .ref q5, .ref q6, .ref q7, .ref q8, .ref q9, .int 0, .int 0, .int 0])), (q0, .inl (cy 0, 17, .inl (fun _ => 0))), (q1, .inl (cy 0, 14, .inl (fun _ => 0))), (q2, .inl (cy 0, 12, .inl (fun _ => 0))), (q3, .inl (cy 0, 420, .inl (fun _ => 0))), (q4, .inl (cy 0, 20, .inl (fun _ => 0))), (q5, .inl (cy 0, 90, .inl (fun _ => 0))), (q6, .inl (cy 0, 3, .inl (fun _ => 0))), (q7, .inl (cy 0, 3, .inl (fun _ => 0))), (q8, .inl (cy 0, 3, .inl (fun _ => 0))), (q9, .inl (cy 0, 80, .inl (fun _ => 0)))]) rfl dX8_init_79 (fun H locs hP hD hS => ?_)
  refine lv_aload_n hx hb dX8_init_82 rfl (lv_at hl 0 rfl) ?_
  refine lv_iconst (v := 0) hx hb dX8_init_83 rfl ?_
  refine k_put (v := .int 0) (ty := .int) (C := RX8) (T := TX8) (N := 13) hx hb hts inX8_init_X8 tyX8 tyX8_ok nmX8 hown hK hP hD hS 0 rfl rfl 10 (by decide) lkX8_init_52 rfl (by decide +kernel) rfl rfl (Nat.le_of_ble_eq_true rfl) (ws' := [(h, .inr (2, [.ref q0, .ref q1, .ref q2, .ref q3, .ref q4, .ref q5, .ref q6, .ref q7, .ref q8, .ref q9, .int 0, .int 0, .int 0])), (q0, .inl (cy 0, 17, .inl (fun _ => 0))), (q1, .inl (cy 0, 14, .inl (fun _ => 0))), (q2, .inl (cy 0, 12, .inl (fun _ => 0))), (q3, .inl (cy 0, 420, .inl (fun _ => 0))), (q4, .inl (cy 0, 20, .inl (fun _ => 0))), (q5, .inl (cy 0, 90, .inl (fun _ => 0))), (q6, .inl (cy 0, 3, .inl (fun _ => 0))), (q7, .inl (cy 0, 3, .inl (fun _ => 0))), (q8, .inl (cy 0, 3, .inl (fun _ => 0))), (q9, .inl (cy 0, 80, .inl (fun _ => 0)))]) rfl dX8_init_84 (fun H locs hP hD hS => ?_)
  refine lv_aload_n hx hb dX8_init_87 rfl (lv_at hl 0 rfl) ?_
  refine lv_iconst (v := 0) hx hb dX8_init_88 rfl ?_
  refine k_put (v := .int 0) (ty := .int) (C := RX8) (T := TX8) (N := 13) hx hb hts inX8_init_X8 tyX8 tyX8_ok nmX8 hown hK hP hD hS 0 rfl rfl 11 (by decide) lkX8_init_56 rfl (by decide +kernel) rfl rfl (Nat.le_of_ble_eq_true rfl) (ws' := [(h, .inr (2, [.ref q0, .ref q1, .ref q2, .ref q3, .ref q4, .ref q5, .ref q6, .ref q7, .ref q8, .ref q9, .int 0, .int 0, .int 0])), (q0, .inl (cy 0, 17, .inl (fun _ => 0))), (q1, .inl (cy 0, 14, .inl (fun _ => 0))), (q2, .inl (cy 0, 12, .inl (fun _ => 0))), (q3, .inl (cy 0, 420, .inl (fun _ => 0))), (q4, .inl (cy 0, 20, .inl (fun _ => 0))), (q5, .inl (cy 0, 90, .inl (fun _ => 0))), (q6, .inl (cy 0, 3, .inl (fun _ => 0))), (q7, .inl (cy 0, 3, .inl (fun _ => 0))), (q8, .inl (cy 0, 3, .inl (fun _ => 0))), (q9, .inl (cy 0, 80, .inl (fun _ => 0)))]) rfl dX8_init_89 (fun H locs hP hD hS => ?_)
  refine lv_aload_n hx hb dX8_init_92 rfl (lv_at hl 0 rfl) ?_
  refine lv_iconst (v := 0) hx hb dX8_init_93 rfl ?_
  refine k_put (v := .int 0) (ty := .int) (C := RX8) (T := TX8) (N := 13) hx hb hts inX8_init_X8 tyX8 tyX8_ok nmX8 hown hK hP hD hS 0 rfl rfl 12 (by decide) lkX8_init_59 rfl (by decide +kernel) rfl rfl (Nat.le_of_ble_eq_true rfl) (ws' := [(h, .inr (2, [.ref q0, .ref q1, .ref q2, .ref q3, .ref q4, .ref q5, .ref q6, .ref q7, .ref q8, .ref q9, .int 0, .int 0, .int 0])), (q0, .inl (cy 0, 17, .inl (fun _ => 0))), (q1, .inl (cy 0, 14, .inl (fun _ => 0))), (q2, .inl (cy 0, 12, .inl (fun _ => 0))), (q3, .inl (cy 0, 420, .inl (fun _ => 0))), (q4, .inl (cy 0, 20, .inl (fun _ => 0))), (q5, .inl (cy 0, 90, .inl (fun _ => 0))), (q6, .inl (cy 0, 3, .inl (fun _ => 0))), (q7, .inl (cy 0, 3, .inl (fun _ => 0))), (q8, .inl (cy 0, 3, .inl (fun _ => 0))), (q9, .inl (cy 0, 80, .inl (fun _ => 0)))]) rfl dX8_init_94 (fun H locs hP hD hS => ?_)
  refine W.widen (k := 10) (n := 662) (Nat.le_of_ble_eq_true rfl) (Nat.le_of_ble_eq_true rfl) ?_
  exact W.vret hx hb hr (fun t ht hW => ⟨⟨(fun k => [q0, q1, q2, q3, q4, q5, q6, q7, q8, q9].getD k 0), rfl, trivial, by rw [ht]; exact hP, hD⟩, hS.F ht⟩) hS.2.2 dX8_init_97 hlocks
theorem inX6_init_X6 : ∀ w ∈ u_ws RX6 TX6 11, w ∈ wsX6_init := k_lays 16 rfl
theorem lkX6_init_9 : Cond.fieldLink RX6 9 "FerryRamp$Parser" "bytes" "[I" ∈ wsX6_init := List.mem_of_getElem? (i := 5) rfl
theorem lkX6_init_15 : Cond.fieldLink RX6 15 "FerryRamp$Parser" "length" "I" ∈ wsX6_init := List.mem_of_getElem? (i := 6) rfl
theorem lkX6_init_19 : Cond.fieldLink RX6 19 "FerryRamp$Parser" "errorCode" "I" ∈ wsX6_init := List.mem_of_getElem? (i := 7) rfl
theorem lkX6_init_22 : Cond.fieldLink RX6 22 "FerryRamp$Parser" "errorPosition" "I" ∈ wsX6_init := List.mem_of_getElem? (i := 8) rfl
theorem lkX6_init_27 : Cond.fieldLink RX6 27 "FerryRamp$Parser" "commands" "[I" ∈ wsX6_init := List.mem_of_getElem? (i := 9) rfl
theorem lkX6_init_30 : Cond.fieldLink RX6 30 "FerryRamp$Parser" "commandCount" "I" ∈ wsX6_init := List.mem_of_getElem? (i := 10) rfl
theorem lkX6_init_33 : Cond.fieldLink RX6 33 "FerryRamp$Parser" "type" "I" ∈ wsX6_init := List.mem_of_getElem? (i := 11) rfl
theorem lkX6_init_36 : Cond.fieldLink RX6 36 "FerryRamp$Parser" "start" "I" ∈ wsX6_init := List.mem_of_getElem? (i := 12) rfl
theorem lkX6_init_39 : Cond.fieldLink RX6 39 "FerryRamp$Parser" "end" "I" ∈ wsX6_init := List.mem_of_getElem? (i := 13) rfl
theorem lkX6_init_42 : Cond.fieldLink RX6 42 "FerryRamp$Parser" "statementsTold" "I" ∈ wsX6_init := List.mem_of_getElem? (i := 14) rfl
theorem lkX6_init_45 : Cond.fieldLink RX6 45 "FerryRamp$Parser" "kindsTold" "I" ∈ wsX6_init := List.mem_of_getElem? (i := 15) rfl
abbrev rmX6_init : Room := { frames := 1, cells := 2, slots := 660, locals := 20 }
set_option maxHeartbeats 4000000 in
set_option maxRecDepth 100000 in
theorem cX6_initM (l : Launch) (D : va_G) (cy : Nat → ClassId) (h sz : Nat) : Met l yX6_init wsX6_init rmX6_init (va_Pc [.ref h] (kPre D cy sz [(h, .inr (1, [.null, .int 0, .int 0, .int 0, .null, .int 0, .int 0, .int 0, .int 0, .int 0, .int 0]))])) (va_Qv (fun a : Nat → Nat => a 0 = h) (fun a t => kPost D (va_A ([(h, .inr (1, [.null, .int 0, .int 0, .int 0, .null, .int 0, .int 0, .int 0, .int 0, .int 0, .int 0]))]) sz) (wP cy a PS0) t) (va_A ([(h, .inr (1, [.null, .int 0, .int 0, .int 0, .null, .int 0, .int 0, .int 0, .int 0, .int 0, .int 0]))]) sz)) 2 660 (va_A ([(h, .inr (1, [.null, .int 0, .int 0, .int 0, .null, .int 0, .int 0, .int 0, .int 0, .int 0, .int 0]))]) sz) := by
  refine Met.ofW (cc := cX6_init) (maxL := 1) (ret := none) (by decide) rfl ?_
  intro p e s m args below meth c s₁ B hml hv
  obtain ⟨rfl, hsz, hP, hK, hD0⟩ := hv
  subst hsz
  have hx := B.exec
  have hb := B.bytes
  have hr := B.returns
  have hts := atoms_spec (ws := wsX6_init) B.pre
  have hown : s.vm.findClass RX6 = some m.cls := findClass_of_methodNamed B.named
  have hin : meth.name = "<init>" := (name_of_methodNamed B.named B.method).1
  have hlocks := B.notSynchronized
  have hA : ∀ q, s.heap.size ≤ q → va_A ([(h, .inr (1, [.null, .int 0, .int 0, .int 0, .null, .int 0, .int 0, .int 0, .int 0, .int 0, .int 0]))]) s.heap.size q := fun q h => Or.inr h
  have hS : va_S (va_A ([(h, .inr (1, [.null, .int 0, .int 0, .int 0, .null, .int 0, .int 0, .int 0, .int 0, .int 0, .int 0]))]) s.heap.size) s.heap s.heap [] := va_S.rf
  have hD : va_D (va_A ([(h, .inr (1, [.null, .int 0, .int 0, .int 0, .null, .int 0, .int 0, .int 0, .int 0, .int 0, .int 0]))]) s.heap.size) ([(h, .inr (1, [.null, .int 0, .int 0, .int 0, .null, .int 0, .int 0, .int 0, .int 0, .int 0, .int 0]))]) := hD0.self
  have hl := lv_entry ([.ref h]) (n := 1) (Nat.le_of_ble_eq_true rfl)
  rw [lg_entry_eq]
  generalize (lg_sl ([.ref h]) ++ List.replicate (1 - (lg_sl ([.ref h])).length) Slot.unset).toArray = ls at hl ⊢
  have hl : lv_has ls 1 [(0, .ref h)] := hl
  refine lv_aload_n hx hb dX6_init_0 rfl (lv_at hl 0 rfl) ?_
  refine W.objInit hx hb hown (hts _ (List.mem_of_getElem? (i := 1) rfl)) (hts _ (List.mem_of_getElem? (i := 2) rfl)) (hts _ (List.mem_of_getElem? (i := 3) rfl)) rfl (by rw [hml]; exact hl.1) rfl dX6_init_1 (Nat.le_of_ble_eq_true rfl) (Nat.le_of_ble_eq_true rfl) ?_
  refine W.eq (g2 := F0 m 4 ls []) rfl ?_
  refine lv_aload_n hx hb dX6_init_4 rfl (lv_at hl 0 rfl) ?_
  refine lv_sipush (v := 500) hx hb dX6_init_5 rfl ?_
  refine k_newi (k := 500) hx hb (hts _ (List.mem_of_getElem? (i := 4) rfl)) hK hP hD hS hA (by decide) rfl (Nat.le_of_ble_eq_true rfl) (Nat.le_of_ble_eq_true rfl) (Nat.le_of_ble_eq_true rfl) dX6_init_8 (fun q0 H hP hD hS => ?_)
  replace hP : va_P D kCl [(h, .inr (1, [.null, .int 0, .int 0, .int 0, .null, .int 0, .int 0, .int 0, .int 0, .int 0, .int 0])), (q0, .inl (cy 0, 500, .inl (fun _ => 0)))] H := hP
  replace hD : va_D (va_A ([(h, .inr (1, [.null, .int 0, .int 0, .int 0, .null, .int 0, .int 0, .int 0, .int 0, .int 0, .int 0]))]) s.heap.size) [(h, .inr (1, [.null, .int 0, .int 0, .int 0, .null, .int 0, .int 0, .int 0, .int 0, .int 0, .int 0])), (q0, .inl (cy 0, 500, .inl (fun _ => 0)))] := hD
  refine W.widen (k := 1) (n := 500) (Nat.le_of_ble_eq_true rfl) (Nat.le_of_ble_eq_true rfl) ?_
  refine k_putF (v := .ref q0) (ty := (.array .int)) (C := RX6) (T := TX6) (N := 11) hx hb hts inX6_init_X6 tyX6 tyX6_ok nmX6 hown hK hP hD hS 0 rfl rfl 0 (by decide) lkX6_init_9 rfl hin rfl (by decide +kernel) rfl rfl (Nat.le_of_ble_eq_true rfl) (ws' := [(h, .inr (1, [.ref q0, .int 0, .int 0, .int 0, .null, .int 0, .int 0, .int 0, .int 0, .int 0, .int 0])), (q0, .inl (cy 0, 500, .inl (fun _ => 0)))]) rfl dX6_init_10 (fun H locs hP hD hS => ?_)
  refine lv_aload_n hx hb dX6_init_13 rfl (lv_at hl 0 rfl) ?_
  refine lv_iconst (v := 0) hx hb dX6_init_14 rfl ?_
  refine k_put (v := .int 0) (ty := .int) (C := RX6) (T := TX6) (N := 11) hx hb hts inX6_init_X6 tyX6 tyX6_ok nmX6 hown hK hP hD hS 0 rfl rfl 1 (by decide) lkX6_init_15 rfl (by decide +kernel) rfl rfl (Nat.le_of_ble_eq_true rfl) (ws' := [(h, .inr (1, [.ref q0, .int 0, .int 0, .int 0, .null, .int 0, .int 0, .int 0, .int 0, .int 0, .int 0])), (q0, .inl (cy 0, 500, .inl (fun _ => 0)))]) rfl dX6_init_15 (fun H locs hP hD hS => ?_)
  refine lv_aload_n hx hb dX6_init_18 rfl (lv_at hl 0 rfl) ?_
  refine lv_iconst (v := 0) hx hb dX6_init_19 rfl ?_
  refine k_put (v := .int 0) (ty := .int) (C := RX6) (T := TX6) (N := 11) hx hb hts inX6_init_X6 tyX6 tyX6_ok nmX6 hown hK hP hD hS 0 rfl rfl 2 (by decide) lkX6_init_19 rfl (by decide +kernel) rfl rfl (Nat.le_of_ble_eq_true rfl) (ws' := [(h, .inr (1, [.ref q0, .int 0, .int 0, .int 0, .null, .int 0, .int 0, .int 0, .int 0, .int 0, .int 0])), (q0, .inl (cy 0, 500, .inl (fun _ => 0)))]) rfl dX6_init_20 (fun H locs hP hD hS => ?_)
  refine lv_aload_n hx hb dX6_init_23 rfl (lv_at hl 0 rfl) ?_
  refine lv_iconst (v := (-1)) hx hb dX6_init_24 rfl ?_
  refine k_put (v := .int (-1)) (ty := .int) (C := RX6) (T := TX6) (N := 11) hx hb hts inX6_init_X6 tyX6 tyX6_ok nmX6 hown hK hP hD hS 0 rfl rfl 3 (by decide) lkX6_init_22 rfl (by decide +kernel) rfl rfl (Nat.le_of_ble_eq_true rfl) (ws' := [(h, .inr (1, [.ref q0, .int 0, .int 0, .int (-1), .null, .int 0, .int 0, .int 0, .int 0, .int 0, .int 0])), (q0, .inl (cy 0, 500, .inl (fun _ => 0)))]) rfl dX6_init_25 (fun H locs hP hD hS => ?_)
  refine lv_aload_n hx hb dX6_init_28 rfl (lv_at hl 0 rfl) ?_
  refine lv_sipush (v := 160) hx hb dX6_init_29 rfl ?_
  refine k_newi (k := 160) hx hb (hts _ (List.mem_of_getElem? (i := 4) rfl)) hK hP hD hS hA (by decide) rfl (Nat.le_of_ble_eq_true rfl) (Nat.le_of_ble_eq_true rfl) (Nat.le_of_ble_eq_true rfl) dX6_init_32 (fun q1 H hP hD hS => ?_)
  replace hP : va_P D kCl [(h, .inr (1, [.ref q0, .int 0, .int 0, .int (-1), .null, .int 0, .int 0, .int 0, .int 0, .int 0, .int 0])), (q0, .inl (cy 0, 500, .inl (fun _ => 0))), (q1, .inl (cy 0, 160, .inl (fun _ => 0)))] H := hP
  replace hD : va_D (va_A ([(h, .inr (1, [.null, .int 0, .int 0, .int 0, .null, .int 0, .int 0, .int 0, .int 0, .int 0, .int 0]))]) s.heap.size) [(h, .inr (1, [.ref q0, .int 0, .int 0, .int (-1), .null, .int 0, .int 0, .int 0, .int 0, .int 0, .int 0])), (q0, .inl (cy 0, 500, .inl (fun _ => 0))), (q1, .inl (cy 0, 160, .inl (fun _ => 0)))] := hD
  refine W.widen (k := 2) (n := 660) (Nat.le_of_ble_eq_true rfl) (Nat.le_of_ble_eq_true rfl) ?_
  refine k_putF (v := .ref q1) (ty := (.array .int)) (C := RX6) (T := TX6) (N := 11) hx hb hts inX6_init_X6 tyX6 tyX6_ok nmX6 hown hK hP hD hS 0 rfl rfl 4 (by decide) lkX6_init_27 rfl hin rfl (by decide +kernel) rfl rfl (Nat.le_of_ble_eq_true rfl) (ws' := [(h, .inr (1, [.ref q0, .int 0, .int 0, .int (-1), .ref q1, .int 0, .int 0, .int 0, .int 0, .int 0, .int 0])), (q0, .inl (cy 0, 500, .inl (fun _ => 0))), (q1, .inl (cy 0, 160, .inl (fun _ => 0)))]) rfl dX6_init_34 (fun H locs hP hD hS => ?_)
  refine lv_aload_n hx hb dX6_init_37 rfl (lv_at hl 0 rfl) ?_
  refine lv_iconst (v := 0) hx hb dX6_init_38 rfl ?_
  refine k_put (v := .int 0) (ty := .int) (C := RX6) (T := TX6) (N := 11) hx hb hts inX6_init_X6 tyX6 tyX6_ok nmX6 hown hK hP hD hS 0 rfl rfl 5 (by decide) lkX6_init_30 rfl (by decide +kernel) rfl rfl (Nat.le_of_ble_eq_true rfl) (ws' := [(h, .inr (1, [.ref q0, .int 0, .int 0, .int (-1), .ref q1, .int 0, .int 0, .int 0, .int 0, .int 0, .int 0])), (q0, .inl (cy 0, 500, .inl (fun _ => 0))), (q1, .inl (cy 0, 160, .inl (fun _ => 0)))]) rfl dX6_init_39 (fun H locs hP hD hS => ?_)
  refine lv_aload_n hx hb dX6_init_42 rfl (lv_at hl 0 rfl) ?_
  refine lv_iconst (v := 0) hx hb dX6_init_43 rfl ?_
  refine k_put (v := .int 0) (ty := .int) (C := RX6) (T := TX6) (N := 11) hx hb hts inX6_init_X6 tyX6 tyX6_ok nmX6 hown hK hP hD hS 0 rfl rfl 6 (by decide) lkX6_init_33 rfl (by decide +kernel) rfl rfl (Nat.le_of_ble_eq_true rfl) (ws' := [(h, .inr (1, [.ref q0, .int 0, .int 0, .int (-1), .ref q1, .int 0, .int 0, .int 0, .int 0, .int 0, .int 0])), (q0, .inl (cy 0, 500, .inl (fun _ => 0))), (q1, .inl (cy 0, 160, .inl (fun _ => 0)))]) rfl dX6_init_44 (fun H locs hP hD hS => ?_)
  refine lv_aload_n hx hb dX6_init_47 rfl (lv_at hl 0 rfl) ?_
  refine lv_iconst (v := 0) hx hb dX6_init_48 rfl ?_
  refine k_put (v := .int 0) (ty := .int) (C := RX6) (T := TX6) (N := 11) hx hb hts inX6_init_X6 tyX6 tyX6_ok nmX6 hown hK hP hD hS 0 rfl rfl 7 (by decide) lkX6_init_36 rfl (by decide +kernel) rfl rfl (Nat.le_of_ble_eq_true rfl) (ws' := [(h, .inr (1, [.ref q0, .int 0, .int 0, .int (-1), .ref q1, .int 0, .int 0, .int 0, .int 0, .int 0, .int 0])), (q0, .inl (cy 0, 500, .inl (fun _ => 0))), (q1, .inl (cy 0, 160, .inl (fun _ => 0)))]) rfl dX6_init_49 (fun H locs hP hD hS => ?_)
  refine lv_aload_n hx hb dX6_init_52 rfl (lv_at hl 0 rfl) ?_
  refine lv_iconst (v := 0) hx hb dX6_init_53 rfl ?_
  refine k_put (v := .int 0) (ty := .int) (C := RX6) (T := TX6) (N := 11) hx hb hts inX6_init_X6 tyX6 tyX6_ok nmX6 hown hK hP hD hS 0 rfl rfl 8 (by decide) lkX6_init_39 rfl (by decide +kernel) rfl rfl (Nat.le_of_ble_eq_true rfl) (ws' := [(h, .inr (1, [.ref q0, .int 0, .int 0, .int (-1), .ref q1, .int 0, .int 0, .int 0, .int 0, .int 0, .int 0])), (q0, .inl (cy 0, 500, .inl (fun _ => 0))), (q1, .inl (cy 0, 160, .inl (fun _ => 0)))]) rfl dX6_init_54 (fun H locs hP hD hS => ?_)
  refine lv_aload_n hx hb dX6_init_57 rfl (lv_at hl 0 rfl) ?_
  refine lv_iconst (v := 0) hx hb dX6_init_58 rfl ?_
  refine k_put (v := .int 0) (ty := .int) (C := RX6) (T := TX6) (N := 11) hx hb hts inX6_init_X6 tyX6 tyX6_ok nmX6 hown hK hP hD hS 0 rfl rfl 9 (by decide) lkX6_init_42 rfl (by decide +kernel) rfl rfl (Nat.le_of_ble_eq_true rfl) (ws' := [(h, .inr (1, [.ref q0, .int 0, .int 0, .int (-1), .ref q1, .int 0, .int 0, .int 0, .int 0, .int 0, .int 0])), (q0, .inl (cy 0, 500, .inl (fun _ => 0))), (q1, .inl (cy 0, 160, .inl (fun _ => 0)))]) rfl dX6_init_59 (fun H locs hP hD hS => ?_)
  refine lv_aload_n hx hb dX6_init_62 rfl (lv_at hl 0 rfl) ?_
  refine lv_iconst (v := 0) hx hb dX6_init_63 rfl ?_
  refine k_put (v := .int 0) (ty := .int) (C := RX6) (T := TX6) (N := 11) hx hb hts inX6_init_X6 tyX6 tyX6_ok nmX6 hown hK hP hD hS 0 rfl rfl 10 (by decide) lkX6_init_45 rfl (by decide +kernel) rfl rfl (Nat.le_of_ble_eq_true rfl) (ws' := [(h, .inr (1, [.ref q0, .int 0, .int 0, .int (-1), .ref q1, .int 0, .int 0, .int 0, .int 0, .int 0, .int 0])), (q0, .inl (cy 0, 500, .inl (fun _ => 0))), (q1, .inl (cy 0, 160, .inl (fun _ => 0)))]) rfl dX6_init_64 (fun H locs hP hD hS => ?_)
  refine W.widen (k := 2) (n := 660) (Nat.le_of_ble_eq_true rfl) (Nat.le_of_ble_eq_true rfl) ?_
  exact W.vret hx hb hr (fun t ht hW => ⟨⟨(fun k => [h, q0, q1].getD k 0), rfl, rfl, by rw [ht]; exact hP, hD⟩, hS.F ht⟩) hS.2.2 dX6_init_67 hlocks
