/-! String constants: their table, what the heap holds of them; length and charAt over them; calls of methods that use them -/
/-- class, place in its pool, text -/
def zT : List (String × Nat × String) := [("FerryRamp", 63, "the text would be too long"), ("FerryRamp", 74, "length"), ("FerryRamp", 112, "what"), ("FerryRamp", 121, "kind"), ("FerryRamp", 130, "car"), ("FerryRamp", 144, "lane"), ("FerryRamp", 155, "call"), ("FerryRamp", 162, "time"), ("FerryRamp", 191, "ticks"), ("FerryRamp", 196, "many"), ("FerryRamp", 200, "weight"), ("FerryRamp", 217, "by"), ("FerryRamp", 252, "slot"), ("FerryRamp", 254, "nothing is saved there"), ("FerryRamp$Parser", 90, "tide"), ("FerryRamp$Parser", 96, "quay"), ("FerryRamp$Parser", 98, "deck"), ("FerryRamp$Parser", 100, "lanes"), ("FerryRamp$Parser", 102, "winch"), ("FerryRamp$Parser", 104, "cross"), ("FerryRamp$Parser", 106, "kind"), ("FerryRamp$Parser", 108, "car"), ("FerryRamp$Parser", 119, "half"), ("FerryRamp$Parser", 128, "sink"), ("FerryRamp$Parser", 130, "load"), ("FerryRamp$Parser", 132, "list"), ("FerryRamp$Parser", 134, "patience"), ("FerryRampLaw", 145, "tide "), ("FerryRampLaw", 157, " half "), ("FerryRampLaw", 159, ";deck "), ("FerryRampLaw", 161, " sink "), ("FerryRampLaw", 163, ";lanes "), ("FerryRampLaw", 165, " load "), ("FerryRampLaw", 167, " list "), ("FerryRampLaw", 169, ";winch "), ("FerryRampLaw", 171, ";cross "), ("FerryRampLaw", 173, " patience "), ("FerryRampLaw", 175, "kind "), ("FerryRampLaw", 177, "car ")]
/-- the bytes -/
def zBt : List (List Int32) := [[116, 104, 101, 32, 116, 101, 120, 116, 32, 119, 111, 117, 108, 100, 32, 98, 101, 32, 116, 111, 111, 32, 108, 111, 110, 103], [108, 101, 110, 103, 116, 104], [119, 104, 97, 116], [107, 105, 110, 100], [99, 97, 114], [108, 97, 110, 101], [99, 97, 108, 108], [116, 105, 109, 101], [116, 105, 99, 107, 115], [109, 97, 110, 121], [119, 101, 105, 103, 104, 116], [98, 121], [115, 108, 111, 116], [110, 111, 116, 104, 105, 110, 103, 32, 105, 115, 32, 115, 97, 118, 101, 100, 32, 116, 104, 101, 114, 101], [116, 105, 100, 101], [113, 117, 97, 121], [100, 101, 99, 107], [108, 97, 110, 101, 115], [119, 105, 110, 99, 104], [99, 114, 111, 115, 115], [107, 105, 110, 100], [99, 97, 114], [104, 97, 108, 102], [115, 105, 110, 107], [108, 111, 97, 100], [108, 105, 115, 116], [112, 97, 116, 105, 101, 110, 99, 101], [116, 105, 100, 101, 32], [32, 104, 97, 108, 102, 32], [59, 100, 101, 99, 107, 32], [32, 115, 105, 110, 107, 32], [59, 108, 97, 110, 101, 115, 32], [32, 108, 111, 97, 100, 32], [32, 108, 105, 115, 116, 32], [59, 119, 105, 110, 99, 104, 32], [59, 99, 114, 111, 115, 115, 32], [32, 112, 97, 116, 105, 101, 110, 99, 101, 32], [107, 105, 110, 100, 32], [99, 97, 114, 32]]
def zN : Nat := 39
def zO (i : Nat) : String := (zT.getD i ("", 0, "")).1
def zK (i : Nat) : Nat := (zT.getD i ("", 0, "")).2.1
def zX (i : Nat) : String := (zT.getD i ("", 0, "")).2.2
def zB (i : Nat) : List Int32 := zBt.getD i []
theorem zB_ok : ∀ i, i < 39 → (zB i).length < 100 ∧ ∀ b ∈ zB i, ((b &&& 255).toUInt32 % 65536).toInt32 = b ∧ narrow .char (.int b) = .int b := by decide +kernel
/-- a literal in the heap, outside A -/
def kStr (bs : List Int32) (w v : Nat) (A : Nat → Prop) (U : State) (H : Heap) : Prop := va_O "java/lang/String" w A U H ∧ va_OF "java/lang/String" "coder" "B" (.int 0) w A U H ∧ va_OF "java/lang/String" "value" "[B" (.ref v) w A U H ∧ va_T .byte v bs.length (fun j => .int (bs.getD j 0)) A U H
theorem kStr.moved {bs : List Int32} {w v : Nat} {A : Nat → Prop} {u U : State} {H : Heap} (hvm : u.vm.Alike U.vm) (h : kStr bs w v A u H) : kStr bs w v A U H := ⟨va_O.moved hvm h.1, va_OF.moved hvm h.2.1, va_OF.moved hvm h.2.2.1, va_T.moved hvm h.2.2.2⟩
theorem kStr.kept {bs : List Int32} {w v : Nat} {A : Nat → Prop} {U : State} {H H1 : Heap} (h : kStr bs w v A U H) (hq : ∀ a : Nat, a < H.size → ¬ A a → H1[a]? = H[a]?) : kStr bs w v A U H1 := ⟨h.1.kept hq, h.2.1.kept hq, h.2.2.1.kept hq, h.2.2.2.kept hq⟩
theorem kStr.narrow {bs : List Int32} {w v : Nat} {A B : Nat → Prop} {U : State} {H : Heap} (h : kStr bs w v A U H) (hAB : ∀ q, B q → A q) : kStr bs w v B U H := ⟨h.1.narrow hAB, h.2.1.narrow hAB, h.2.2.1.narrow hAB, h.2.2.2.narrow hAB⟩
/-- the exceptions that the class throws -/
def xEx : List String := ["java/lang/IllegalArgumentException", "java/lang/IllegalStateException", "java/lang/IndexOutOfBoundsException"]
def xDe : List MethodName := [⟨"java/lang/RuntimeException", "<init>", "(Ljava/lang/String;)V"⟩, ⟨"java/lang/Exception", "<init>", "(Ljava/lang/String;)V"⟩, ⟨"java/lang/Throwable", "<init>", "(Ljava/lang/String;)V"⟩]
def xCast (E : String) : List Cond := .castable E E :: xDe.map .declares
/-- what lies in the heap from the start on: String's own statics, the throwables' statics, the literals -/
def mZ (za zv : Nat → Nat) (A : Nat → Prop) (U : State) (H : Heap) : Prop := va_Z "java/lang/String" "COMPACT_STRINGS" "Z" (.int 1) A U H ∧ va_Zq "jdk/internal/util/Preconditions" "SIOOBE_FORMATTER" "Ljava/util/function/BiFunction;" A U H ∧
  vx_Zq Bundle.tN "UNASSIGNED_STACK" Bundle.steD A U H ∧ vx_Zq Bundle.tN "SUPPRESSED_SENTINEL" Bundle.listD A U H ∧ (∀ i, i < 39 → vk_R (zO i) (zK i) (zX i) (za i) U ∧ kStr (zB i) (za i) (zv i) A U H) ∧ (∀ E ∈ xEx, va_Nw (.castable E E) U) ∧ ∀ y ∈ xDe, va_Nw (.declares y) U
theorem mZ.kept {za zv : Nat → Nat} {A : Nat → Prop} {U : State} {H H1 : Heap} (h : mZ za zv A U H) (hq : ∀ a : Nat, a < H.size → ¬ A a → H1[a]? = H[a]?) : mZ za zv A U H1 := ⟨va_Z.kept h.1 hq, va_Zq.kept h.2.1 hq, vx_Zq.kept h.2.2.1 hq, vx_Zq.kept h.2.2.2.1 hq, fun i hi => ⟨(h.2.2.2.2.1 i hi).1, (h.2.2.2.2.1 i hi).2.kept hq⟩, h.2.2.2.2.2⟩
theorem mZ.narrow {za zv : Nat → Nat} {A B : Nat → Prop} {U : State} {H : Heap} (h : mZ za zv A U H) (hAB : ∀ q, B q → A q) : mZ za zv B U H := ⟨va_Z.narrow h.1 hAB, va_Zq.narrow h.2.1 hAB, vx_Zq.narrow h.2.2.1 hAB, vx_Zq.narrow h.2.2.2.1 hAB, fun i hi => ⟨(h.2.2.2.2.1 i hi).1, (h.2.2.2.2.1 i hi).2.narrow hAB⟩, h.2.2.2.2.2⟩
theorem mZ.warm {za zv : Nat → Nat} {A : Nat → Prop} {s U : State} {H : Heap} (hW : s.WarmedH U.vm) (h : mZ za zv A s H) : mZ za zv A U H := ⟨va_Z.moved hW.alike h.1, va_Zq.moved hW.alike h.2.1, vx_Zq.moved hW.alike h.2.2.1, vx_Zq.moved hW.alike h.2.2.2.1, fun i hi => ⟨vk_R.warm hW (h.2.2.2.2.1 i hi).1, (h.2.2.2.2.1 i hi).2.moved hW.alike⟩, fun E hE => va_Nw.warmC hW (h.2.2.2.2.2.1 E hE), fun y hy => va_Nw.warmD hW (h.2.2.2.2.2.2 y hy)⟩
theorem mZ.calling {za zv : Nat → Nat} {A : Nat → Prop} {U : State} {g : JFrame} {mk : MethodId} {a : Array Value} (h : mZ za zv A U U.heap) : mZ za zv A (U.calling g mk a) (U.calling g mk a).heap := ⟨va_Z.moved (Vm.Alike.refl U.vm) h.1, va_Zq.moved (Vm.Alike.refl U.vm) h.2.1, vx_Zq.moved (Vm.Alike.refl U.vm) h.2.2.1, vx_Zq.moved (Vm.Alike.refl U.vm) h.2.2.2.1, fun i hi => ⟨vk_R.same rfl (h.2.2.2.2.1 i hi).1, (h.2.2.2.2.1 i hi).2.moved (Vm.Alike.refl U.vm)⟩, fun E hE => va_Nw.same rfl rfl (h.2.2.2.2.2.1 E hE), fun y hy => va_Nw.same rfl rfl (h.2.2.2.2.2.2 y hy)⟩
theorem mZ.cast {za zv : Nat → Nat} {A : Nat → Prop} {s : State} {H : Heap} {args : Array Value} {E : String} (h : mZ za zv A s H) (hE : E ∈ xEx) : ∀ w ∈ xCast E, w.before args s = true := fun w hw => by
  rcases List.mem_cons.mp hw with e | e
  · rw [e]
    exact va_Nw.use rfl (h.2.2.2.2.2.1 E hE)
  · obtain ⟨y, hy, e⟩ := List.mem_map.mp e
    rw [← e]
    exact va_Nw.use rfl (h.2.2.2.2.2.2 y hy)
theorem mZ.at {za zv : Nat → Nat} {A B : Nat → Prop} {s U : State} {H : Heap} {locs : List Loc} (h : mZ za zv A s s.heap) (hS : va_S A s.heap H locs) (hAB : ∀ q, B q → A q) (hU : U.heap = H) (hW : s.WarmedH U.vm) : mZ za zv B U U.heap := by
  rw [hU]
  exact ((h.kept hS.2.1).narrow hAB).warm hW
def kPreZ (D : va_G) (cy : Nat → ClassId) (za zv : Nat → Nat) (sz : Nat) (ws : va_W) (U : State) : Prop := kPre D cy sz ws U ∧ mZ za zv (va_A ws sz) U U.heap
section KZ
variable {p : Program} {l : Launch} {e : Env} {R : Room} {s : State} {m : MethodId} {args : Array Value} {below : List Frame} {meth : Method} {c : Code} {H H0 : Heap} {locs : List Loc} {cells slots : Nat} {Q : State → Prop}
variable {Ts wy : List Cond} {cc bytes : ByteArray} {nL maxL index n q0 ci N mc ms pc : Nat} {own C host : String} {T : u_T} {y : MethodName} {ret : Option FieldType} {rm : Room} {b : Addr} {As rest st : List Value} {fs : List Value} {ls : Array Slot}
variable {D : va_G} {cy : Nat → ClassId} {ws wc wr : va_W} {A : Nat → Prop} {S γ : Type} {mk : S → va_W} {K0 : γ → Prop} {za zv : Nat → Nat}
theorem k_site (hZ : mZ za zv A s s.heap) (i : Nat) (hi : i < 39) : vk_R (zO i) (zK i) (zX i) (za i) s := (hZ.2.2.2.2.1 i hi).1
theorem k_ldcS (hx : p.tables.exec = Jvm.exec) (hb : c.code = cc) (hown : s.vm.findClass own = some m.cls) {tx : String} {q : Nat} (hZ : vk_R own index tx q s) (hdg : decode cc pc = .ok (.ldc index, 2))
    (kk : W p l e R s m args below meth c H locs cells slots Q (F0 m (pc + 2) ls (.ref q :: rest))) : W p l e R s m args below meth c H locs cells slots Q (F0 m pc ls rest) := va_ldcS hx hb hown hZ hdg kk
theorem k_ldcSW (hx : p.tables.exec = Jvm.exec) (hb : c.code = cc) (hown : s.vm.findClass own = some m.cls) {tx : String} {q : Nat} (hZ : vk_R own index tx q s) (hdg : decode cc pc = .ok (.ldc_w index, 3))
    (kk : W p l e R s m args below meth c H locs cells slots Q (F0 m (pc + 3) ls (.ref q :: rest))) : W p l e R s m args below meth c H locs cells slots Q (F0 m pc ls rest) := by
  intro T hT X
  obtain ⟨t, a1, b1⟩ := kk T hT X
  exact ⟨t, X.ldcStringW hx hown (text := tx) (a := q) hZ.1 hZ.2 (g := F0 m pc ls rest) rfl (by rw [hb]; exact hdg) t a1, b1⟩
theorem k_preVZ (hZ : mZ za zv A s s.heap) (hS : va_S A s.heap H locs) (hF : ∀ q, va_A wc H.size q → A q) (hK : mK D cy s) (hP : va_P D kCl wc H) (hD : va_D A wc) (hrec : wc[q0]? = some (b, .inr (ci, fs))) (hci : kCl[ci]? = some (C, T, N)) : PreV s H C b (va_Pc (.ref b :: As) (kPreZ D cy za zv H.size wc)) As := by
  refine ⟨fun a U g mk q => ?_, va_recv hK.1 hP (ci := ci) (q0 := q0) hci hrec, fun U hU hW => ⟨rfl, ⟨by rw [hU], by rw [hU]; exact hP, hK.warm hW, hD.weaken (fun _ _ _ _ => trivial)⟩, hZ.at hS hF hU hW⟩⟩
  obtain ⟨h0, ⟨h1, h2, h3, h4⟩, h5⟩ := q
  exact ⟨h0, ⟨h1, h2, h3.calling, h4⟩, h5.calling⟩
theorem k_preSZ (hZ : mZ za zv A s s.heap) (hS : va_S A s.heap H locs) (hF : ∀ q, va_A wc H.size q → A q) (hK : mK D cy s) (hP : va_P D kCl wc H) (hD : va_D A wc) : PreS s H (va_Pc As (kPreZ D cy za zv H.size wc)) As := by
  refine ⟨fun a U g mk q => ?_, fun U hU hW => ⟨rfl, ⟨by rw [hU], by rw [hU]; exact hP, hK.warm hW, hD.weaken (fun _ _ _ _ => trivial)⟩, hZ.at hS hF hU hW⟩⟩
  obtain ⟨h0, ⟨h1, h2, h3, h4⟩, h5⟩ := q
  exact ⟨h0, ⟨h1, h2, h3.calling, h4⟩, h5.calling⟩
theorem k_preVs (hZ : mZ za zv A s s.heap) (hS : va_S A s.heap H locs) (hF : ∀ q, va_A [] H.size q → A q) (hK : mK D cy s) {w : Nat} (hw : w < 39) : PreV s H "java/lang/String" (za w) (va_Pc (.ref (za w) :: As) (kPreZ D cy za zv H.size [])) As := by
  refine ⟨fun a U g mk q => ?_, ?_, fun U hU hW => ⟨rfl, ⟨by rw [hU], (fun k q h => by simp at h), hK.warm hW, ⟨fun i j p q h => by simp at h, fun k q h => by simp at h⟩⟩, hZ.at hS hF hU hW⟩⟩
  · obtain ⟨h0, ⟨h1, h2, h3, h4⟩, h5⟩ := q
    exact ⟨h0, ⟨h1, h2, h3.calling, h4⟩, h5.calling⟩
  · obtain ⟨cell, h1, h2, h3, -⟩ := (hZ.2.2.2.2.1 w hw).2.1.kept hS.2.1
    exact ⟨cell, h1, h2, h3⟩
/-- the three of a method of an object of the world's -/
theorem kz_iV {o : Option (Int32 × S)} {f : Int32 → S → Option γ} (h : Ok (bnd2 o f) K0) (CF : CallFix p m c cc nL s args Ts own)
    (hM : ∀ K : Int32 → S → Prop, Ok o (fun q => K q.1 q.2) → Met l y wy rm (va_Pc (.ref b :: As) (kPreZ D cy za zv H.size wc)) (va_Qi K (fun u => kPost D (va_A wc H.size) (mk u)) (va_A wc H.size)) 0 0 (va_A wc H.size))
    (cw : CallW R s args own C index y bytes maxL ret wy rm 0 0 n) (hZ : mZ za zv A s s.heap) (hK : mK D cy s) (hp : ws.Perm (wc ++ wr)) (hP : va_P D kCl ws H) (hD : va_D A ws) (hS : va_S A s.heap H locs) (hA : ∀ q, s.heap.size ≤ q → A q)
    (hrec : wc[q0]? = some (b, .inr (ci, fs))) (hci : kCl[ci]? = some (C, T, N)) (hn : As.length = n) (hl : ls.size = nL) (hst : st = As.reverse ++ .ref b :: rest) (hw : (rest.map fun v => v.category).sum ≤ 8) (hdg : decode cc pc = .ok (.invokevirtual index, 3)) (hf : cells ≤ R.cells ∧ slots ≤ R.slots)
    (kk : ∀ (r : Int32) (u : S) (H1 : Heap) (locs1 : List Loc), Ok (f r u) K0 → va_P D kCl (mk u ++ wr) H1 → va_D A (mk u ++ wr) → va_S A s.heap H1 locs1 → W p l e R s m args below meth c H1 locs1 cells slots Q (F0 m (pc + 3) ls (.int r :: rest))) :
    W p l e R s m args below meth c H locs cells slots Q (F0 m pc ls st) := by
  have hP' := kP_app.mp (kP_perm hp hP)
  have hD' := kD_app (kD_perm hp hD)
  exact kj_i (As := .ref b :: As) (mc := 0) (ms := 0) h (va_runV CF (hM (fun r u => Ok (f r u) K0) h.bnd2) cw (k_preVZ hZ hS (k_free hp hD hS hA) hK hP'.1 hD'.1 hrec hci) rfl hn hl hst (lv_room hw) hdg hf) hp hP hD hS hA kk
theorem kz_vV {o : Option S} {f : S → Option γ} (h : Ok (bnd o f) K0) (CF : CallFix p m c cc nL s args Ts own)
    (hM : ∀ K : S → Prop, Ok o K → Met l y wy rm (va_Pc (.ref b :: As) (kPreZ D cy za zv H.size wc)) (va_Qv K (fun u => kPost D (va_A wc H.size) (mk u)) (va_A wc H.size)) 0 0 (va_A wc H.size))
    (cw : CallW R s args own C index y bytes maxL ret wy rm 0 0 n) (hZ : mZ za zv A s s.heap) (hK : mK D cy s) (hp : ws.Perm (wc ++ wr)) (hP : va_P D kCl ws H) (hD : va_D A ws) (hS : va_S A s.heap H locs) (hA : ∀ q, s.heap.size ≤ q → A q)
    (hrec : wc[q0]? = some (b, .inr (ci, fs))) (hci : kCl[ci]? = some (C, T, N)) (hn : As.length = n) (hl : ls.size = nL) (hst : st = As.reverse ++ .ref b :: rest) (hw : (rest.map fun v => v.category).sum ≤ 8) (hdg : decode cc pc = .ok (.invokevirtual index, 3)) (hf : cells ≤ R.cells ∧ slots ≤ R.slots)
    (kk : ∀ (u : S) (H1 : Heap) (locs1 : List Loc), Ok (f u) K0 → va_P D kCl (mk u ++ wr) H1 → va_D A (mk u ++ wr) → va_S A s.heap H1 locs1 → W p l e R s m args below meth c H1 locs1 cells slots Q (F0 m (pc + 3) ls rest)) :
    W p l e R s m args below meth c H locs cells slots Q (F0 m pc ls st) := by
  have hP' := kP_app.mp (kP_perm hp hP)
  have hD' := kD_app (kD_perm hp hD)
  exact kj_v (As := .ref b :: As) (mc := 0) (ms := 0) h (va_runV CF (hM (fun u => Ok (f u) K0) h.bnd) cw (k_preVZ hZ hS (k_free hp hD hS hA) hK hP'.1 hD'.1 hrec hci) rfl hn hl hst (lv_room hw) hdg hf) hp hP hD hS hA kk
theorem kz_rV {o : Option Int32} {f : Int32 → Option γ} (h : Ok (bnd o f) K0) (CF : CallFix p m c cc nL s args Ts own)
    (hM : ∀ K : Int32 → Prop, Ok o K → Met l y wy rm (va_Pc (.ref b :: As) (kPreZ D cy za zv H.size wc)) (va_Qi (fun r (_ : Unit) => K r) (fun _ => kPost D (va_A wc H.size) wc) (va_A wc H.size)) 0 0 (va_A wc H.size))
    (cw : CallW R s args own C index y bytes maxL ret wy rm 0 0 n) (hZ : mZ za zv A s s.heap) (hK : mK D cy s) (hp : ws.Perm (wc ++ wr)) (hP : va_P D kCl ws H) (hD : va_D A ws) (hS : va_S A s.heap H locs) (hA : ∀ q, s.heap.size ≤ q → A q)
    (hrec : wc[q0]? = some (b, .inr (ci, fs))) (hci : kCl[ci]? = some (C, T, N)) (hn : As.length = n) (hl : ls.size = nL) (hst : st = As.reverse ++ .ref b :: rest) (hw : (rest.map fun v => v.category).sum ≤ 8) (hdg : decode cc pc = .ok (.invokevirtual index, 3)) (hf : cells ≤ R.cells ∧ slots ≤ R.slots)
    (kk : ∀ (r : Int32) (H1 : Heap) (locs1 : List Loc), Ok (f r) K0 → va_P D kCl ws H1 → va_S A s.heap H1 locs1 → W p l e R s m args below meth c H1 locs1 cells slots Q (F0 m (pc + 3) ls (.int r :: rest))) :
    W p l e R s m args below meth c H locs cells slots Q (F0 m pc ls st) := by
  have hP' := kP_app.mp (kP_perm hp hP)
  have hD' := kD_app (kD_perm hp hD)
  exact kj_r (As := .ref b :: As) h (va_runV CF (hM (fun r => Ok (f r) K0) h.bnd) cw (k_preVZ hZ hS (k_free hp hD hS hA) hK hP'.1 hD'.1 hrec hci) rfl hn hl hst (lv_room hw) hdg hf) hp hP hD hS hA kk
/-- .. over the whole of the world at hand -/
theorem kz_iV0 {o : Option (Int32 × S)} {f : Int32 → S → Option γ} (h : Ok (bnd2 o f) K0) (CF : CallFix p m c cc nL s args Ts own)
    (hM : ∀ K : Int32 → S → Prop, Ok o (fun q => K q.1 q.2) → Met l y wy rm (va_Pc (.ref b :: As) (kPreZ D cy za zv H.size wc)) (va_Qi K (fun u => kPost D (va_A wc H.size) (mk u)) (va_A wc H.size)) 0 0 (va_A wc H.size))
    (cw : CallW R s args own C index y bytes maxL ret wy rm 0 0 n) (hZ : mZ za zv A s s.heap) (hK : mK D cy s) (hP : va_P D kCl wc H) (hD : va_D A wc) (hS : va_S A s.heap H locs) (hA : ∀ q, s.heap.size ≤ q → A q)
    (hrec : wc[q0]? = some (b, .inr (ci, fs))) (hci : kCl[ci]? = some (C, T, N)) (hn : As.length = n) (hl : ls.size = nL) (hst : st = As.reverse ++ .ref b :: rest) (hw : (rest.map fun v => v.category).sum ≤ 8) (hdg : decode cc pc = .ok (.invokevirtual index, 3)) (hf : cells ≤ R.cells ∧ slots ≤ R.slots)
    (kk : ∀ (r : Int32) (u : S) (H1 : Heap) (locs1 : List Loc), Ok (f r u) K0 → va_P D kCl (mk u) H1 → va_D A (mk u) → va_S A s.heap H1 locs1 → W p l e R s m args below meth c H1 locs1 cells slots Q (F0 m (pc + 3) ls (.int r :: rest))) :
    W p l e R s m args below meth c H locs cells slots Q (F0 m pc ls st) :=
  kz_iV (wr := []) h CF hM cw hZ hK (by rw [List.append_nil]) hP hD hS hA hrec hci hn hl hst hw hdg hf (fun r u H1 locs1 h1 h2 h3 h4 => kk r u H1 locs1 h1 (by rw [List.append_nil] at h2; exact h2) (by rw [List.append_nil] at h3; exact h3) h4)
theorem kz_vV0 {o : Option S} {f : S → Option γ} (h : Ok (bnd o f) K0) (CF : CallFix p m c cc nL s args Ts own)
    (hM : ∀ K : S → Prop, Ok o K → Met l y wy rm (va_Pc (.ref b :: As) (kPreZ D cy za zv H.size wc)) (va_Qv K (fun u => kPost D (va_A wc H.size) (mk u)) (va_A wc H.size)) 0 0 (va_A wc H.size))
    (cw : CallW R s args own C index y bytes maxL ret wy rm 0 0 n) (hZ : mZ za zv A s s.heap) (hK : mK D cy s) (hP : va_P D kCl wc H) (hD : va_D A wc) (hS : va_S A s.heap H locs) (hA : ∀ q, s.heap.size ≤ q → A q)
    (hrec : wc[q0]? = some (b, .inr (ci, fs))) (hci : kCl[ci]? = some (C, T, N)) (hn : As.length = n) (hl : ls.size = nL) (hst : st = As.reverse ++ .ref b :: rest) (hw : (rest.map fun v => v.category).sum ≤ 8) (hdg : decode cc pc = .ok (.invokevirtual index, 3)) (hf : cells ≤ R.cells ∧ slots ≤ R.slots)
    (kk : ∀ (u : S) (H1 : Heap) (locs1 : List Loc), Ok (f u) K0 → va_P D kCl (mk u) H1 → va_D A (mk u) → va_S A s.heap H1 locs1 → W p l e R s m args below meth c H1 locs1 cells slots Q (F0 m (pc + 3) ls rest)) :
    W p l e R s m args below meth c H locs cells slots Q (F0 m pc ls st) :=
  kz_vV (wr := []) h CF hM cw hZ hK (by rw [List.append_nil]) hP hD hS hA hrec hci hn hl hst hw hdg hf (fun u H1 locs1 h1 h2 h3 h4 => kk u H1 locs1 h1 (by rw [List.append_nil] at h2; exact h2) (by rw [List.append_nil] at h3; exact h3) h4)
theorem kz_rV0 {o : Option Int32} {f : Int32 → Option γ} (h : Ok (bnd o f) K0) (CF : CallFix p m c cc nL s args Ts own)
    (hM : ∀ K : Int32 → Prop, Ok o K → Met l y wy rm (va_Pc (.ref b :: As) (kPreZ D cy za zv H.size wc)) (va_Qi (fun r (_ : Unit) => K r) (fun _ => kPost D (va_A wc H.size) wc) (va_A wc H.size)) 0 0 (va_A wc H.size))
    (cw : CallW R s args own C index y bytes maxL ret wy rm 0 0 n) (hZ : mZ za zv A s s.heap) (hK : mK D cy s) (hP : va_P D kCl wc H) (hD : va_D A wc) (hS : va_S A s.heap H locs) (hA : ∀ q, s.heap.size ≤ q → A q)
    (hrec : wc[q0]? = some (b, .inr (ci, fs))) (hci : kCl[ci]? = some (C, T, N)) (hn : As.length = n) (hl : ls.size = nL) (hst : st = As.reverse ++ .ref b :: rest) (hw : (rest.map fun v => v.category).sum ≤ 8) (hdg : decode cc pc = .ok (.invokevirtual index, 3)) (hf : cells ≤ R.cells ∧ slots ≤ R.slots)
    (kk : ∀ (r : Int32) (H1 : Heap) (locs1 : List Loc), Ok (f r) K0 → va_P D kCl wc H1 → va_S A s.heap H1 locs1 → W p l e R s m args below meth c H1 locs1 cells slots Q (F0 m (pc + 3) ls (.int r :: rest))) :
    W p l e R s m args below meth c H locs cells slots Q (F0 m pc ls st) :=
  kz_rV (wr := []) h CF hM cw hZ hK (by rw [List.append_nil]) hP hD hS hA hrec hci hn hl hst hw hdg hf kk
/-- a static method of the class itself that reads alone -/
theorem kz_rS {o : Option Int32} {f : Int32 → Option γ} (h : Ok (bnd o f) K0) (CF : CallFix p m c cc nL s args Ts own)
    (hM : ∀ K : Int32 → Prop, Ok o K → Met l y wy rm (va_Pc As (kPreZ D cy za zv H.size wc)) (va_Qi (fun r (_ : Unit) => K r) (fun _ => kPost D (va_A wc H.size) wc) (va_A wc H.size)) 0 0 (va_A wc H.size))
    (cw : CallB R s args own index y bytes maxL ret wy rm 0 0 n ∧ (Cond.static y).before args s = true) (hZ : mZ za zv A s s.heap) (hK : mK D cy s) (hp : ws.Perm (wc ++ wr)) (hP : va_P D kCl ws H) (hD : va_D A ws) (hS : va_S A s.heap H locs) (hA : ∀ q, s.heap.size ≤ q → A q)
    (hn : As.length = n) (hl : ls.size = nL) (hst : st = As.reverse ++ rest) (hw : (rest.map fun v => v.category).sum ≤ 8) (hdg : decode cc pc = .ok (.invokestatic index, 3)) (hf : cells ≤ R.cells ∧ slots ≤ R.slots)
    (kk : ∀ (r : Int32) (H1 : Heap) (locs1 : List Loc), Ok (f r) K0 → va_P D kCl ws H1 → va_S A s.heap H1 locs1 → W p l e R s m args below meth c H1 locs1 cells slots Q (F0 m (pc + 3) ls (.int r :: rest))) :
    W p l e R s m args below meth c H locs cells slots Q (F0 m pc ls st) := by
  have hP' := kP_app.mp (kP_perm hp hP)
  have hD' := kD_app (kD_perm hp hD)
  exact kj_r (As := As) h (va_runS CF (hM (fun r => Ok (f r) K0) h.bnd) cw (k_preSZ hZ hS (k_free hp hD hS hA) hK hP'.1 hD'.1) rfl hn hl hst (lv_room hw) hdg hf) hp hP hD hS hA kk
/-- .. of a nest mate -/
theorem kz_rSN {o : Option Int32} {f : Int32 → Option γ} (h : Ok (bnd o f) K0) (CF : CallFix p m c cc nL s args Ts own)
    (hM : ∀ K : Int32 → Prop, Ok o K → Met l y wy rm (va_Pc As (kPreZ D cy za zv H.size wc)) (va_Qi (fun r (_ : Unit) => K r) (fun _ => kPost D (va_A wc H.size) wc) (va_A wc H.size)) 0 0 (va_A wc H.size))
    (cw : va_CN R s args own index y host bytes maxL ret wy rm 0 0 n ∧ (Cond.static y).before args s = true ∧ True) (hZ : mZ za zv A s s.heap) (hK : mK D cy s) (hp : ws.Perm (wc ++ wr)) (hP : va_P D kCl ws H) (hD : va_D A ws) (hS : va_S A s.heap H locs) (hA : ∀ q, s.heap.size ≤ q → A q)
    (hn : As.length = n) (hl : ls.size = nL) (hst : st = As.reverse ++ rest) (hw : (rest.map fun v => v.category).sum ≤ 8) (hdg : decode cc pc = .ok (.invokestatic index, 3)) (hf : cells ≤ R.cells ∧ slots ≤ R.slots)
    (kk : ∀ (r : Int32) (H1 : Heap) (locs1 : List Loc), Ok (f r) K0 → va_P D kCl ws H1 → va_S A s.heap H1 locs1 → W p l e R s m args below meth c H1 locs1 cells slots Q (F0 m (pc + 3) ls (.int r :: rest))) :
    W p l e R s m args below meth c H locs cells slots Q (F0 m pc ls st) := by
  have hP' := kP_app.mp (kP_perm hp hP)
  have hD' := kD_app (kD_perm hp hD)
  exact kj_r (As := As) h (va_runSN CF (hM (fun r => Ok (f r) K0) h.bnd) cw (k_preSZ hZ hS (k_free hp hD hS hA) hK hP'.1 hD'.1) rfl hn hl hst (lv_room hw) hdg hf) hp hP hD hS hA kk
theorem kz_str {o : Option Int32} {f : Int32 → Option γ} (h : Ok (bnd o f) K0) (CF : CallFix p m c cc nL s args Ts own) {w : Nat} (hw : w < 39)
    (hM : ∀ K : Int32 → Prop, Ok o K → Met l y wy rm (va_Pc (.ref (za w) :: As) (kPreZ D cy za zv H.size [])) (va_Qi (fun r (_ : Unit) => K r) (fun _ => kPost D (va_A [] H.size) []) (va_A [] H.size)) 0 0 (va_A [] H.size))
    (cw : CallW R s args own "java/lang/String" index y bytes maxL ret wy rm 0 0 n) (hZ : mZ za zv A s s.heap) (hK : mK D cy s) (hP : va_P D kCl ws H) (hD : va_D A ws) (hS : va_S A s.heap H locs) (hA : ∀ q, s.heap.size ≤ q → A q)
    (hn : As.length = n) (hl : ls.size = nL) (hst : st = As.reverse ++ .ref (za w) :: rest) (hw2 : (rest.map fun v => v.category).sum ≤ 8) (hdg : decode cc pc = .ok (.invokevirtual index, 3)) (hf : cells ≤ R.cells ∧ slots ≤ R.slots)
    (kk : ∀ (r : Int32) (H1 : Heap) (locs1 : List Loc), Ok (f r) K0 → va_P D kCl ws H1 → va_S A s.heap H1 locs1 → W p l e R s m args below meth c H1 locs1 cells slots Q (F0 m (pc + 3) ls (.int r :: rest))) :
    W p l e R s m args below meth c H locs cells slots Q (F0 m pc ls st) :=
  kj_r (As := .ref (za w) :: As) (wc := []) (wr := ws) h (va_runV CF (hM (fun r => Ok (f r) K0) h.bnd) cw (k_preVs hZ hS (k_free (wc := []) (wr := ws) (List.Perm.refl _) hD hS hA) hK hw) rfl hn hl hst (lv_room hw2) hdg hf) (List.Perm.refl _) hP hD hS hA kk
end KZ
theorem zst_coder {za zv : Nat → Nat} {A : Nat → Prop} {s : State} {w : Nat} (hZ : mZ za zv A s s.heap) (hw : w < 39) : va_OF "java/lang/String" "coder" "B" (.int 0) (za w) A s s.heap := (hZ.2.2.2.2.1 w hw).2.2.1
theorem zst_value {za zv : Nat → Nat} {A : Nat → Prop} {s : State} {w : Nat} (hZ : mZ za zv A s s.heap) (hw : w < 39) : va_OF "java/lang/String" "value" "[B" (.ref (zv w)) (za w) A s s.heap := (hZ.2.2.2.2.1 w hw).2.2.2.1
theorem zst_bytes {za zv : Nat → Nat} {A : Nat → Prop} {s : State} {w : Nat} (hZ : mZ za zv A s s.heap) (hw : w < 39) : va_T .byte (zv w) (zB w).length (fun j => .int ((zB w).getD j 0)) A s s.heap := (hZ.2.2.2.2.1 w hw).2.2.2.2
abbrev rmJ0_coder_7d493 : Room := { frames := 0, cells := 0, slots := 0, locals := 0 }
theorem heJ0_coder_7d493 : yJ0_coder_7d493.cls ≠ "java/lang/invoke/MethodHandle" ∧ yJ0_coder_7d493.cls ≠ "java/lang/invoke/VarHandle" ∧ (parseMethodDescriptor yJ0_coder_7d493.desc).map (fun d => d.parameters.length) = some 0 := by decide +kernel
theorem hdJ0_coder_7d493 : yJ0_coder_7d493.cls = RJ0 ∧ yJ0_coder_7d493.cls ≠ "java/lang/invoke/MethodHandle" ∧ yJ0_coder_7d493.cls ≠ "java/lang/invoke/VarHandle" ∧ (parseMethodDescriptor yJ0_coder_7d493.desc).map (fun d => d.parameters.length) = some 0 := heJ0_coder_7d493 |> fun h => ⟨rfl, h⟩
set_option maxHeartbeats 4000000 in
set_option maxRecDepth 100000 in
theorem cJ0_coder_7d493M (l : Launch) (D : va_G) (cy : Nat → ClassId) (za zv : Nat → Nat) (sz : Nat) (w : Nat) (hw : w < 39) : ∀ K : Int32 → Prop, Ok (some 0) K → Met l yJ0_coder_7d493 wsJ0_coder_7d493 rmJ0_coder_7d493 (va_Pc [.ref (za w)] (kPreZ D cy za zv sz [])) (va_Qi (fun r (_ : Unit) => K r) (fun _ => kPost D (va_A [] sz) []) (va_A [] sz)) 0 0 (va_A [] sz) := by
  intro K h1
  refine Met.ofW (cc := cJ0_coder_7d493) (maxL := 1) (ret := (some .byte)) (by decide) rfl ?_
  intro p e s m args below meth c s₁ B hml hv
  obtain ⟨rfl, ⟨hsz, hP, hK, hD0⟩, hZ⟩ := hv
  subst hsz
  have hx := B.exec
  have hb := B.bytes
  have hr := B.returns
  have hts := atoms_spec (ws := wsJ0_coder_7d493) B.pre
  have hown : s.vm.findClass RJ0 = some m.cls := findClass_of_methodNamed B.named
  have hlocks := B.notSynchronized
  have hA : ∀ q, s.heap.size ≤ q → va_A [] s.heap.size q := fun q h => Or.inr h
  have hS : va_S (va_A [] s.heap.size) s.heap s.heap [] := va_S.rf
  have hD : va_D (va_A [] s.heap.size) [] := hD0.self
  have hl := lv_entry ([.ref (za w)]) (n := 1) (Nat.le_of_ble_eq_true rfl)
  rw [lg_entry_eq]
  generalize (lg_sl ([.ref (za w)]) ++ List.replicate (1 - (lg_sl ([.ref (za w)])).length) Slot.unset).toArray = ls at hl ⊢
  have hl : lv_has ls 1 [(0, .ref (za w))] := hl
  refine va_gets hx hb hZ.1 hS hown (hts _ (List.mem_of_getElem? (i := 1) rfl)) (fun _ h => h) dJ0_coder_7d493_0 ?_
  refine lv_if_eq (tgt := 13) hx hb dJ0_coder_7d493_3 (by decide) (fun c => absurd c (by decide)) (fun _ => ?_)
  refine lv_aload_n hx hb dJ0_coder_7d493_6 rfl (lv_at hl 0 rfl) ?_
  refine vk_getf hx hb (zst_coder hZ hw) hS hown (hts _ (List.mem_of_getElem? (i := 2) rfl)) (fun _ h => h) dJ0_coder_7d493_7 ?_
  refine lv_goto (tgt := 14) hx hb dJ0_coder_7d493_10 (by decide) ?_
  exact kret_rz hx hb hr rfl hlocks hP hD hS h1 dJ0_coder_7d493_14
abbrev rmJ0_isLatin1_aae02 : Room := { frames := 0, cells := 0, slots := 0, locals := 0 }
theorem heJ0_isLatin1_aae02 : yJ0_isLatin1_aae02.cls ≠ "java/lang/invoke/MethodHandle" ∧ yJ0_isLatin1_aae02.cls ≠ "java/lang/invoke/VarHandle" ∧ (parseMethodDescriptor yJ0_isLatin1_aae02.desc).map (fun d => d.parameters.length) = some 0 := by decide +kernel
theorem hdJ0_isLatin1_aae02 : yJ0_isLatin1_aae02.cls = RJ0 ∧ yJ0_isLatin1_aae02.cls ≠ "java/lang/invoke/MethodHandle" ∧ yJ0_isLatin1_aae02.cls ≠ "java/lang/invoke/VarHandle" ∧ (parseMethodDescriptor yJ0_isLatin1_aae02.desc).map (fun d => d.parameters.length) = some 0 := heJ0_isLatin1_aae02 |> fun h => ⟨rfl, h⟩
set_option maxHeartbeats 4000000 in
set_option maxRecDepth 100000 in
theorem cJ0_isLatin1_aae02M (l : Launch) (D : va_G) (cy : Nat → ClassId) (za zv : Nat → Nat) (sz : Nat) (w : Nat) (hw : w < 39) : ∀ K : Int32 → Prop, Ok (some 1) K → Met l yJ0_isLatin1_aae02 wsJ0_isLatin1_aae02 rmJ0_isLatin1_aae02 (va_Pc [.ref (za w)] (kPreZ D cy za zv sz [])) (va_Qi (fun r (_ : Unit) => K r) (fun _ => kPost D (va_A [] sz) []) (va_A [] sz)) 0 0 (va_A [] sz) := by
  intro K h1
  refine Met.ofW (cc := cJ0_isLatin1_aae02) (maxL := 1) (ret := (some .boolean)) (by decide) rfl ?_
  intro p e s m args below meth c s₁ B hml hv
  obtain ⟨rfl, ⟨hsz, hP, hK, hD0⟩, hZ⟩ := hv
  subst hsz
  have hx := B.exec
  have hb := B.bytes
  have hr := B.returns
  have hts := atoms_spec (ws := wsJ0_isLatin1_aae02) B.pre
  have hown : s.vm.findClass RJ0 = some m.cls := findClass_of_methodNamed B.named
  have hlocks := B.notSynchronized
  have hA : ∀ q, s.heap.size ≤ q → va_A [] s.heap.size q := fun q h => Or.inr h
  have hS : va_S (va_A [] s.heap.size) s.heap s.heap [] := va_S.rf
  have hD : va_D (va_A [] s.heap.size) [] := hD0.self
  have hl := lv_entry ([.ref (za w)]) (n := 1) (Nat.le_of_ble_eq_true rfl)
  rw [lg_entry_eq]
  generalize (lg_sl ([.ref (za w)]) ++ List.replicate (1 - (lg_sl ([.ref (za w)])).length) Slot.unset).toArray = ls at hl ⊢
  have hl : lv_has ls 1 [(0, .ref (za w))] := hl
  refine va_gets hx hb hZ.1 hS hown (hts _ (List.mem_of_getElem? (i := 1) rfl)) (fun _ h => h) dJ0_isLatin1_aae02_0 ?_
  refine lv_if_eq (tgt := 17) hx hb dJ0_isLatin1_aae02_3 (by decide) (fun c => absurd c (by decide)) (fun _ => ?_)
  refine lv_aload_n hx hb dJ0_isLatin1_aae02_6 rfl (lv_at hl 0 rfl) ?_
  refine vk_getf hx hb (zst_coder hZ hw) hS hown (hts _ (List.mem_of_getElem? (i := 2) rfl)) (fun _ h => h) dJ0_isLatin1_aae02_7 ?_
  refine lv_if_ne (tgt := 17) hx hb dJ0_isLatin1_aae02_10 (by decide) (fun c => absurd rfl c) (fun _ => ?_)
  refine lv_iconst (v := 1) hx hb dJ0_isLatin1_aae02_13 rfl ?_
  refine lv_goto (tgt := 18) hx hb dJ0_isLatin1_aae02_14 (by decide) ?_
  exact kret_rz hx hb hr rfl hlocks hP hD hS h1 dJ0_isLatin1_aae02_18
def fJ0_length_8abf5 (w : Nat) : Option Int32 := some (Int32.ofNat (zB w).length)
abbrev rmJ0_length_8abf5 : Room := { frames := 1, cells := 0, slots := 0, locals := 20 }
theorem heJ0_length_8abf5 : yJ0_length_8abf5.cls ≠ "java/lang/invoke/MethodHandle" ∧ yJ0_length_8abf5.cls ≠ "java/lang/invoke/VarHandle" ∧ (parseMethodDescriptor yJ0_length_8abf5.desc).map (fun d => d.parameters.length) = some 0 := by decide +kernel
theorem hdJ0_length_8abf5 : yJ0_length_8abf5.cls = RJ0 ∧ yJ0_length_8abf5.cls ≠ "java/lang/invoke/MethodHandle" ∧ yJ0_length_8abf5.cls ≠ "java/lang/invoke/VarHandle" ∧ (parseMethodDescriptor yJ0_length_8abf5.desc).map (fun d => d.parameters.length) = some 0 := heJ0_length_8abf5 |> fun h => ⟨rfl, h⟩
set_option maxHeartbeats 4000000 in
set_option maxRecDepth 100000 in
theorem cJ0_length_8abf5M (l : Launch) (D : va_G) (cy : Nat → ClassId) (za zv : Nat → Nat) (sz : Nat) (w : Nat) (hw : w < 39) : ∀ K : Int32 → Prop, Ok (fJ0_length_8abf5 w) K → Met l yJ0_length_8abf5 wsJ0_length_8abf5 rmJ0_length_8abf5 (va_Pc [.ref (za w)] (kPreZ D cy za zv sz [])) (va_Qi (fun r (_ : Unit) => K r) (fun _ => kPost D (va_A [] sz) []) (va_A [] sz)) 0 0 (va_A [] sz) := by
  intro K h1
  refine Met.ofW (cc := cJ0_length_8abf5) (maxL := 1) (ret := (some .int)) (by decide) rfl ?_
  intro p e s m args below meth c s₁ B hml hv
  obtain ⟨rfl, ⟨hsz, hP, hK, hD0⟩, hZ⟩ := hv
  subst hsz
  have hx := B.exec
  have hb := B.bytes
  have hr := B.returns
  have hts := atoms_spec (ws := wsJ0_length_8abf5) B.pre
  have hown : s.vm.findClass RJ0 = some m.cls := findClass_of_methodNamed B.named
  have hlocks := B.notSynchronized
  have hA : ∀ q, s.heap.size ≤ q → va_A [] s.heap.size q := fun q h => Or.inr h
  have hS : va_S (va_A [] s.heap.size) s.heap s.heap [] := va_S.rf
  have hD : va_D (va_A [] s.heap.size) [] := hD0.self
  have hl := lv_entry ([.ref (za w)]) (n := 1) (Nat.le_of_ble_eq_true rfl)
  rw [lg_entry_eq]
  generalize (lg_sl ([.ref (za w)]) ++ List.replicate (1 - (lg_sl ([.ref (za w)])).length) Slot.unset).toArray = ls at hl ⊢
  have hl : lv_has ls 1 [(0, .ref (za w))] := hl
  refine lv_aload_n hx hb dJ0_length_8abf5_0 rfl (lv_at hl 0 rfl) ?_
  refine vk_getf hx hb (zst_value hZ hw) hS hown (hts _ (List.mem_of_getElem? (i := 1) rfl)) (fun _ h => h) dJ0_length_8abf5_1 ?_
  refine va_tlen hx hb (zst_bytes hZ hw) hS (v := Int32.ofNat (zB w).length) rfl dJ0_length_8abf5_4 ?_
  refine lv_aload_n hx hb dJ0_length_8abf5_5 rfl (lv_at hl 0 rfl) ?_
  have h2 : Ok (bnd (some (0 : Int32)) (fun r => if r = 0 then some (Int32.ofNat (zB w).length) else none)) K := h1
  refine kz_str (As := []) (rest := [.int (Int32.ofNat (zB w).length)]) h2 ⟨hx, hb, hml, hown, hts⟩ hw (cJ0_coder_7d493M l D cy za zv s.heap.size w hw) (cwV 0 hts gJ0_length_8abf5_J0_coder_7d493 rfl rfl rfl hdJ0_coder_7d493 ⟨Nat.le_of_ble_eq_true rfl, Nat.le_of_ble_eq_true rfl⟩) hZ hK hP hD hS hA rfl hl.1 rfl (Nat.le_of_ble_eq_true rfl) dJ0_length_8abf5_6 ⟨Nat.zero_le _, Nat.zero_le _⟩ (fun r H locs h3 hP hS => ?_)
  have hr0 : r = 0 := by
    rcases Classical.em (r = 0) with q | q
    · exact q
    · exact (Ok.neg q h3).no
  subst hr0
  refine lv_ishr hx hb dJ0_length_8abf5_9 ?_
  rw [show (Int32.ofNat (zB w).length : Int32) >>> ((0 : Int32) &&& 31) = Int32.ofNat (zB w).length from sb_shr0 _]
  exact kret_r hx hb hr hlocks hP hD hS h1 dJ0_length_8abf5_10
abbrev rmJ3_checkIndex_8e157 : Room := { frames := 0, cells := 0, slots := 0, locals := 0 }
theorem heJ3_checkIndex_8e157 : yJ3_checkIndex_8e157.cls ≠ "java/lang/invoke/MethodHandle" ∧ yJ3_checkIndex_8e157.cls ≠ "java/lang/invoke/VarHandle" ∧ (parseMethodDescriptor yJ3_checkIndex_8e157.desc).map (fun d => d.parameters.length) = some 3 := by decide +kernel
theorem hdJ3_checkIndex_8e157 : yJ3_checkIndex_8e157.cls = RJ3 ∧ yJ3_checkIndex_8e157.cls ≠ "java/lang/invoke/MethodHandle" ∧ yJ3_checkIndex_8e157.cls ≠ "java/lang/invoke/VarHandle" ∧ (parseMethodDescriptor yJ3_checkIndex_8e157.desc).map (fun d => d.parameters.length) = some 3 := heJ3_checkIndex_8e157 |> fun h => ⟨rfl, h⟩
set_option maxHeartbeats 4000000 in
set_option maxRecDepth 100000 in
theorem cJ3_checkIndex_8e157M (l : Launch) (D : va_G) (cy : Nat → ClassId) (za zv : Nat → Nat) (sz : Nat) (i n : Int32) (v : Value) (hv : v = .null ∨ ∃ t : Nat, v = .ref t) (h0 : ¬ i < 0) (hn : i < n) : ∀ K : Int32 → Prop, Ok (some i) K → Met l yJ3_checkIndex_8e157 wsJ3_checkIndex_8e157 rmJ3_checkIndex_8e157 (va_Pc [.int i, .int n, v] (kPreZ D cy za zv sz [])) (va_Qi (fun r (_ : Unit) => K r) (fun _ => kPost D (va_A [] sz) []) (va_A [] sz)) 0 0 (va_A [] sz) := by
  intro K h1
  refine Met.ofW (cc := cJ3_checkIndex_8e157) (maxL := 3) (ret := (some .int)) (by decide) rfl ?_
  intro p e s m args below meth c s₁ B hml hv
  obtain ⟨rfl, ⟨hsz, hP, hK, hD0⟩, hZ⟩ := hv
  subst hsz
  have hx := B.exec
  have hb := B.bytes
  have hr := B.returns
  have hts := atoms_spec (ws := wsJ3_checkIndex_8e157) B.pre
  have hown : s.vm.findClass RJ3 = some m.cls := findClass_of_methodNamed B.named
  have hlocks := B.notSynchronized
  have hA : ∀ q, s.heap.size ≤ q → va_A [] s.heap.size q := fun q h => Or.inr h
  have hS : va_S (va_A [] s.heap.size) s.heap s.heap [] := va_S.rf
  have hD : va_D (va_A [] s.heap.size) [] := hD0.self
  obtain ⟨hvc, hvw⟩ : (lg_sl [.int i, .int n, v]).length = 3 ∧ True := ⟨by rcases hv with rfl | ⟨t, rfl⟩ <;> rfl, trivial⟩
  have hl := lv_entry ([.int i, .int n, v]) (n := 3) (Nat.le_of_eq hvc)
  rw [lg_entry_eq]
  generalize (lg_sl ([.int i, .int n, v]) ++ List.replicate (3 - (lg_sl ([.int i, .int n, v])).length) Slot.unset).toArray = ls at hl ⊢
  have hl : lv_has ls 3 [(0, .int i), (1, .int n)] := lv_sub hl [0, 1] (by rcases hv with rfl | ⟨t, rfl⟩ <;> rfl)
  refine lv_iload_n hx hb dJ3_checkIndex_8e157_0 rfl (lv_at hl 0 rfl) ?_
  refine lv_if_lt (tgt := 9) hx hb dJ3_checkIndex_8e157_1 (by decide) (fun c => absurd c h0) (fun _ => ?_)
  refine lv_iload_n hx hb dJ3_checkIndex_8e157_4 rfl (lv_at hl 0 rfl) ?_
  refine lv_iload_n hx hb dJ3_checkIndex_8e157_5 rfl (lv_at hl 1 rfl) ?_
  refine lv_icmp_lt (tgt := 16) hx hb dJ3_checkIndex_8e157_6 (by decide) (fun _ => ?_) (fun c => absurd hn c)
  refine lv_iload_n hx hb dJ3_checkIndex_8e157_16 rfl (lv_at hl 0 rfl) ?_
  exact kret_r hx hb hr hlocks hP hD hS h1 dJ3_checkIndex_8e157_17
abbrev rmJ0_checkIndex_df160 : Room := { frames := 1, cells := 0, slots := 0, locals := 22 }
theorem heJ0_checkIndex_df160 : yJ0_checkIndex_df160.cls ≠ "java/lang/invoke/MethodHandle" ∧ yJ0_checkIndex_df160.cls ≠ "java/lang/invoke/VarHandle" ∧ (parseMethodDescriptor yJ0_checkIndex_df160.desc).map (fun d => d.parameters.length) = some 2 := by decide +kernel
theorem hdJ0_checkIndex_df160 : yJ0_checkIndex_df160.cls = RJ0 ∧ yJ0_checkIndex_df160.cls ≠ "java/lang/invoke/MethodHandle" ∧ yJ0_checkIndex_df160.cls ≠ "java/lang/invoke/VarHandle" ∧ (parseMethodDescriptor yJ0_checkIndex_df160.desc).map (fun d => d.parameters.length) = some 2 := heJ0_checkIndex_df160 |> fun h => ⟨rfl, h⟩
set_option maxHeartbeats 4000000 in
set_option maxRecDepth 100000 in
theorem cJ0_checkIndex_df160M (l : Launch) (D : va_G) (cy : Nat → ClassId) (za zv : Nat → Nat) (sz : Nat) (i n : Int32) (h0 : ¬ i < 0) (hn : i < n) : ∀ K : Int32 → Prop, K 0 → Met l yJ0_checkIndex_df160 wsJ0_checkIndex_df160 rmJ0_checkIndex_df160 (va_Pc [.int i, .int n] (kPreZ D cy za zv sz [])) (va_Qv (fun (_ : Unit) => K 0) (fun _ => kPost D (va_A [] sz) []) (va_A [] sz)) 0 0 (va_A [] sz) := by
  intro K h1
  refine Met.ofW (cc := cJ0_checkIndex_df160) (maxL := 2) (ret := none) (by decide) rfl ?_
  intro p e s m args below meth c s₁ B hml hv
  obtain ⟨rfl, ⟨hsz, hP, hK, hD0⟩, hZ⟩ := hv
  subst hsz
  have hx := B.exec
  have hb := B.bytes
  have hr := B.returns
  have hts := atoms_spec (ws := wsJ0_checkIndex_df160) B.pre
  have hown : s.vm.findClass RJ0 = some m.cls := findClass_of_methodNamed B.named
  have hlocks := B.notSynchronized
  have hA : ∀ q, s.heap.size ≤ q → va_A [] s.heap.size q := fun q h => Or.inr h
  have hS : va_S (va_A [] s.heap.size) s.heap s.heap [] := va_S.rf
  have hD : va_D (va_A [] s.heap.size) [] := hD0.self
  have hl := lv_entry ([.int i, .int n]) (n := 2) (Nat.le_of_ble_eq_true rfl)
  rw [lg_entry_eq]
  generalize (lg_sl ([.int i, .int n]) ++ List.replicate (2 - (lg_sl ([.int i, .int n])).length) Slot.unset).toArray = ls at hl ⊢
  have hl : lv_has ls 2 [(0, .int i), (1, .int n)] := hl
  refine lv_iload_n hx hb dJ0_checkIndex_df160_0 rfl (lv_at hl 0 rfl) ?_
  refine lv_iload_n hx hb dJ0_checkIndex_df160_1 rfl (lv_at hl 1 rfl) ?_
  rcases hZ.2.1 with hz | ⟨t0, hz⟩
  · refine va_gets hx hb hz hS hown (hts _ (List.mem_of_getElem? (i := 1) rfl)) (fun _ h => h) dJ0_checkIndex_df160_2 ?_
    refine va_calli (va_runS (As := [.int i, .int n, .null]) (rest := []) ⟨hx, hb, hml, hown, hts⟩ (cJ3_checkIndex_8e157M l D cy za zv s.heap.size i n .null (Or.inl rfl) h0 hn (fun _ => True) ⟨i, rfl, trivial⟩) (va_cwS 3 hts gJ0_checkIndex_df160_J3_checkIndex_8e157 rfl rfl rfl heJ3_checkIndex_8e157 ⟨Nat.le_of_ble_eq_true rfl, Nat.le_of_ble_eq_true rfl⟩) (k_preSZ hZ hS (fun _ h => h) hK hP hD) rfl rfl hl.1 rfl (lv_room (Nat.le_of_ble_eq_true rfl)) dJ0_checkIndex_df160_5 ⟨Nat.zero_le _, Nat.zero_le _⟩) hS (fun _ _ h => h) (fun _ h => h) (fun r u t H1 locs1 ht hvm hw hB hz1 hk1 hS1 => ?_)
    refine lv_pop hx hb dJ0_checkIndex_df160_8 rfl ?_
    exact W.vret hx hb hr (fun t ht hW => ⟨⟨(), rfl, h1, (fun k q h => by simp at h), hD⟩, hS1.F ht⟩) hS1.2.2 dJ0_checkIndex_df160_9 hlocks
  · refine va_gets hx hb hz hS hown (hts _ (List.mem_of_getElem? (i := 1) rfl)) (fun _ h => h) dJ0_checkIndex_df160_2 ?_
    refine va_calli (va_runS (As := [.int i, .int n, (.ref t0)]) (rest := []) ⟨hx, hb, hml, hown, hts⟩ (cJ3_checkIndex_8e157M l D cy za zv s.heap.size i n (.ref t0) (Or.inr ⟨t0, rfl⟩) h0 hn (fun _ => True) ⟨i, rfl, trivial⟩) (va_cwS 3 hts gJ0_checkIndex_df160_J3_checkIndex_8e157 rfl rfl rfl heJ3_checkIndex_8e157 ⟨Nat.le_of_ble_eq_true rfl, Nat.le_of_ble_eq_true rfl⟩) (k_preSZ hZ hS (fun _ h => h) hK hP hD) rfl rfl hl.1 rfl (lv_room (Nat.le_of_ble_eq_true rfl)) dJ0_checkIndex_df160_5 ⟨Nat.zero_le _, Nat.zero_le _⟩) hS (fun _ _ h => h) (fun _ h => h) (fun r u t H1 locs1 ht hvm hw hB hz1 hk1 hS1 => ?_)
    refine lv_pop hx hb dJ0_checkIndex_df160_8 rfl ?_
    exact W.vret hx hb hr (fun t ht hW => ⟨⟨(), rfl, h1, (fun k q h => by simp at h), hD⟩, hS1.F ht⟩) hS1.2.2 dJ0_checkIndex_df160_9 hlocks
def fJ0_charAt_5068e (i : Int32) (w : Nat) : Option Int32 := grd (inb i (zB w).length) (some ((zB w).getD (ix i) 0))
abbrev rmJ1_charAt_3b067 : Room := { frames := 2, cells := 0, slots := 0, locals := 43 }
theorem heJ1_charAt_3b067 : yJ1_charAt_3b067.cls ≠ "java/lang/invoke/MethodHandle" ∧ yJ1_charAt_3b067.cls ≠ "java/lang/invoke/VarHandle" ∧ (parseMethodDescriptor yJ1_charAt_3b067.desc).map (fun d => d.parameters.length) = some 2 := by decide +kernel
theorem hdJ1_charAt_3b067 : yJ1_charAt_3b067.cls = RJ1 ∧ yJ1_charAt_3b067.cls ≠ "java/lang/invoke/MethodHandle" ∧ yJ1_charAt_3b067.cls ≠ "java/lang/invoke/VarHandle" ∧ (parseMethodDescriptor yJ1_charAt_3b067.desc).map (fun d => d.parameters.length) = some 2 := heJ1_charAt_3b067 |> fun h => ⟨rfl, h⟩
theorem zch {w : Nat} (hw : w < 39) {i : Int32} (g : inb i (zB w).length = true) : ((((zB w).getD (ix i) 0) &&& 255).toUInt32 % 65536).toInt32 = (zB w).getD (ix i) 0 ∧ narrow .char (.int ((zB w).getD (ix i) 0)) = .int ((zB w).getD (ix i) 0) := by
  have h := inb_vp g
  have hlt : ix i < (zB w).length := Nat.not_le.mp fun q => h (Or.inr q)
  refine (zB_ok w hw).2 _ ?_
  rw [List.getD_eq_getElem?_getD, List.getElem?_eq_getElem hlt]
  exact List.getElem_mem hlt
theorem zlt {w : Nat} (hw : w < 39) {i : Int32} (g : inb i (zB w).length = true) : ¬ i < 0 ∧ i < Int32.ofNat (zB w).length := by
  have h := inb_vp g
  obtain ⟨j, hj, rfl⟩ := vp_in_of h (by have := (zB_ok w hw).1; omega)
  have := (zB_ok w hw).1
  exact ⟨nI_pos (by omega), nI_lt hj (by omega)⟩
set_option maxHeartbeats 4000000 in
set_option maxRecDepth 100000 in
theorem cJ1_charAt_3b067M (l : Launch) (D : va_G) (cy : Nat → ClassId) (za zv : Nat → Nat) (sz : Nat) (w : Nat) (hw : w < 39) (i : Int32) : ∀ K : Int32 → Prop, Ok (fJ0_charAt_5068e i w) K → Met l yJ1_charAt_3b067 wsJ1_charAt_3b067 rmJ1_charAt_3b067 (va_Pc [.ref (zv w), .int i] (kPreZ D cy za zv sz [])) (va_Qi (fun r (_ : Unit) => K r) (fun _ => kPost D (va_A [] sz) []) (va_A [] sz)) 0 0 (va_A [] sz) := by
  intro K h1
  refine Met.ofW (cc := cJ1_charAt_3b067) (maxL := 2) (ret := (some .char)) (by decide) rfl ?_
  intro p e s m args below meth c s₁ B hml hv
  obtain ⟨rfl, ⟨hsz, hP, hK, hD0⟩, hZ⟩ := hv
  subst hsz
  have hx := B.exec
  have hb := B.bytes
  have hr := B.returns
  have hts := atoms_spec (ws := wsJ1_charAt_3b067) B.pre
  have hown : s.vm.findClass RJ1 = some m.cls := findClass_of_methodNamed B.named
  have hlocks := B.notSynchronized
  have hA : ∀ q, s.heap.size ≤ q → va_A [] s.heap.size q := fun q h => Or.inr h
  have hS : va_S (va_A [] s.heap.size) s.heap s.heap [] := va_S.rf
  have hD : va_D (va_A [] s.heap.size) [] := hD0.self
  have hl := lv_entry ([.ref (zv w), .int i]) (n := 2) (Nat.le_of_ble_eq_true rfl)
  rw [lg_entry_eq]
  generalize (lg_sl ([.ref (zv w), .int i]) ++ List.replicate (2 - (lg_sl ([.ref (zv w), .int i])).length) Slot.unset).toArray = ls at hl ⊢
  have hl : lv_has ls 2 [(0, .ref (zv w)), (1, .int i)] := hl
  have g := h1.grd1
  have h1 := h1.grd2
  obtain ⟨g1, g2⟩ := zlt hw g
  obtain ⟨g3, g4⟩ := zch hw g
  refine lv_iload_n hx hb dJ1_charAt_3b067_0 rfl (lv_at hl 1 rfl) ?_
  refine lv_aload_n hx hb dJ1_charAt_3b067_1 rfl (lv_at hl 0 rfl) ?_
  refine va_tlen hx hb (zst_bytes hZ hw) hS (v := Int32.ofNat (zB w).length) rfl dJ1_charAt_3b067_2 ?_
  refine va_callv (va_runS (As := [.int i, .int (Int32.ofNat (zB w).length)]) (rest := []) ⟨hx, hb, hml, hown, hts⟩ (cJ0_checkIndex_df160M l D cy za zv s.heap.size i _ g1 g2 (fun _ => True) trivial) (va_cwS 2 hts gJ1_charAt_3b067_J0_checkIndex_df160 rfl rfl rfl heJ0_checkIndex_df160 ⟨Nat.le_of_ble_eq_true rfl, Nat.le_of_ble_eq_true rfl⟩) (k_preSZ hZ hS (fun _ h => h) hK hP hD) rfl rfl hl.1 rfl (lv_room (Nat.le_of_ble_eq_true rfl)) dJ1_charAt_3b067_3 ⟨Nat.zero_le _, Nat.zero_le _⟩) hS (fun _ _ h => h) (fun _ h => h) (fun u t H1 locs1 ht hvm hw2 hB hz1 hk1 hS1 => ?_)
  refine lv_aload_n hx hb dJ1_charAt_3b067_6 rfl (lv_at hl 0 rfl) ?_
  refine lv_iload_n hx hb dJ1_charAt_3b067_7 rfl (lv_at hl 1 rfl) ?_
  refine va_tb hx hb (zst_bytes hZ hw) hS1 (inb_vp g) (v := .int ((zB w).getD (ix i) 0)) rfl dJ1_charAt_3b067_8 ?_
  refine lv_sipush (v := 255) hx hb dJ1_charAt_3b067_9 rfl ?_
  refine lv_iand hx hb dJ1_charAt_3b067_12 ?_
  refine lv_i2c hx hb dJ1_charAt_3b067_13 g3 ?_
  exact kret_rz hx hb hr g4 hlocks (fun k q h => by simp at h) hD hS1 h1 dJ1_charAt_3b067_14
abbrev rmJ0_charAt_5068e : Room := { frames := 3, cells := 0, slots := 0, locals := 64 }
theorem heJ0_charAt_5068e : yJ0_charAt_5068e.cls ≠ "java/lang/invoke/MethodHandle" ∧ yJ0_charAt_5068e.cls ≠ "java/lang/invoke/VarHandle" ∧ (parseMethodDescriptor yJ0_charAt_5068e.desc).map (fun d => d.parameters.length) = some 1 := by decide +kernel
theorem hdJ0_charAt_5068e : yJ0_charAt_5068e.cls = RJ0 ∧ yJ0_charAt_5068e.cls ≠ "java/lang/invoke/MethodHandle" ∧ yJ0_charAt_5068e.cls ≠ "java/lang/invoke/VarHandle" ∧ (parseMethodDescriptor yJ0_charAt_5068e.desc).map (fun d => d.parameters.length) = some 1 := heJ0_charAt_5068e |> fun h => ⟨rfl, h⟩
set_option maxHeartbeats 4000000 in
set_option maxRecDepth 100000 in
theorem cJ0_charAt_5068eM (l : Launch) (D : va_G) (cy : Nat → ClassId) (za zv : Nat → Nat) (sz : Nat) (w : Nat) (hw : w < 39) (i : Int32) : ∀ K : Int32 → Prop, Ok (fJ0_charAt_5068e i w) K → Met l yJ0_charAt_5068e wsJ0_charAt_5068e rmJ0_charAt_5068e (va_Pc [.ref (za w), .int i] (kPreZ D cy za zv sz [])) (va_Qi (fun r (_ : Unit) => K r) (fun _ => kPost D (va_A [] sz) []) (va_A [] sz)) 0 0 (va_A [] sz) := by
  intro K h1
  refine Met.ofW (cc := cJ0_charAt_5068e) (maxL := 2) (ret := (some .char)) (by decide) rfl ?_
  intro p e s m args below meth c s₁ B hml hv
  obtain ⟨rfl, ⟨hsz, hP, hK, hD0⟩, hZ⟩ := hv
  subst hsz
  have hx := B.exec
  have hb := B.bytes
  have hr := B.returns
  have hts := atoms_spec (ws := wsJ0_charAt_5068e) B.pre
  have hown : s.vm.findClass RJ0 = some m.cls := findClass_of_methodNamed B.named
  have hlocks := B.notSynchronized
  have hA : ∀ q, s.heap.size ≤ q → va_A [] s.heap.size q := fun q h => Or.inr h
  have hS : va_S (va_A [] s.heap.size) s.heap s.heap [] := va_S.rf
  have hD : va_D (va_A [] s.heap.size) [] := hD0.self
  have hl := lv_entry ([.ref (za w), .int i]) (n := 2) (Nat.le_of_ble_eq_true rfl)
  rw [lg_entry_eq]
  generalize (lg_sl ([.ref (za w), .int i]) ++ List.replicate (2 - (lg_sl ([.ref (za w), .int i])).length) Slot.unset).toArray = ls at hl ⊢
  have hl : lv_has ls 2 [(0, .ref (za w)), (1, .int i)] := hl
  refine lv_aload_n hx hb dJ0_charAt_5068e_0 rfl (lv_at hl 0 rfl) ?_
  have h2 : Ok (bnd (some (1 : Int32)) (fun r => if r = 1 then fJ0_charAt_5068e i w else none)) K := h1
  refine kz_str (As := []) (rest := []) h2 ⟨hx, hb, hml, hown, hts⟩ hw (cJ0_isLatin1_aae02M l D cy za zv s.heap.size w hw) (cwV 0 hts gJ0_charAt_5068e_J0_isLatin1_aae02 rfl rfl rfl hdJ0_isLatin1_aae02 ⟨Nat.le_of_ble_eq_true rfl, Nat.le_of_ble_eq_true rfl⟩) hZ hK hP hD hS hA rfl hl.1 rfl (Nat.le_of_ble_eq_true rfl) dJ0_charAt_5068e_1 ⟨Nat.zero_le _, Nat.zero_le _⟩ (fun r H locs h3 hP hS => ?_)
  have hr0 : r = 1 := by
    rcases Classical.em (r = 1) with q | q
    · exact q
    · exact (Ok.neg q h3).no
  subst hr0
  refine lv_if_eq (tgt := 16) hx hb dJ0_charAt_5068e_4 (by decide) (fun c => absurd c (by decide)) (fun _ => ?_)
  refine lv_aload_n hx hb dJ0_charAt_5068e_7 rfl (lv_at hl 0 rfl) ?_
  refine vk_getf hx hb (zst_value hZ hw) hS hown (hts _ (List.mem_of_getElem? (i := 1) rfl)) (fun _ h => h) dJ0_charAt_5068e_8 ?_
  refine lv_iload_n hx hb dJ0_charAt_5068e_11 rfl (lv_at hl 1 rfl) ?_
  have g4 := (zch hw h1.grd1).2
  refine va_calli (va_runS (As := [.ref (zv w), .int i]) (rest := []) ⟨hx, hb, hml, hown, hts⟩ (cJ1_charAt_3b067M l D cy za zv H.size w hw i (fun r => r = (zB w).getD (ix i) 0 ∧ K r) (by
    have g := (h1 : Ok (fJ0_charAt_5068e i w) K).grd1
    obtain ⟨a, e, k⟩ := h1
    refine ⟨a, e, ?_, k⟩
    have e2 : fJ0_charAt_5068e i w = some ((zB w).getD (ix i) 0) := by rw [fJ0_charAt_5068e, g]; rfl
    rw [e2] at e
    exact (Option.some.inj e).symm)) (va_cwS 2 hts gJ0_charAt_5068e_J1_charAt_3b067 rfl rfl rfl heJ1_charAt_3b067 ⟨Nat.le_of_ble_eq_true rfl, Nat.le_of_ble_eq_true rfl⟩) (k_preSZ hZ hS (k_free (wc := []) (wr := []) (List.Perm.refl _) hD hS hA) hK hP hD) rfl rfl hl.1 rfl (lv_room (Nat.le_of_ble_eq_true rfl)) dJ0_charAt_5068e_12 ⟨Nat.zero_le _, Nat.zero_le _⟩) hS (fun q _ h => k_free (wc := []) (wr := []) (List.Perm.refl _) hD hS hA q h) (fun q h => k_free (wc := []) (wr := []) (List.Perm.refl _) hD hS hA q h) (fun r u t H1 locs1 ht hvm hw2 hB hz1 hk1 hS1 => ?_)
  obtain ⟨e, hw3⟩ := hw2
  subst e
  exact kret_rz hx hb hr g4 hlocks (fun k q h => by simp at h) hD hS1 ⟨_, rfl, hw3⟩ dJ0_charAt_5068e_15
