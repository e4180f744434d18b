/-! BASE: programs that may fail (Option), guards, loops with fuel; worlds by permutation; calls that keep the rest of the world -/
def Ok {α : Type} (o : Option α) (K : α → Prop) : Prop := ∃ a, o = some a ∧ K a
theorem Ok.no {α : Type} {K : α → Prop} {P : Prop} (h : Ok (none : Option α) K) : P := by
  obtain ⟨a, h, _⟩ := h
  cases h
theorem Ok.ret {α : Type} {a : α} {K : α → Prop} (h : Ok (some a) K) : K a := by
  obtain ⟨b, h, k⟩ := h
  cases h
  exact k
theorem Ok.pos {α : Type} {c : Prop} [Decidable c] {x y : Option α} {K : α → Prop} (hc : c) (h : Ok (if c then x else y) K) : Ok x K := by
  rw [if_pos hc] at h
  exact h
theorem Ok.neg {α : Type} {c : Prop} [Decidable c] {x y : Option α} {K : α → Prop} (hc : ¬ c) (h : Ok (if c then x else y) K) : Ok y K := by
  rw [if_neg hc] at h
  exact h
def grd {α : Type} (b : Bool) (x : Option α) : Option α := match b with
  | true => x
  | false => none
theorem Ok.grd1 {α : Type} {b : Bool} {x : Option α} {K : α → Prop} (h : Ok (grd b x) K) : b = true := by
  cases b
  · exact Ok.no h
  · rfl
theorem Ok.grd2 {α : Type} {b : Bool} {x : Option α} {K : α → Prop} (h : Ok (grd b x) K) : Ok x K := by
  cases b
  · exact Ok.no h
  · exact h
def bnd {α β : Type} (o : Option α) (f : α → Option β) : Option β := match o with
  | none => none
  | some a => f a
def bnd2 {α β γ : Type} (o : Option (α × β)) (f : α → β → Option γ) : Option γ := match o with
  | none => none
  | some q => f q.1 q.2
theorem Ok.bnd {α β : Type} {o : Option α} {f : α → Option β} {K : β → Prop} (h : Ok (bnd o f) K) : Ok o (fun a => Ok (f a) K) := by
  cases o with
  | none => exact Ok.no h
  | some a => exact ⟨a, rfl, h⟩
theorem Ok.bnd2 {α β γ : Type} {o : Option (α × β)} {f : α → β → Option γ} {K : γ → Prop} (h : Ok (bnd2 o f) K) : Ok o (fun q => Ok (f q.1 q.2) K) := by
  cases o with
  | none => exact Ok.no h
  | some a => exact ⟨a, rfl, h⟩
/-- a loop: its body says what follows, given what the loop's head does next; fuel n -/
def lop {σ R : Type} (body : (σ → Option R) → σ → Option R) : Nat → σ → Option R
  | 0, _ => none
  | n + 1, s => body (lop body n) s
/-- the fuel of every loop -/
def LF : Nat := 5000
/-- an index that is in range -/
def inb (i : Int32) (n : Nat) : Bool := decide (0 ≤ i.toInt) && decide (i.toInt < n)
def ix (i : Int32) : Nat := i.toNatClampNeg
theorem inb_vp {i : Int32} {n : Nat} (h : inb i n = true) : vp_in i n := by
  rw [inb, Bool.and_eq_true, decide_eq_true_eq, decide_eq_true_eq] at h
  exact vp_in_iff.mpr h
def nz (y : Int32) : Bool := !decide (y = 0)
theorem nz_ne {y : Int32} (h : nz y = true) : ¬ y = 0 := by
  intro q
  subst q
  revert h
  decide
-- worlds
theorem kP_iff {D : va_G} {cl : List vw_C} {ws : va_W} {H : Heap} : va_P D cl ws H ↔ ∀ q ∈ ws, va_at D cl q H := by
  refine ⟨fun h q hq => ?_, fun h k q hk => h q (List.mem_of_getElem? hk)⟩
  obtain ⟨i, hi⟩ := List.getElem?_of_mem hq
  exact h i q hi
theorem kD_nd : ∀ (ws : va_W), (∀ (i j : Nat) (p q : Nat × va_E), ws[i]? = some p → ws[j]? = some q → p.1 = q.1 → i = j) ↔ (ws.map Prod.fst).Nodup
  | [] => by simp
  | x :: ws => by
    rw [List.map_cons, List.nodup_cons, ← kD_nd ws]
    refine ⟨fun h => ⟨fun hm => ?_, fun i j p q hi hj e => ?_⟩, fun h i j p q hi hj e => ?_⟩
    · obtain ⟨y, hy, e⟩ := List.mem_map.mp hm
      obtain ⟨i, hi⟩ := List.getElem?_of_mem hy
      have := h (i + 1) 0 y x (by simpa using hi) (by simp) e
      omega
    · have := h (i + 1) (j + 1) p q (by simpa using hi) (by simpa using hj) e
      omega
    · cases i with
      | zero =>
        cases j with
        | zero => rfl
        | succ j =>
          exfalso
          have hx : x = p := by simpa using hi
          have hj' : ws[j]? = some q := by simpa using hj
          exact h.1 (List.mem_map.mpr ⟨q, List.mem_of_getElem? hj', by rw [hx]; exact e.symm⟩)
      | succ i =>
        cases j with
        | zero =>
          exfalso
          have hx : x = q := by simpa using hj
          have hi' : ws[i]? = some p := by simpa using hi
          exact h.1 (List.mem_map.mpr ⟨p, List.mem_of_getElem? hi', by rw [hx]; exact e⟩)
        | succ j =>
          have := h.2 i j p q (by simpa using hi) (by simpa using hj) e
          omega
theorem kD_iff {A : Nat → Prop} {ws : va_W} : va_D A ws ↔ (ws.map Prod.fst).Nodup ∧ ∀ q ∈ ws, A q.1 := by
  refine ⟨fun h => ⟨(kD_nd ws).mp h.1, fun q hq => ?_⟩, fun h => ⟨(kD_nd ws).mpr h.1, fun k q hk => h.2 q (List.mem_of_getElem? hk)⟩⟩
  obtain ⟨i, hi⟩ := List.getElem?_of_mem hq
  exact h.2 i q hi
theorem kP_perm {D : va_G} {cl : List vw_C} {ws ws' : va_W} {H : Heap} (hp : ws.Perm ws') (h : va_P D cl ws H) : va_P D cl ws' H := kP_iff.mpr fun q hq => kP_iff.mp h q (hp.mem_iff.mpr hq)
theorem kD_perm {A : Nat → Prop} {ws ws' : va_W} (hp : ws.Perm ws') (h : va_D A ws) : va_D A ws' := by
  have := kD_iff.mp h
  exact kD_iff.mpr ⟨(hp.map Prod.fst).nodup_iff.mp this.1, fun q hq => this.2 q (hp.mem_iff.mpr hq)⟩
theorem kP_app {D : va_G} {cl : List vw_C} {a b : va_W} {H : Heap} : va_P D cl (a ++ b) H ↔ va_P D cl a H ∧ va_P D cl b H := by
  rw [kP_iff, kP_iff, kP_iff]
  refine ⟨fun h => ⟨fun q hq => h q (List.mem_append_left _ hq), fun q hq => h q (List.mem_append_right _ hq)⟩, fun h q hq => ?_⟩
  rcases List.mem_append.mp hq with q1 | q1
  · exact h.1 q q1
  · exact h.2 q q1
theorem kD_app {A : Nat → Prop} {a b : va_W} (h : va_D A (a ++ b)) : va_D A a ∧ va_D A b := by
  have h := kD_iff.mp h
  rw [List.map_append] at h
  refine ⟨kD_iff.mpr ⟨(List.nodup_append.mp h.1).1, fun q hq => h.2 q (List.mem_append_left _ hq)⟩, kD_iff.mpr ⟨(List.nodup_append.mp h.1).2.1, fun q hq => h.2 q (List.mem_append_right _ hq)⟩⟩
theorem kA_iff {ws : va_W} {sz q : Nat} : va_A ws sz q ↔ q ∈ ws.map Prod.fst ∨ sz ≤ q := by
  unfold va_A
  refine or_congr ⟨fun h => ?_, fun h => ?_⟩ Iff.rfl
  · obtain ⟨k, e, h⟩ := h
    exact List.mem_map.mpr ⟨_, List.mem_of_getElem? h, rfl⟩
  · obtain ⟨x, hx, e⟩ := List.mem_map.mp h
    obtain ⟨i, hi⟩ := List.getElem?_of_mem hx
    exact ⟨i, x.2, by rw [hi, ← e]⟩
theorem k_free {A0 : Nat → Prop} {ws wc wr : va_W} {H0 H : Heap} {locs : List Loc} (hp : ws.Perm (wc ++ wr)) (hD : va_D A0 ws) (hS : va_S A0 H0 H locs) (hA : ∀ q, H0.size ≤ q → A0 q) : ∀ q, va_A wc H.size q → A0 q := by
  intro q h
  rcases kA_iff.mp h with h | h
  · obtain ⟨x, hx, e⟩ := List.mem_map.mp h
    rw [← e]
    exact (kD_iff.mp hD).2 x (hp.mem_iff.mpr (List.mem_append_left _ hx))
  · exact hA q (Nat.le_trans hS.1 h)
theorem k_join {A0 : Nat → Prop} {D : va_G} {cl : List vw_C} {ws wc wr w1 : va_W} {H H1 : Heap} (hp : ws.Perm (wc ++ wr)) (hP : va_P D cl ws H) (hD : va_D A0 ws)
    (hk : ∀ q : Nat, q < H.size → ¬ va_A wc H.size q → H1[q]? = H[q]?) (hF : ∀ q, va_A wc H.size q → A0 q) (hP1 : va_P D cl w1 H1) (hD1 : va_D (va_A wc H.size) w1) : va_P D cl (w1 ++ wr) H1 ∧ va_D A0 (w1 ++ wr) := by
  have hP' := kP_app.mp (kP_perm hp hP)
  have hD' := kD_perm hp hD
  have nd := (kD_iff.mp hD').1
  rw [List.map_append] at nd
  have nd := List.nodup_append.mp nd
  have apart : ∀ q ∈ wr, q.1 < H.size ∧ ¬ va_A wc H.size q.1 := by
    intro q hq
    have hl := (kP_iff.mp hP'.2 q hq).lt
    refine ⟨hl, fun h => ?_⟩
    rcases kA_iff.mp h with h | h
    · exact nd.2.2 _ h _ (List.mem_map.mpr ⟨q, hq, rfl⟩) rfl
    · omega
  refine ⟨kP_app.mpr ⟨hP1, kP_iff.mpr fun q hq => ?_⟩, kD_iff.mpr ⟨?_, fun q hq => ?_⟩⟩
  · obtain ⟨g1, g2⟩ := apart q hq
    exact (kP_iff.mp hP'.2 q hq).kept (hk q.1 g1 g2)
  · rw [List.map_append, List.nodup_append]
    refine ⟨(kD_iff.mp hD1).1, nd.2.1, fun x hx y hy e => ?_⟩
    subst e
    obtain ⟨q, hq, rfl⟩ := List.mem_map.mp hy
    obtain ⟨r, hr, e⟩ := List.mem_map.mp hx
    refine (apart q hq).2 ?_
    rw [← e]
    exact (kD_iff.mp hD1).2 r hr
  · rcases List.mem_append.mp hq with h | h
    · exact hF _ ((kD_iff.mp hD1).2 q h)
    · exact (kD_iff.mp hD).2 q (hp.mem_iff.mpr (List.mem_append_right _ h))
/-- the classes of this claim's objects -/
abbrev kCl : List vw_C := [(RX4, TX4, 3), (RX6, TX6, 11), (RX8, TX8, 13), (RX9, TX9, 9), (RL, TL, 4), (RJ4, TJ4, 4), (RJ0, TJ0, 4)]
/-- the launch's array classes: of int, of boolean, of State, of byte -/
abbrev kTys (cy : Nat → ClassId) : List (ClassId × FieldType) := [(cy 0, .int), (cy 1, .boolean), (cy 2, .object "FerryRamp$State"), (cy 3, .byte)]
/-- nest mates' links -/
def mN (U : State) : Prop := va_Nw (.methodLinkNest "FerryRamp$State" 88 yX9_gap "FerryRamp") U ∧ va_Nw (.methodLinkNest "FerryRamp$State" 98 yX9_at "FerryRamp") U ∧ va_Nw (.methodLinkNest "FerryRamp$Parser" 48 yX9_at "FerryRamp") U ∧
  va_Nw (.methodLinkNest "FerryRamp" 9 yX8_init "FerryRamp") U ∧ va_Nw (.methodLinkNest "FerryRamp" 36 yX6_init "FerryRamp") U ∧ va_Nw (.methodLinkNest "FerryRamp$History" 24 yX8_init "FerryRamp") U
theorem mN.warm {s U : State} (hW : s.WarmedH U.vm) (h : mN s) : mN U := ⟨va_Nw.warmM hW h.1, va_Nw.warmM hW h.2.1, va_Nw.warmM hW h.2.2.1, va_Nw.warmM hW h.2.2.2.1, va_Nw.warmM hW h.2.2.2.2.1, va_Nw.warmM hW h.2.2.2.2.2⟩
theorem mN.same {u U : State} (e : u.vm = U.vm) (h : mN u) : mN U := ⟨va_Nw.same rfl e h.1, va_Nw.same rfl e h.2.1, va_Nw.same rfl e h.2.2.1, va_Nw.same rfl e h.2.2.2.1, va_Nw.same rfl e h.2.2.2.2.1, va_Nw.same rfl e h.2.2.2.2.2⟩
def mK (D : va_G) (cy : Nat → ClassId) (U : State) : Prop := va_K D kCl (kTys cy) U ∧ mN U
theorem mK.warm {D : va_G} {cy : Nat → ClassId} {s U : State} (hW : s.WarmedH U.vm) (h : mK D cy s) : mK D cy U := ⟨va_K.moved hW.alike h.1, h.2.warm hW⟩
theorem mK.calling {D : va_G} {cy : Nat → ClassId} {U : State} {g : JFrame} {mk : MethodId} {a : Array Value} (h : mK D cy U) : mK D cy (U.calling g mk a) := ⟨va_K.moved (u := U) (U := U.calling g mk a) (Vm.Alike.refl U.vm) h.1, h.2.same rfl⟩
/-- a method's start, and its end, over a world -/
def kPre (D : va_G) (cy : Nat → ClassId) (sz : Nat) (ws : va_W) (U : State) : Prop := U.heap.size = sz ∧ va_P D kCl ws U.heap ∧ mK D cy U ∧ va_D (fun _ => True) ws
def kPost (D : va_G) (A : Nat → Prop) (ws : va_W) (t : State) : Prop := va_P D kCl ws t.heap ∧ va_D A ws
section KC
variable {p : Program} {l : Launch} {e : Env} {R : Room} {s : State} {m : MethodId} {args : Array Value} {below : List Frame} {meth : Method} {c : Code} {H H0 : Heap} {locs : List Loc} {cells slots : Nat} {Q : State → Prop}
variable {Ts wy : List Cond} {cc bytes : ByteArray} {nL maxL index n q0 ci N mc ms pc : Nat} {own C host : String} {T : u_T} {y : MethodName} {ret : Option FieldType} {rm : Room} {b : Addr} {As rest st : List Value} {fs : List Value} {ls : Array Slot}
variable {D : va_G} {cy : Nat → ClassId} {ws wc wr : va_W} {A : Nat → Prop} {S γ : Type} {mk : S → va_W} {K0 : γ → Prop}
theorem k_preV (hK : mK D cy s) (hP : va_P D kCl wc H) (hD : va_D A wc) (hrec : wc[q0]? = some (b, .inr (ci, fs))) (hci : kCl[ci]? = some (C, T, N)) : PreV s H C b (va_Pc (.ref b :: As) (kPre D cy H.size wc)) As := by
  refine ⟨fun a U g mk q => ?_, va_recv hK.1 hP (ci := ci) (q0 := q0) hci hrec, fun U hU hW => ⟨rfl, by rw [hU], by rw [hU]; exact hP, hK.warm hW, hD.weaken (fun _ _ _ _ => trivial)⟩⟩
  obtain ⟨h0, h1, h2, h3, h4⟩ := q
  exact ⟨h0, h1, h2, h3.calling, h4⟩
theorem k_preS (hK : mK D cy s) (hP : va_P D kCl wc H) (hD : va_D A wc) : PreS s H (va_Pc As (kPre D cy H.size wc)) As := by
  refine ⟨fun a U g mk q => ?_, fun U hU hW => ⟨rfl, by rw [hU], by rw [hU]; exact hP, hK.warm hW, hD.weaken (fun _ _ _ _ => trivial)⟩⟩
  obtain ⟨h0, h1, h2, h3, h4⟩ := q
  exact ⟨h0, h1, h2, h3.calling, h4⟩
/-- behind a call that answers an int and leaves a new world -/
theorem kj_i {o : Option (Int32 × S)} {f : Int32 → S → Option γ} (h : Ok (bnd2 o f) K0)
    (hr : va_Run p l e R s m args below meth c H locs cells slots mc ms (F0 m pc ls st) rest (va_Qi (fun r u => Ok (f r u) K0) (fun u => kPost D (va_A wc H.size) (mk u)) (va_A wc H.size) As.toArray) (va_A wc H.size))
    (hp : ws.Perm (wc ++ wr)) (hP : va_P D kCl ws H) (hD : va_D A ws) (hS : va_S A H0 H locs) (hA : ∀ q, H0.size ≤ q → A q)
    (kk : ∀ (r : Int32) (u : S) (H1 : Heap) (locs1 : List Loc), Ok (f r u) K0 → va_P D kCl (mk u ++ wr) H1 → va_D A (mk u ++ wr) → va_S A H0 H1 locs1 → W p l e R s m args below meth c H1 locs1 (cells + mc) (slots + ms) Q (F0 m (pc + 3) ls (.int r :: rest))) :
    W p l e R s m args below meth c H locs cells slots Q (F0 m pc ls st) := by
  have hF := k_free hp hD hS hA
  refine va_calli hr hS (fun q _ h => hF q h) hF (fun r u t H1 locs1 ht hvm hw hB hz1 hk1 hS1 => ?_)
  obtain ⟨hP1, hD1⟩ := hB
  rw [ht] at hP1
  obtain ⟨hP2, hD2⟩ := k_join hp hP hD hk1 hF hP1 hD1
  exact kk r u H1 locs1 hw hP2 hD2 hS1
/-- .. that answers nothing -/
theorem kj_v {o : Option S} {f : S → Option γ} (h : Ok (bnd o f) K0)
    (hr : va_Run p l e R s m args below meth c H locs cells slots mc ms (F0 m pc ls st) rest (va_Qv (fun u => Ok (f u) K0) (fun u => kPost D (va_A wc H.size) (mk u)) (va_A wc H.size) As.toArray) (va_A wc H.size))
    (hp : ws.Perm (wc ++ wr)) (hP : va_P D kCl ws H) (hD : va_D A ws) (hS : va_S A H0 H locs) (hA : ∀ q, H0.size ≤ q → A q)
    (kk : ∀ (u : S) (H1 : Heap) (locs1 : List Loc), Ok (f u) K0 → va_P D kCl (mk u ++ wr) H1 → va_D A (mk u ++ wr) → va_S A H0 H1 locs1 → W p l e R s m args below meth c H1 locs1 (cells + mc) (slots + ms) Q (F0 m (pc + 3) ls rest)) :
    W p l e R s m args below meth c H locs cells slots Q (F0 m pc ls st) := by
  have hF := k_free hp hD hS hA
  refine va_callv hr hS (fun q _ h => hF q h) hF (fun u t H1 locs1 ht hvm hw hB hz1 hk1 hS1 => ?_)
  obtain ⟨hP1, hD1⟩ := hB
  rw [ht] at hP1
  obtain ⟨hP2, hD2⟩ := k_join hp hP hD hk1 hF hP1 hD1
  exact kk u H1 locs1 hw hP2 hD2 hS1
/-- .. that reads alone -/
theorem kj_r {o : Option Int32} {f : Int32 → Option γ} (h : Ok (bnd o f) K0)
    (hr : va_Run p l e R s m args below meth c H locs cells slots 0 0 (F0 m pc ls st) rest (va_Qi (fun r (_ : Unit) => Ok (f r) K0) (fun _ => kPost D (va_A wc H.size) wc) (va_A wc H.size) As.toArray) (va_A wc H.size))
    (hp : ws.Perm (wc ++ wr)) (hP : va_P D kCl ws H) (hD : va_D A ws) (hS : va_S A H0 H locs) (hA : ∀ q, H0.size ≤ q → A q)
    (kk : ∀ (r : Int32) (H1 : Heap) (locs1 : List Loc), Ok (f r) K0 → va_P D kCl ws H1 → va_S A H0 H1 locs1 → W p l e R s m args below meth c H1 locs1 cells slots Q (F0 m (pc + 3) ls (.int r :: rest))) :
    W p l e R s m args below meth c H locs cells slots Q (F0 m pc ls st) := by
  have hF := k_free hp hD hS hA
  refine va_calli hr hS (fun q _ h => hF q h) hF (fun r u t H1 locs1 ht hvm hw hB hz1 hk1 hS1 => ?_)
  obtain ⟨hP1, hD1⟩ := hB
  rw [ht] at hP1
  obtain ⟨hP2, hD2⟩ := k_join hp hP hD hk1 hF hP1 hD1
  exact kk r H1 locs1 hw (kP_perm hp.symm hP2) hS1
/-- the three of a method of an object of the world's -/
theorem kc_iV {o : Option (Int32 × S)} {f : Int32 → S → Option γ} (h : Ok (bnd2 o f) K0) (CF : CallFix p m c cc nL s args Ts own)
    (hM : ∀ K : Int32 → S → Prop, Ok o (fun q => K q.1 q.2) → Met l y wy rm (va_Pc (.ref b :: As) (kPre D cy H.size wc)) (va_Qi K (fun u => kPost D (va_A wc H.size) (mk u)) (va_A wc H.size)) 0 0 (va_A wc H.size))
    (cw : CallW R s args own C index y bytes maxL ret wy rm 0 0 n) (hK : mK D cy s) (hp : ws.Perm (wc ++ wr)) (hP : va_P D kCl ws H) (hD : va_D A ws) (hS : va_S A H0 H locs) (hA : ∀ q, H0.size ≤ q → A q)
    (hrec : wc[q0]? = some (b, .inr (ci, fs))) (hci : kCl[ci]? = some (C, T, N)) (hn : As.length = n) (hl : ls.size = nL) (hst : st = As.reverse ++ .ref b :: rest) (hw : (rest.map fun v => v.category).sum ≤ 8) (hdg : decode cc pc = .ok (.invokevirtual index, 3)) (hf : cells ≤ R.cells ∧ slots ≤ R.slots)
    (kk : ∀ (r : Int32) (u : S) (H1 : Heap) (locs1 : List Loc), Ok (f r u) K0 → va_P D kCl (mk u ++ wr) H1 → va_D A (mk u ++ wr) → va_S A H0 H1 locs1 → W p l e R s m args below meth c H1 locs1 cells slots Q (F0 m (pc + 3) ls (.int r :: rest))) :
    W p l e R s m args below meth c H locs cells slots Q (F0 m pc ls st) := by
  have hP' := kP_app.mp (kP_perm hp hP)
  have hD' := kD_app (kD_perm hp hD)
  exact kj_i (As := .ref b :: As) (mc := 0) (ms := 0) h (va_runV CF (hM (fun r u => Ok (f r u) K0) h.bnd2) cw (k_preV hK hP'.1 hD'.1 hrec hci) rfl hn hl hst (lv_room hw) hdg hf) hp hP hD hS hA kk
theorem kc_vV {o : Option S} {f : S → Option γ} (h : Ok (bnd o f) K0) (CF : CallFix p m c cc nL s args Ts own)
    (hM : ∀ K : S → Prop, Ok o K → Met l y wy rm (va_Pc (.ref b :: As) (kPre D cy H.size wc)) (va_Qv K (fun u => kPost D (va_A wc H.size) (mk u)) (va_A wc H.size)) 0 0 (va_A wc H.size))
    (cw : CallW R s args own C index y bytes maxL ret wy rm 0 0 n) (hK : mK D cy s) (hp : ws.Perm (wc ++ wr)) (hP : va_P D kCl ws H) (hD : va_D A ws) (hS : va_S A H0 H locs) (hA : ∀ q, H0.size ≤ q → A q)
    (hrec : wc[q0]? = some (b, .inr (ci, fs))) (hci : kCl[ci]? = some (C, T, N)) (hn : As.length = n) (hl : ls.size = nL) (hst : st = As.reverse ++ .ref b :: rest) (hw : (rest.map fun v => v.category).sum ≤ 8) (hdg : decode cc pc = .ok (.invokevirtual index, 3)) (hf : cells ≤ R.cells ∧ slots ≤ R.slots)
    (kk : ∀ (u : S) (H1 : Heap) (locs1 : List Loc), Ok (f u) K0 → va_P D kCl (mk u ++ wr) H1 → va_D A (mk u ++ wr) → va_S A H0 H1 locs1 → W p l e R s m args below meth c H1 locs1 cells slots Q (F0 m (pc + 3) ls rest)) :
    W p l e R s m args below meth c H locs cells slots Q (F0 m pc ls st) := by
  have hP' := kP_app.mp (kP_perm hp hP)
  have hD' := kD_app (kD_perm hp hD)
  exact kj_v (As := .ref b :: As) (mc := 0) (ms := 0) h (va_runV CF (hM (fun u => Ok (f u) K0) h.bnd) cw (k_preV hK hP'.1 hD'.1 hrec hci) rfl hn hl hst (lv_room hw) hdg hf) hp hP hD hS hA kk
theorem kc_rV {o : Option Int32} {f : Int32 → Option γ} (h : Ok (bnd o f) K0) (CF : CallFix p m c cc nL s args Ts own)
    (hM : ∀ K : Int32 → Prop, Ok o K → Met l y wy rm (va_Pc (.ref b :: As) (kPre D cy H.size wc)) (va_Qi (fun r (_ : Unit) => K r) (fun _ => kPost D (va_A wc H.size) wc) (va_A wc H.size)) 0 0 (va_A wc H.size))
    (cw : CallW R s args own C index y bytes maxL ret wy rm 0 0 n) (hK : mK D cy s) (hp : ws.Perm (wc ++ wr)) (hP : va_P D kCl ws H) (hD : va_D A ws) (hS : va_S A H0 H locs) (hA : ∀ q, H0.size ≤ q → A q)
    (hrec : wc[q0]? = some (b, .inr (ci, fs))) (hci : kCl[ci]? = some (C, T, N)) (hn : As.length = n) (hl : ls.size = nL) (hst : st = As.reverse ++ .ref b :: rest) (hw : (rest.map fun v => v.category).sum ≤ 8) (hdg : decode cc pc = .ok (.invokevirtual index, 3)) (hf : cells ≤ R.cells ∧ slots ≤ R.slots)
    (kk : ∀ (r : Int32) (H1 : Heap) (locs1 : List Loc), Ok (f r) K0 → va_P D kCl ws H1 → va_S A H0 H1 locs1 → W p l e R s m args below meth c H1 locs1 cells slots Q (F0 m (pc + 3) ls (.int r :: rest))) :
    W p l e R s m args below meth c H locs cells slots Q (F0 m pc ls st) := by
  have hP' := kP_app.mp (kP_perm hp hP)
  have hD' := kD_app (kD_perm hp hD)
  exact kj_r (As := .ref b :: As) h (va_runV CF (hM (fun r => Ok (f r) K0) h.bnd) cw (k_preV hK hP'.1 hD'.1 hrec hci) rfl hn hl hst (lv_room hw) hdg hf) hp hP hD hS hA kk
/-- .. over the whole of the world at hand -/
theorem kc_iV0 {o : Option (Int32 × S)} {f : Int32 → S → Option γ} (h : Ok (bnd2 o f) K0) (CF : CallFix p m c cc nL s args Ts own)
    (hM : ∀ K : Int32 → S → Prop, Ok o (fun q => K q.1 q.2) → Met l y wy rm (va_Pc (.ref b :: As) (kPre D cy H.size wc)) (va_Qi K (fun u => kPost D (va_A wc H.size) (mk u)) (va_A wc H.size)) 0 0 (va_A wc H.size))
    (cw : CallW R s args own C index y bytes maxL ret wy rm 0 0 n) (hK : mK D cy s) (hP : va_P D kCl wc H) (hD : va_D A wc) (hS : va_S A H0 H locs) (hA : ∀ q, H0.size ≤ q → A q)
    (hrec : wc[q0]? = some (b, .inr (ci, fs))) (hci : kCl[ci]? = some (C, T, N)) (hn : As.length = n) (hl : ls.size = nL) (hst : st = As.reverse ++ .ref b :: rest) (hw : (rest.map fun v => v.category).sum ≤ 8) (hdg : decode cc pc = .ok (.invokevirtual index, 3)) (hf : cells ≤ R.cells ∧ slots ≤ R.slots)
    (kk : ∀ (r : Int32) (u : S) (H1 : Heap) (locs1 : List Loc), Ok (f r u) K0 → va_P D kCl (mk u) H1 → va_D A (mk u) → va_S A H0 H1 locs1 → W p l e R s m args below meth c H1 locs1 cells slots Q (F0 m (pc + 3) ls (.int r :: rest))) :
    W p l e R s m args below meth c H locs cells slots Q (F0 m pc ls st) :=
  kc_iV (wr := []) h CF hM cw hK (by rw [List.append_nil]) hP hD hS hA hrec hci hn hl hst hw hdg hf (fun r u H1 locs1 h1 h2 h3 h4 => kk r u H1 locs1 h1 (by rw [List.append_nil] at h2; exact h2) (by rw [List.append_nil] at h3; exact h3) h4)
theorem kc_vV0 {o : Option S} {f : S → Option γ} (h : Ok (bnd o f) K0) (CF : CallFix p m c cc nL s args Ts own)
    (hM : ∀ K : S → Prop, Ok o K → Met l y wy rm (va_Pc (.ref b :: As) (kPre D cy H.size wc)) (va_Qv K (fun u => kPost D (va_A wc H.size) (mk u)) (va_A wc H.size)) 0 0 (va_A wc H.size))
    (cw : CallW R s args own C index y bytes maxL ret wy rm 0 0 n) (hK : mK D cy s) (hP : va_P D kCl wc H) (hD : va_D A wc) (hS : va_S A H0 H locs) (hA : ∀ q, H0.size ≤ q → A q)
    (hrec : wc[q0]? = some (b, .inr (ci, fs))) (hci : kCl[ci]? = some (C, T, N)) (hn : As.length = n) (hl : ls.size = nL) (hst : st = As.reverse ++ .ref b :: rest) (hw : (rest.map fun v => v.category).sum ≤ 8) (hdg : decode cc pc = .ok (.invokevirtual index, 3)) (hf : cells ≤ R.cells ∧ slots ≤ R.slots)
    (kk : ∀ (u : S) (H1 : Heap) (locs1 : List Loc), Ok (f u) K0 → va_P D kCl (mk u) H1 → va_D A (mk u) → va_S A H0 H1 locs1 → W p l e R s m args below meth c H1 locs1 cells slots Q (F0 m (pc + 3) ls rest)) :
    W p l e R s m args below meth c H locs cells slots Q (F0 m pc ls st) :=
  kc_vV (wr := []) h CF hM cw hK (by rw [List.append_nil]) hP hD hS hA hrec hci hn hl hst hw hdg hf (fun u H1 locs1 h1 h2 h3 h4 => kk u H1 locs1 h1 (by rw [List.append_nil] at h2; exact h2) (by rw [List.append_nil] at h3; exact h3) h4)
theorem kc_rV0 {o : Option Int32} {f : Int32 → Option γ} (h : Ok (bnd o f) K0) (CF : CallFix p m c cc nL s args Ts own)
    (hM : ∀ K : Int32 → Prop, Ok o K → Met l y wy rm (va_Pc (.ref b :: As) (kPre D cy H.size wc)) (va_Qi (fun r (_ : Unit) => K r) (fun _ => kPost D (va_A wc H.size) wc) (va_A wc H.size)) 0 0 (va_A wc H.size))
    (cw : CallW R s args own C index y bytes maxL ret wy rm 0 0 n) (hK : mK D cy s) (hP : va_P D kCl wc H) (hD : va_D A wc) (hS : va_S A H0 H locs) (hA : ∀ q, H0.size ≤ q → A q)
    (hrec : wc[q0]? = some (b, .inr (ci, fs))) (hci : kCl[ci]? = some (C, T, N)) (hn : As.length = n) (hl : ls.size = nL) (hst : st = As.reverse ++ .ref b :: rest) (hw : (rest.map fun v => v.category).sum ≤ 8) (hdg : decode cc pc = .ok (.invokevirtual index, 3)) (hf : cells ≤ R.cells ∧ slots ≤ R.slots)
    (kk : ∀ (r : Int32) (H1 : Heap) (locs1 : List Loc), Ok (f r) K0 → va_P D kCl wc H1 → va_S A H0 H1 locs1 → W p l e R s m args below meth c H1 locs1 cells slots Q (F0 m (pc + 3) ls (.int r :: rest))) :
    W p l e R s m args below meth c H locs cells slots Q (F0 m pc ls st) :=
  kc_rV (wr := []) h CF hM cw hK (by rw [List.append_nil]) hP hD hS hA hrec hci hn hl hst hw hdg hf kk
/-- a static method of the class itself that reads alone -/
theorem kc_rS {o : Option Int32} {f : Int32 → Option γ} (h : Ok (bnd o f) K0) (CF : CallFix p m c cc nL s args Ts own)
    (hM : ∀ K : Int32 → Prop, Ok o K → Met l y wy rm (va_Pc As (kPre D cy H.size wc)) (va_Qi (fun r (_ : Unit) => K r) (fun _ => kPost D (va_A wc H.size) wc) (va_A wc H.size)) 0 0 (va_A wc H.size))
    (cw : CallB R s args own index y bytes maxL ret wy rm 0 0 n ∧ (Cond.static y).before args s = true) (hK : mK D cy s) (hp : ws.Perm (wc ++ wr)) (hP : va_P D kCl ws H) (hD : va_D A ws) (hS : va_S A H0 H locs) (hA : ∀ q, H0.size ≤ q → A q)
    (hn : As.length = n) (hl : ls.size = nL) (hst : st = As.reverse ++ rest) (hw : (rest.map fun v => v.category).sum ≤ 8) (hdg : decode cc pc = .ok (.invokestatic index, 3)) (hf : cells ≤ R.cells ∧ slots ≤ R.slots)
    (kk : ∀ (r : Int32) (H1 : Heap) (locs1 : List Loc), Ok (f r) K0 → va_P D kCl ws H1 → va_S A H0 H1 locs1 → W p l e R s m args below meth c H1 locs1 cells slots Q (F0 m (pc + 3) ls (.int r :: rest))) :
    W p l e R s m args below meth c H locs cells slots Q (F0 m pc ls st) := by
  have hP' := kP_app.mp (kP_perm hp hP)
  have hD' := kD_app (kD_perm hp hD)
  exact kj_r (As := As) h (va_runS CF (hM (fun r => Ok (f r) K0) h.bnd) cw (k_preS hK hP'.1 hD'.1) rfl hn hl hst (lv_room hw) hdg hf) hp hP hD hS hA kk
/-- .. of a nest mate -/
theorem kc_rSN {o : Option Int32} {f : Int32 → Option γ} (h : Ok (bnd o f) K0) (CF : CallFix p m c cc nL s args Ts own)
    (hM : ∀ K : Int32 → Prop, Ok o K → Met l y wy rm (va_Pc As (kPre D cy H.size wc)) (va_Qi (fun r (_ : Unit) => K r) (fun _ => kPost D (va_A wc H.size) wc) (va_A wc H.size)) 0 0 (va_A wc H.size))
    (cw : va_CN R s args own index y host bytes maxL ret wy rm 0 0 n ∧ (Cond.static y).before args s = true ∧ True) (hK : mK D cy s) (hp : ws.Perm (wc ++ wr)) (hP : va_P D kCl ws H) (hD : va_D A ws) (hS : va_S A H0 H locs) (hA : ∀ q, H0.size ≤ q → A q)
    (hn : As.length = n) (hl : ls.size = nL) (hst : st = As.reverse ++ rest) (hw : (rest.map fun v => v.category).sum ≤ 8) (hdg : decode cc pc = .ok (.invokestatic index, 3)) (hf : cells ≤ R.cells ∧ slots ≤ R.slots)
    (kk : ∀ (r : Int32) (H1 : Heap) (locs1 : List Loc), Ok (f r) K0 → va_P D kCl ws H1 → va_S A H0 H1 locs1 → W p l e R s m args below meth c H1 locs1 cells slots Q (F0 m (pc + 3) ls (.int r :: rest))) :
    W p l e R s m args below meth c H locs cells slots Q (F0 m pc ls st) := by
  have hP' := kP_app.mp (kP_perm hp hP)
  have hD' := kD_app (kD_perm hp hD)
  exact kj_r (As := As) h (va_runSN CF (hM (fun r => Ok (f r) K0) h.bnd) cw (k_preS hK hP'.1 hD'.1) rfl hn hl hst (lv_room hw) hdg hf) hp hP hD hS hA kk
/-- the rows of a walk over a world, with the index as a number -/
theorem k_get (hx : p.tables.exec = Jvm.exec) (hb : c.code = cc) {a : Nat} (hts : ∀ w ∈ Ts, w.before args s = true) (hin : ∀ w ∈ u_ws C T N, w ∈ Ts) (hown : s.vm.findClass own = some m.cls) (hK : mK D cy s) (hP : va_P D kCl ws H) (q0 : Nat) {fs : List Value} (he : ws[q0]? = some (a, .inr (ci, fs))) (hc : kCl[ci]? = some (C, T, N)) (k : Nat) (hk : k < N)
    (hlink : Cond.fieldLink own index (T k).1 (T k).2.1 (T k).2.2.1 ∈ Ts) {v : Value} (hv : fs[k]? = some v) (hdg : decode cc pc = .ok (.getfield index, 3))
    (kk : W p l e R s m args below meth c H locs cells slots Q (F0 m (pc + 3) ls (v :: rest))) : W p l e R s m args below meth c H locs cells slots Q (F0 m pc ls (.ref a :: rest)) :=
  va_get hx hb hts hin hown hK.1 hP q0 he hc k hk (hts _ hlink) (fun _ h => h) hv hdg kk
theorem k_put (hx : p.tables.exec = Jvm.exec) (hb : c.code = cc) {a : Nat} (hts : ∀ w ∈ Ts, w.before args s = true) (hin : ∀ w ∈ u_ws C T N, w ∈ Ts) (ty0 : Nat → FieldType) (hty : ∀ k, k < N → parseFieldDescriptor (T k).2.2.1 = some (ty0 k)) (hnm : ∀ a, a < N → ∀ b, b < N → a ≠ b → (T a).2.1 ≠ (T b).2.1) (hown : s.vm.findClass own = some m.cls) (hK : mK D cy s) (hP : va_P D kCl ws H) (hD : va_D A ws) (hS : va_S A H0 H locs)
    (q0 : Nat) {fs : List Value} (he : ws[q0]? = some (a, .inr (ci, fs))) (hc : kCl[ci]? = some (C, T, N)) (k : Nat) (hk : k < N) (hlink : Cond.fieldLink own index (T k).1 (T k).2.1 (T k).2.2.1 ∈ Ts) (hfin : (T k).2.2.2 = false) {ty : FieldType} {v : Value} (hd : parseFieldDescriptor (T k).2.2.1 = some ty) (hn : narrow ty v = v) (hfit : fits ty v = true) (hl : k < fs.length)
    {ws' : va_W} (hws : ws.set q0 (a, .inr (ci, fs.set k v)) = ws') (hdg : decode cc pc = .ok (.putfield index, 3))
    (kk : ∀ (H1 : Heap) (locs1 : List Loc), va_P D kCl ws' H1 → va_D A ws' → va_S A H0 H1 locs1 → W p l e R s m args below meth c H1 locs1 cells slots Q (F0 m (pc + 3) ls rest)) : W p l e R s m args below meth c H locs cells slots Q (F0 m pc ls (v :: .ref a :: rest)) := by
  subst hws
  exact va_put hx hb hts hin ty0 hty hnm hown hK.1 hP hD hS q0 he hc k hk (hts _ hlink) (fun _ h => h) hfin hd hn hfit hl hdg kk
theorem k_iald (hx : p.tables.exec = Jvm.exec) (hb : c.code = cc) (hK : mK D cy s) (hP : va_P D kCl ws H) (q0 : Nat) {a n : Nat} {f : Nat → Int32} (ha : ws[q0]? = some (a, .inl (cy 0, n, .inl f))) {i : Int32} {k : Nat} (hin : inb i n = true) (hi : ix i = k) (hdg : decode cc pc = .ok (.iaload, 1))
    (kk : W p l e R s m args below meth c H locs cells slots Q (F0 m (pc + 1) ls (.int (f k) :: rest))) : W p l e R s m args below meth c H locs cells slots Q (F0 m pc ls (.int i :: .ref a :: rest)) := by
  subst hi
  exact va_iald hx hb hK.1 hP q0 0 ha rfl (inb_vp hin) hdg kk
theorem k_zald (hx : p.tables.exec = Jvm.exec) (hb : c.code = cc) (hK : mK D cy s) (hP : va_P D kCl ws H) (q0 : Nat) {a n : Nat} {f : Nat → Int32} (ha : ws[q0]? = some (a, .inl (cy 1, n, .inl f))) {i : Int32} {k : Nat} (hin : inb i n = true) (hi : ix i = k) (hdg : decode cc pc = .ok (.baload, 1))
    (kk : W p l e R s m args below meth c H locs cells slots Q (F0 m (pc + 1) ls (.int (f k) :: rest))) : W p l e R s m args below meth c H locs cells slots Q (F0 m pc ls (.int i :: .ref a :: rest)) := by
  subst hi
  exact va_zald hx hb hK.1 hP q0 1 ha rfl (inb_vp hin) hdg kk
theorem k_iast (hx : p.tables.exec = Jvm.exec) (hb : c.code = cc) (hK : mK D cy s) (hP : va_P D kCl ws H) (hD : va_D A ws) (hS : va_S A H0 H locs) (q0 : Nat) {a n : Nat} {f : Nat → Int32} (ha : ws[q0]? = some (a, .inl (cy 0, n, .inl f))) {i x : Int32} {k : Nat} (hin : inb i n = true) (hi : ix i = k) {ws' : va_W} (hws : ws.set q0 (a, .inl (cy 0, n, .inl (upd f k x))) = ws') (hdg : decode cc pc = .ok (.iastore, 1))
    (kk : ∀ (H1 : Heap) (locs1 : List Loc), va_P D kCl ws' H1 → va_D A ws' → va_S A H0 H1 locs1 → W p l e R s m args below meth c H1 locs1 cells slots Q (F0 m (pc + 1) ls rest)) : W p l e R s m args below meth c H locs cells slots Q (F0 m pc ls (.int x :: .int i :: .ref a :: rest)) := by
  subst hi
  subst hws
  exact va_iast hx hb hK.1 hP hD hS q0 0 ha rfl (inb_vp hin) hdg kk
abbrev kW (p : Program) (l : Launch) (e : Env) (R : Room) (s : State) (m : MethodId) (args : Array Value) (below : List Frame) (meth : Method) (c : Code) (H : Heap) (locs : List Loc) (Qc : Array Value → State → Outcome → State → Prop) (A : Nat → Prop) (pc : Nat) (ls : Array Slot) (st : List Value) : Prop :=
  W p l e R s m args below meth c H locs 0 0 (MQ below Qc args s 0 0 A) (F0 m pc ls st)
theorem kret_i {K : Int32 × S → Prop} {v : Int32} {u : S} (hx : p.tables.exec = Jvm.exec) (hb : c.code = cc) (hr : meth.sig.returnType = some .int) (hlocks : meth.locks = false) (hP : va_P D kCl (mk u) H) (hD : va_D A (mk u)) (hS : va_S A s.heap H locs) (h : Ok (some (v, u)) K) (hdg : decode cc pc = .ok (.ireturn, 1)) :
    kW p l e R s m args below meth c H locs (va_Qi (fun r u => K (r, u)) (fun u => kPost D A (mk u)) A) A pc ls [.int v] :=
  W.iret hx hb hr (fun t ht hW => ⟨⟨v, u, rfl, h.ret, by rw [ht]; exact hP, hD⟩, hS.F ht⟩) hS.2.2 hdg hlocks
theorem kret_iz {K : Int32 × S → Prop} {v : Int32} {u : S} {ty : FieldType} (hx : p.tables.exec = Jvm.exec) (hb : c.code = cc) (hr : meth.sig.returnType = some ty) (hn : narrow ty (.int v) = .int v) (hlocks : meth.locks = false) (hP : va_P D kCl (mk u) H) (hD : va_D A (mk u)) (hS : va_S A s.heap H locs) (h : Ok (some (v, u)) K) (hdg : decode cc pc = .ok (.ireturn, 1)) :
    kW p l e R s m args below meth c H locs (va_Qi (fun r u => K (r, u)) (fun u => kPost D A (mk u)) A) A pc ls [.int v] :=
  W.zret hx hb hr hn (fun t ht hW => ⟨⟨v, u, rfl, h.ret, by rw [ht]; exact hP, hD⟩, hS.F ht⟩) hS.2.2 hdg hlocks
theorem kret_r {K : Int32 → Prop} {v : Int32} (hx : p.tables.exec = Jvm.exec) (hb : c.code = cc) (hr : meth.sig.returnType = some .int) (hlocks : meth.locks = false) (hP : va_P D kCl ws H) (hD : va_D A ws) (hS : va_S A s.heap H locs) (h : Ok (some v) K) (hdg : decode cc pc = .ok (.ireturn, 1)) :
    kW p l e R s m args below meth c H locs (va_Qi (fun r (_ : Unit) => K r) (fun _ => kPost D A ws) A) A pc ls [.int v] :=
  W.iret hx hb hr (fun t ht hW => ⟨⟨v, (), rfl, h.ret, by rw [ht]; exact hP, hD⟩, hS.F ht⟩) hS.2.2 hdg hlocks
theorem kret_rz {K : Int32 → Prop} {v : Int32} {ty : FieldType} (hx : p.tables.exec = Jvm.exec) (hb : c.code = cc) (hr : meth.sig.returnType = some ty) (hn : narrow ty (.int v) = .int v) (hlocks : meth.locks = false) (hP : va_P D kCl ws H) (hD : va_D A ws) (hS : va_S A s.heap H locs) (h : Ok (some v) K) (hdg : decode cc pc = .ok (.ireturn, 1)) :
    kW p l e R s m args below meth c H locs (va_Qi (fun r (_ : Unit) => K r) (fun _ => kPost D A ws) A) A pc ls [.int v] :=
  W.zret hx hb hr hn (fun t ht hW => ⟨⟨v, (), rfl, h.ret, by rw [ht]; exact hP, hD⟩, hS.F ht⟩) hS.2.2 hdg hlocks
theorem kret_v {K : S → Prop} {u : S} (hx : p.tables.exec = Jvm.exec) (hb : c.code = cc) (hr : meth.sig.returnType = none) (hlocks : meth.locks = false) (hP : va_P D kCl (mk u) H) (hD : va_D A (mk u)) (hS : va_S A s.heap H locs) (h : Ok (some u) K) (hdg : decode cc pc = .ok (.return_, 1)) :
    kW p l e R s m args below meth c H locs (va_Qv K (fun u => kPost D A (mk u)) A) A pc ls [] :=
  W.vret hx hb hr (fun t ht hW => ⟨⟨u, rfl, h.ret, by rw [ht]; exact hP, hD⟩, hS.F ht⟩) hS.2.2 hdg hlocks
end KC
theorem k_zn {v : Int32} (h : decide (v &&& 1 = v) = true) : narrow .boolean (.int v) = .int v := by
  have h : v &&& 1 = v := of_decide_eq_true h
  simp [narrow, h]
theorem k_pick {α : Type} {l : List α} {k : Nat} {x : α} (h : l[k]? = some x) : l.Perm ([x] ++ l.eraseIdx k) := by
  induction l generalizing k with
  | nil => simp at h
  | cons y l ih =>
    cases k with
    | zero =>
      have e : y = x := by simpa using h
      subst e
      exact List.Perm.refl _
    | succ k =>
      have h : l[k]? = some x := by simpa using h
      exact ((ih h).cons y).trans (List.Perm.swap x y _)
theorem k_lays {ws : List Cond} {C : String} {T : u_T} {N : Nat} (i0 : Nat) (h : (List.range N).map (fun j => ws[i0 + j]?) = (u_ws C T N).map some) : ∀ w ∈ u_ws C T N, w ∈ ws := by
  intro w hw
  have h1 : some w ∈ (u_ws C T N).map some := List.mem_map.mpr ⟨w, hw, rfl⟩
  rw [← h] at h1
  obtain ⟨j, -, hj⟩ := List.mem_map.mp h1
  exact List.mem_of_getElem? hj
def neAll (x : Int32) : List Int32 → Prop
  | [] => True
  | k :: r => (¬ x = k) ∧ neAll x r
theorem neAll_no {x k : Int32} : ∀ {ks : List Int32}, neAll x ks → k ∈ ks → ¬ x = k
  | [], _, h => absurd h List.not_mem_nil
  | j :: r, ⟨h1, h2⟩, h => by
    rcases List.mem_cons.mp h with e | e
    · rw [e]
      exact h1
    · exact neAll_no h2 e
theorem k_tout {x : Int32} {lo hi : Int} (ks : List Int32) (hc : (List.range (hi - lo + 1).toNat).all (fun j => ks.any (fun k => decide (k.toInt = lo + j))) = true) (h : neAll x ks) : x.toInt < lo ∨ hi < x.toInt := by
  rcases Int.lt_or_le x.toInt lo with q | q
  · exact Or.inl q
  rcases Int.lt_or_le hi x.toInt with r | r
  · exact Or.inr r
  exfalso
  have h1 := List.all_eq_true.mp hc (x.toInt - lo).toNat (List.mem_range.mpr (by omega))
  obtain ⟨k, hk, e⟩ := List.any_eq_true.mp h1
  have e := of_decide_eq_true e
  refine neAll_no h hk (Int32.toInt_inj.mp ?_)
  rw [e]
  omega
/-- what holds all through a method's run -/
def mE (D : va_G) (cy : Nat → ClassId) (own : String) (cc : ByteArray) (maxL : Nat) (ret : Option FieldType) (Ts : List Cond) (A : Nat → Prop) (p : Program) (s : State) (m : MethodId) (args : Array Value) (meth : Method) (c : Code) : Prop :=
  p.tables.exec = Jvm.exec ∧ c.code = cc ∧ meth.sig.returnType = ret ∧ c.maxLocals = maxL ∧ s.vm.findClass own = some m.cls ∧ (∀ w ∈ Ts, w.before args s = true) ∧ meth.locks = false ∧ mK D cy s ∧ (∀ q, s.heap.size ≤ q → A q)
