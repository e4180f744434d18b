/-! the pure state of a FerryRamp and of a History, their worlds; throwing -/
theorem fl_split {l : List va_W} {j : Nat} {B : va_W} (hj : l[j]? = some B) : l = l.take j ++ B :: l.drop (j + 1) := by
  obtain ⟨h, e⟩ := List.getElem?_eq_some_iff.mp hj
  rw [← e, List.getElem_cons_drop, List.take_append_drop]
theorem fl_atj {l : List va_W} {j q n : Nat} {B : va_W} {x : Nat × va_E} (hj : l[j]? = some B) (hn : (l.take j).flatten.length + q = n) (h : B[q]? = some x) : l.flatten[n]? = some x := by
  have e := fl_split hj
  have h2 := fl_at (pre := l.take j) (post := l.drop (j + 1)) hn h
  rw [← e] at h2
  exact h2
theorem fl_setj {l : List va_W} {j q n : Nat} {B Bn : va_W} {x : Nat × va_E} (hj : l[j]? = some B) (hn : (l.take j).flatten.length + q = n) (hq : q < B.length) (h : B.set q x = Bn) : l.flatten.set n x = (l.set j Bn).flatten := by
  have e := fl_split hj
  have h2 := fl_set (pre := l.take j) (post := l.drop (j + 1)) hn hq h
  rw [← e] at h2
  rw [h2]
  obtain ⟨hl, -⟩ := List.getElem?_eq_some_iff.mp hj
  rw [List.set_eq_take_append_cons_drop, if_pos hl]
section KX
variable {p : Program} {l : Launch} {e : Env} {R : Room} {s : State} {m : MethodId} {args : Array Value} {below : List Frame} {meth : Method} {c : Code} {H H0 : Heap} {locs : List Loc} {cells slots : Nat} {Q : State → Prop}
variable {Ts wy : List Cond} {cc bytes : ByteArray} {nL maxL index n q0 ci N mc ms pc : Nat} {own C host : String} {T : u_T} {y : MethodName} {ret : Option FieldType} {rm : Room} {b : Addr} {As rest st : List Value} {fs : List Value} {ls : Array Slot}
variable {D : va_G} {cy : Nat → ClassId} {ws wc wr : va_W} {A : Nat → Prop} {S γ : Type} {mk : S → va_W} {K0 : γ → Prop} {za zv : Nat → Nat}
theorem k_aald (hx : p.tables.exec = Jvm.exec) (hb : c.code = cc) (hK : mK D cy s) (hP : va_P D kCl ws H) (q0 : Nat) {a n : Nat} {f : Nat → Option Nat} (ha : ws[q0]? = some (a, .inl (cy 2, n, .inr (.inr (.inr (.inr f)))))) {i : Int32} {v : Value} (hin : inb i n = true) (hv : va_rf (f (ix i)) = v) (hdg : decode cc pc = .ok (.aaload, 1))
    (kk : W p l e R s m args below meth c H locs cells slots Q (F0 m (pc + 1) ls (v :: rest))) : W p l e R s m args below meth c H locs cells slots Q (F0 m pc ls (.int i :: .ref a :: rest)) := by
  subst hv
  exact va_aldq hx hb hK.1 hP q0 2 ha rfl (inb_vp hin) hdg kk
abbrev kWx (p : Program) (l : Launch) (e : Env) (R : Room) (s : State) (m : MethodId) (args : Array Value) (below : List Frame) (meth : Method) (c : Code) (H : Heap) (locs : List Loc) (Qc : Array Value → State → Outcome → State → Prop) (XC : String → State → State → Prop) (A : Nat → Prop) (pc : Nat) (ls : Array Slot) (st : List Value) : Prop :=
  W p l e R s m args below meth c H locs 0 0 (vx_MQ below Qc XC args s 1 6 A) (F0 m pc ls st)
theorem kret_x {K : (String ⊕ Int32) × S → Prop} {XC : String → State → State → Prop} {v : Int32} {u : S} (hx : p.tables.exec = Jvm.exec) (hb : c.code = cc) (hr : meth.sig.returnType = some .int) (hlocks : meth.locks = false) (hP : va_P D kCl (mk u) H) (hD : va_D A (mk u)) (hS : va_S A s.heap H locs) (h : Ok (some (Sum.inr v, u)) K) (hdg : decode cc pc = .ok (.ireturn, 1)) :
    kWx p l e R s m args below meth c H locs (va_Qi (fun r q => K (.inr r, q)) (fun q => kPost D A (mk q)) A) XC A pc ls [.int v] :=
  vx_ret (W.widen (k := 1) (n := 6) (Nat.zero_le _) (Nat.zero_le _) (W.iret hx hb hr (fun t ht hW => ⟨⟨v, u, rfl, h.ret, by rw [ht]; exact hP, hD⟩, hS.F ht⟩) hS.2.2 hdg hlocks))
theorem kret_xv {K : (String ⊕ Int32) × S → Prop} {XC : String → State → State → Prop} {u : S} (hx : p.tables.exec = Jvm.exec) (hb : c.code = cc) (hr : meth.sig.returnType = none) (hlocks : meth.locks = false) (hP : va_P D kCl (mk u) H) (hD : va_D A (mk u)) (hS : va_S A s.heap H locs) (h : Ok (some (Sum.inr 0, u)) K) (hdg : decode cc pc = .ok (.return_, 1)) :
    kWx p l e R s m args below meth c H locs (va_Qv (fun q => K (.inr 0, q)) (fun q => kPost D A (mk q)) A) XC A pc ls [] :=
  vx_ret (W.widen (k := 1) (n := 6) (Nat.zero_le _) (Nat.zero_le _) (W.vret hx hb hr (fun t ht hW => ⟨⟨u, rfl, h.ret, by rw [ht]; exact hP, hD⟩, hS.F ht⟩) hS.2.2 hdg hlocks))
theorem kx_throw {K : (String ⊕ Int32) × S → Prop} {Qc : Array Value → State → Outcome → State → Prop} {u : S} {names : List String} {cls text own : String} {ik is ic sa : Nat} (hx : p.tables.exec = Jvm.exec) (hb : c.code = cc) (hfl : l.stackTraces = false) (hml : c.maxLocals = nL) (hown : s.vm.findClass own = some m.cls) (hcls : Bundle.fit cls = true) (hnames : ∀ n ∈ names, Bundle.fit n = true)
    (hk : (Cond.classLink own ik cls).before args s = true) (hini : (Cond.initialized cls).before args s = true) (hstr : vk_R own is text sa s) (hat : ∀ w ∈ vx_atS own ic cls names, w.before args s = true) (hgood : ∀ w ∈ Cond.classLink own ik cls :: Cond.initialized cls :: vx_atS own ic cls names, vx_ot w = true)
    (hZ : mZ za zv A s s.heap) (hK : mK D cy s) (hP : va_P D kCl (mk u) H) (hD : va_D A (mk u)) (hS : va_S A s.heap H locs) (hl : ls.size = nL)
    (d0 : decode cc pc = .ok (.new ik, 3)) (d3 : decode cc (pc + 3) = .ok (.dup, 1)) (d4 : decode cc (pc + 4) = .ok (.ldc is, 2)) (d6 : decode cc (pc + 6) = .ok (.invokespecial ic, 3)) (d9 : decode cc (pc + 9) = .ok (.athrow, 1))
    (hex : ∀ x ∈ c.exceptionTable.toList, False) (hlocks : meth.locks = false) (h : Ok (some (Sum.inl cls, u)) K) (hRf : names.length + 3 < R.frames) (hRl : (rest.map fun v => v.category).sum + (13 * (names.length + 1) + 43) ≤ R.locals) (hRc : 1 ≤ R.cells) (hRs : 6 ≤ R.slots) :
    W p l e R s m args below meth c H locs 0 0 (vx_MQ below Qc (vx_X (fun _ : S => True) (fun E q t => K (.inl E, q) ∧ kPost D A (mk q) t) A) args s 1 6 A) (F0 m pc ls rest) :=
  vx_throwS hx hb hfl hown hcls hnames hk hini hstr hat hgood hZ.2.2.1 hZ.2.2.2.1 hS (hl.trans hml.symm) d0 d3 d4 d6 d9 (fun x hx => (hex x hx).elim) hRf hRl (by rw [Nat.zero_add]; exact hRc) (by rw [Nat.zero_add]; exact hRs) hlocks
    (fun t ht hz hk => ⟨u, trivial, ⟨h.ret, fun k q hq => (hP k q hq).kept (hk _ (hP k q hq).lt), hD⟩, Nat.le_trans hS.1 hz, fun q h1 h2 => (hk q (Nat.lt_of_lt_of_le h1 hS.1)).trans (hS.2.1 q h1 h2)⟩) hS.2.2 (Nat.le_refl _) (Nat.le_refl _)
theorem kx_throwv {K : (String ⊕ Int32) × S → Prop} {Qc : Array Value → State → Outcome → State → Prop} {u : S} {names : List String} {cls text own : String} {ik is ic sa : Nat} (hx : p.tables.exec = Jvm.exec) (hb : c.code = cc) (hfl : l.stackTraces = false) (hml : c.maxLocals = nL) (hown : s.vm.findClass own = some m.cls) (hcls : Bundle.fit cls = true) (hnames : ∀ n ∈ names, Bundle.fit n = true)
    (hk : (Cond.classLink own ik cls).before args s = true) (hini : (Cond.initialized cls).before args s = true) (hstr : vk_R own is text sa s) (hat : ∀ w ∈ vx_atS own ic cls names, w.before args s = true) (hgood : ∀ w ∈ Cond.classLink own ik cls :: Cond.initialized cls :: vx_atS own ic cls names, vx_ot w = true)
    (hZ : mZ za zv A s s.heap) (hK : mK D cy s) (hP : va_P D kCl (mk u) H) (hD : va_D A (mk u)) (hS : va_S A s.heap H locs) (hl : ls.size = nL)
    (d0 : decode cc pc = .ok (.new ik, 3)) (d3 : decode cc (pc + 3) = .ok (.dup, 1)) (d4 : decode cc (pc + 4) = .ok (.ldc is, 2)) (d6 : decode cc (pc + 6) = .ok (.invokespecial ic, 3)) (d9 : decode cc (pc + 9) = .ok (.athrow, 1))
    (hex : ∀ x ∈ c.exceptionTable.toList, False) (hlocks : meth.locks = false) (h : Ok (some (Sum.inl cls, u)) K) (hRf : names.length + 3 < R.frames) (hRl : (rest.map fun v => v.category).sum + (13 * (names.length + 1) + 43) ≤ R.locals) (hRc : 1 ≤ R.cells) (hRs : 6 ≤ R.slots) :
    W p l e R s m args below meth c H locs 0 0 (vx_MQ below Qc (vx_X (fun _ : S => True) (fun E q t => K (.inl E, q) ∧ kPost D A (mk q) t) A) args s 1 6 A) (F0 m pc ls rest) :=
  kx_throw hx hb hfl hml hown hcls hnames hk hini hstr hat hgood hZ hK hP hD hS hl d0 d3 d4 d6 d9 hex hlocks h hRf hRl hRc hRs
end KX
/-- a FerryRamp: now, trial; of its history next, many and the eight past states; parser; the two saved states; isSaved, accounts, output; outputLength -/
abbrev FS : Type := KS × KS × Int32 × Int32 × KS × KS × KS × KS × KS × KS × KS × KS × PS × KS × KS × (Nat → Int32) × (Nat → Int32) × (Nat → Int32) × Int32
def fN (u : FS) : KS := u.1
def fT (u : FS) : KS := u.2.1
def fX (u : FS) : Int32 := u.2.2.1
def fY (u : FS) : Int32 := u.2.2.2.1
def fq0 (u : FS) : KS := u.2.2.2.2.1
def fq1 (u : FS) : KS := u.2.2.2.2.2.1
def fq2 (u : FS) : KS := u.2.2.2.2.2.2.1
def fq3 (u : FS) : KS := u.2.2.2.2.2.2.2.1
def fq4 (u : FS) : KS := u.2.2.2.2.2.2.2.2.1
def fq5 (u : FS) : KS := u.2.2.2.2.2.2.2.2.2.1
def fq6 (u : FS) : KS := u.2.2.2.2.2.2.2.2.2.2.1
def fq7 (u : FS) : KS := u.2.2.2.2.2.2.2.2.2.2.2.1
def fP (u : FS) : PS := u.2.2.2.2.2.2.2.2.2.2.2.2.1
def fA (u : FS) : KS := u.2.2.2.2.2.2.2.2.2.2.2.2.2.1
def fB (u : FS) : KS := u.2.2.2.2.2.2.2.2.2.2.2.2.2.2.1
def fI (u : FS) : Nat → Int32 := u.2.2.2.2.2.2.2.2.2.2.2.2.2.2.2.1
def fO (u : FS) : Nat → Int32 := u.2.2.2.2.2.2.2.2.2.2.2.2.2.2.2.2.1
def fU (u : FS) : Nat → Int32 := u.2.2.2.2.2.2.2.2.2.2.2.2.2.2.2.2.2.1
def fL (u : FS) : Int32 := u.2.2.2.2.2.2.2.2.2.2.2.2.2.2.2.2.2.2
def gN (u : FS) (x : KS) : FS := (x, u.2)
def gT (u : FS) (x : KS) : FS := (u.1, x, u.2.2)
def gX (u : FS) (x : Int32) : FS := (u.1, u.2.1, x, u.2.2.2)
def gY (u : FS) (x : Int32) : FS := (u.1, u.2.1, u.2.2.1, x, u.2.2.2.2)
def gq0 (u : FS) (x : KS) : FS := (u.1, u.2.1, u.2.2.1, u.2.2.2.1, x, u.2.2.2.2.2)
def gq1 (u : FS) (x : KS) : FS := (u.1, u.2.1, u.2.2.1, u.2.2.2.1, u.2.2.2.2.1, x, u.2.2.2.2.2.2)
def gq2 (u : FS) (x : KS) : FS := (u.1, u.2.1, u.2.2.1, u.2.2.2.1, u.2.2.2.2.1, u.2.2.2.2.2.1, x, u.2.2.2.2.2.2.2)
def gq3 (u : FS) (x : KS) : FS := (u.1, u.2.1, u.2.2.1, u.2.2.2.1, u.2.2.2.2.1, u.2.2.2.2.2.1, u.2.2.2.2.2.2.1, x, u.2.2.2.2.2.2.2.2)
def gq4 (u : FS) (x : KS) : FS := (u.1, u.2.1, u.2.2.1, u.2.2.2.1, u.2.2.2.2.1, u.2.2.2.2.2.1, u.2.2.2.2.2.2.1, u.2.2.2.2.2.2.2.1, x, u.2.2.2.2.2.2.2.2.2)
def gq5 (u : FS) (x : KS) : FS := (u.1, u.2.1, u.2.2.1, u.2.2.2.1, u.2.2.2.2.1, u.2.2.2.2.2.1, u.2.2.2.2.2.2.1, u.2.2.2.2.2.2.2.1, u.2.2.2.2.2.2.2.2.1, x, u.2.2.2.2.2.2.2.2.2.2)
def gq6 (u : FS) (x : KS) : FS := (u.1, u.2.1, u.2.2.1, u.2.2.2.1, u.2.2.2.2.1, u.2.2.2.2.2.1, u.2.2.2.2.2.2.1, u.2.2.2.2.2.2.2.1, u.2.2.2.2.2.2.2.2.1, u.2.2.2.2.2.2.2.2.2.1, x, u.2.2.2.2.2.2.2.2.2.2.2)
def gq7 (u : FS) (x : KS) : FS := (u.1, u.2.1, u.2.2.1, u.2.2.2.1, u.2.2.2.2.1, u.2.2.2.2.2.1, u.2.2.2.2.2.2.1, u.2.2.2.2.2.2.2.1, u.2.2.2.2.2.2.2.2.1, u.2.2.2.2.2.2.2.2.2.1, u.2.2.2.2.2.2.2.2.2.2.1, x, u.2.2.2.2.2.2.2.2.2.2.2.2)
def gP (u : FS) (x : PS) : FS := (u.1, u.2.1, u.2.2.1, u.2.2.2.1, u.2.2.2.2.1, u.2.2.2.2.2.1, u.2.2.2.2.2.2.1, u.2.2.2.2.2.2.2.1, u.2.2.2.2.2.2.2.2.1, u.2.2.2.2.2.2.2.2.2.1, u.2.2.2.2.2.2.2.2.2.2.1, u.2.2.2.2.2.2.2.2.2.2.2.1, x, u.2.2.2.2.2.2.2.2.2.2.2.2.2)
def gA (u : FS) (x : KS) : FS := (u.1, u.2.1, u.2.2.1, u.2.2.2.1, u.2.2.2.2.1, u.2.2.2.2.2.1, u.2.2.2.2.2.2.1, u.2.2.2.2.2.2.2.1, u.2.2.2.2.2.2.2.2.1, u.2.2.2.2.2.2.2.2.2.1, u.2.2.2.2.2.2.2.2.2.2.1, u.2.2.2.2.2.2.2.2.2.2.2.1, u.2.2.2.2.2.2.2.2.2.2.2.2.1, x, u.2.2.2.2.2.2.2.2.2.2.2.2.2.2)
def gB (u : FS) (x : KS) : FS := (u.1, u.2.1, u.2.2.1, u.2.2.2.1, u.2.2.2.2.1, u.2.2.2.2.2.1, u.2.2.2.2.2.2.1, u.2.2.2.2.2.2.2.1, u.2.2.2.2.2.2.2.2.1, u.2.2.2.2.2.2.2.2.2.1, u.2.2.2.2.2.2.2.2.2.2.1, u.2.2.2.2.2.2.2.2.2.2.2.1, u.2.2.2.2.2.2.2.2.2.2.2.2.1, u.2.2.2.2.2.2.2.2.2.2.2.2.2.1, x, u.2.2.2.2.2.2.2.2.2.2.2.2.2.2.2)
def gI (u : FS) (i : Nat) (x : Int32) : FS := (u.1, u.2.1, u.2.2.1, u.2.2.2.1, u.2.2.2.2.1, u.2.2.2.2.2.1, u.2.2.2.2.2.2.1, u.2.2.2.2.2.2.2.1, u.2.2.2.2.2.2.2.2.1, u.2.2.2.2.2.2.2.2.2.1, u.2.2.2.2.2.2.2.2.2.2.1, u.2.2.2.2.2.2.2.2.2.2.2.1, u.2.2.2.2.2.2.2.2.2.2.2.2.1, u.2.2.2.2.2.2.2.2.2.2.2.2.2.1, u.2.2.2.2.2.2.2.2.2.2.2.2.2.2.1, upd u.2.2.2.2.2.2.2.2.2.2.2.2.2.2.2.1 i x, u.2.2.2.2.2.2.2.2.2.2.2.2.2.2.2.2)
def gO (u : FS) (i : Nat) (x : Int32) : FS := (u.1, u.2.1, u.2.2.1, u.2.2.2.1, u.2.2.2.2.1, u.2.2.2.2.2.1, u.2.2.2.2.2.2.1, u.2.2.2.2.2.2.2.1, u.2.2.2.2.2.2.2.2.1, u.2.2.2.2.2.2.2.2.2.1, u.2.2.2.2.2.2.2.2.2.2.1, u.2.2.2.2.2.2.2.2.2.2.2.1, u.2.2.2.2.2.2.2.2.2.2.2.2.1, u.2.2.2.2.2.2.2.2.2.2.2.2.2.1, u.2.2.2.2.2.2.2.2.2.2.2.2.2.2.1, u.2.2.2.2.2.2.2.2.2.2.2.2.2.2.2.1, upd u.2.2.2.2.2.2.2.2.2.2.2.2.2.2.2.2.1 i x, u.2.2.2.2.2.2.2.2.2.2.2.2.2.2.2.2.2)
def gU (u : FS) (i : Nat) (x : Int32) : FS := (u.1, u.2.1, u.2.2.1, u.2.2.2.1, u.2.2.2.2.1, u.2.2.2.2.2.1, u.2.2.2.2.2.2.1, u.2.2.2.2.2.2.2.1, u.2.2.2.2.2.2.2.2.1, u.2.2.2.2.2.2.2.2.2.1, u.2.2.2.2.2.2.2.2.2.2.1, u.2.2.2.2.2.2.2.2.2.2.2.1, u.2.2.2.2.2.2.2.2.2.2.2.2.1, u.2.2.2.2.2.2.2.2.2.2.2.2.2.1, u.2.2.2.2.2.2.2.2.2.2.2.2.2.2.1, u.2.2.2.2.2.2.2.2.2.2.2.2.2.2.2.1, u.2.2.2.2.2.2.2.2.2.2.2.2.2.2.2.2.1, upd u.2.2.2.2.2.2.2.2.2.2.2.2.2.2.2.2.2.1 i x, u.2.2.2.2.2.2.2.2.2.2.2.2.2.2.2.2.2.2)
def gL (u : FS) (x : Int32) : FS := (u.1, u.2.1, u.2.2.1, u.2.2.2.1, u.2.2.2.2.1, u.2.2.2.2.2.1, u.2.2.2.2.2.2.1, u.2.2.2.2.2.2.2.1, u.2.2.2.2.2.2.2.2.1, u.2.2.2.2.2.2.2.2.2.1, u.2.2.2.2.2.2.2.2.2.2.1, u.2.2.2.2.2.2.2.2.2.2.2.1, u.2.2.2.2.2.2.2.2.2.2.2.2.1, u.2.2.2.2.2.2.2.2.2.2.2.2.2.1, u.2.2.2.2.2.2.2.2.2.2.2.2.2.2.1, u.2.2.2.2.2.2.2.2.2.2.2.2.2.2.2.1, u.2.2.2.2.2.2.2.2.2.2.2.2.2.2.2.2.1, u.2.2.2.2.2.2.2.2.2.2.2.2.2.2.2.2.2.1, x)
theorem fN_gN (u : FS) (x : KS) : fN (gN u x) = x := rfl
theorem fT_gN (u : FS) (x : KS) : fT (gN u x) = fT u := rfl
theorem fX_gN (u : FS) (x : KS) : fX (gN u x) = fX u := rfl
theorem fY_gN (u : FS) (x : KS) : fY (gN u x) = fY u := rfl
theorem fq0_gN (u : FS) (x : KS) : fq0 (gN u x) = fq0 u := rfl
theorem fq1_gN (u : FS) (x : KS) : fq1 (gN u x) = fq1 u := rfl
theorem fq2_gN (u : FS) (x : KS) : fq2 (gN u x) = fq2 u := rfl
theorem fq3_gN (u : FS) (x : KS) : fq3 (gN u x) = fq3 u := rfl
theorem fq4_gN (u : FS) (x : KS) : fq4 (gN u x) = fq4 u := rfl
theorem fq5_gN (u : FS) (x : KS) : fq5 (gN u x) = fq5 u := rfl
theorem fq6_gN (u : FS) (x : KS) : fq6 (gN u x) = fq6 u := rfl
theorem fq7_gN (u : FS) (x : KS) : fq7 (gN u x) = fq7 u := rfl
theorem fP_gN (u : FS) (x : KS) : fP (gN u x) = fP u := rfl
theorem fA_gN (u : FS) (x : KS) : fA (gN u x) = fA u := rfl
theorem fB_gN (u : FS) (x : KS) : fB (gN u x) = fB u := rfl
theorem fI_gN (u : FS) (x : KS) : fI (gN u x) = fI u := rfl
theorem fO_gN (u : FS) (x : KS) : fO (gN u x) = fO u := rfl
theorem fU_gN (u : FS) (x : KS) : fU (gN u x) = fU u := rfl
theorem fL_gN (u : FS) (x : KS) : fL (gN u x) = fL u := rfl
theorem fN_gT (u : FS) (x : KS) : fN (gT u x) = fN u := rfl
theorem fT_gT (u : FS) (x : KS) : fT (gT u x) = x := rfl
theorem fX_gT (u : FS) (x : KS) : fX (gT u x) = fX u := rfl
theorem fY_gT (u : FS) (x : KS) : fY (gT u x) = fY u := rfl
theorem fq0_gT (u : FS) (x : KS) : fq0 (gT u x) = fq0 u := rfl
theorem fq1_gT (u : FS) (x : KS) : fq1 (gT u x) = fq1 u := rfl
theorem fq2_gT (u : FS) (x : KS) : fq2 (gT u x) = fq2 u := rfl
theorem fq3_gT (u : FS) (x : KS) : fq3 (gT u x) = fq3 u := rfl
theorem fq4_gT (u : FS) (x : KS) : fq4 (gT u x) = fq4 u := rfl
theorem fq5_gT (u : FS) (x : KS) : fq5 (gT u x) = fq5 u := rfl
theorem fq6_gT (u : FS) (x : KS) : fq6 (gT u x) = fq6 u := rfl
theorem fq7_gT (u : FS) (x : KS) : fq7 (gT u x) = fq7 u := rfl
theorem fP_gT (u : FS) (x : KS) : fP (gT u x) = fP u := rfl
theorem fA_gT (u : FS) (x : KS) : fA (gT u x) = fA u := rfl
theorem fB_gT (u : FS) (x : KS) : fB (gT u x) = fB u := rfl
theorem fI_gT (u : FS) (x : KS) : fI (gT u x) = fI u := rfl
theorem fO_gT (u : FS) (x : KS) : fO (gT u x) = fO u := rfl
theorem fU_gT (u : FS) (x : KS) : fU (gT u x) = fU u := rfl
theorem fL_gT (u : FS) (x : KS) : fL (gT u x) = fL u := rfl
theorem fN_gX (u : FS) (x : Int32) : fN (gX u x) = fN u := rfl
theorem fT_gX (u : FS) (x : Int32) : fT (gX u x) = fT u := rfl
theorem fX_gX (u : FS) (x : Int32) : fX (gX u x) = x := rfl
theorem fY_gX (u : FS) (x : Int32) : fY (gX u x) = fY u := rfl
theorem fq0_gX (u : FS) (x : Int32) : fq0 (gX u x) = fq0 u := rfl
theorem fq1_gX (u : FS) (x : Int32) : fq1 (gX u x) = fq1 u := rfl
theorem fq2_gX (u : FS) (x : Int32) : fq2 (gX u x) = fq2 u := rfl
theorem fq3_gX (u : FS) (x : Int32) : fq3 (gX u x) = fq3 u := rfl
theorem fq4_gX (u : FS) (x : Int32) : fq4 (gX u x) = fq4 u := rfl
theorem fq5_gX (u : FS) (x : Int32) : fq5 (gX u x) = fq5 u := rfl
theorem fq6_gX (u : FS) (x : Int32) : fq6 (gX u x) = fq6 u := rfl
theorem fq7_gX (u : FS) (x : Int32) : fq7 (gX u x) = fq7 u := rfl
theorem fP_gX (u : FS) (x : Int32) : fP (gX u x) = fP u := rfl
theorem fA_gX (u : FS) (x : Int32) : fA (gX u x) = fA u := rfl
theorem fB_gX (u : FS) (x : Int32) : fB (gX u x) = fB u := rfl
theorem fI_gX (u : FS) (x : Int32) : fI (gX u x) = fI u := rfl
theorem fO_gX (u : FS) (x : Int32) : fO (gX u x) = fO u := rfl
theorem fU_gX (u : FS) (x : Int32) : fU (gX u x) = fU u := rfl
theorem fL_gX (u : FS) (x : Int32) : fL (gX u x) = fL u := rfl
theorem fN_gY (u : FS) (x : Int32) : fN (gY u x) = fN u := rfl
theorem fT_gY (u : FS) (x : Int32) : fT (gY u x) = fT u := rfl
theorem fX_gY (u : FS) (x : Int32) : fX (gY u x) = fX u := rfl
theorem fY_gY (u : FS) (x : Int32) : fY (gY u x) = x := rfl
theorem fq0_gY (u : FS) (x : Int32) : fq0 (gY u x) = fq0 u := rfl
theorem fq1_gY (u : FS) (x : Int32) : fq1 (gY u x) = fq1 u := rfl
theorem fq2_gY (u : FS) (x : Int32) : fq2 (gY u x) = fq2 u := rfl
theorem fq3_gY (u : FS) (x : Int32) : fq3 (gY u x) = fq3 u := rfl
theorem fq4_gY (u : FS) (x : Int32) : fq4 (gY u x) = fq4 u := rfl
theorem fq5_gY (u : FS) (x : Int32) : fq5 (gY u x) = fq5 u := rfl
theorem fq6_gY (u : FS) (x : Int32) : fq6 (gY u x) = fq6 u := rfl
theorem fq7_gY (u : FS) (x : Int32) : fq7 (gY u x) = fq7 u := rfl
theorem fP_gY (u : FS) (x : Int32) : fP (gY u x) = fP u := rfl
theorem fA_gY (u : FS) (x : Int32) : fA (gY u x) = fA u := rfl
theorem fB_gY (u : FS) (x : Int32) : fB (gY u x) = fB u := rfl
theorem fI_gY (u : FS) (x : Int32) : fI (gY u x) = fI u := rfl
theorem fO_gY (u : FS) (x : Int32) : fO (gY u x) = fO u := rfl
theorem fU_gY (u : FS) (x : Int32) : fU (gY u x) = fU u := rfl
theorem fL_gY (u : FS) (x : Int32) : fL (gY u x) = fL u := rfl
theorem fN_gq0 (u : FS) (x : KS) : fN (gq0 u x) = fN u := rfl
theorem fT_gq0 (u : FS) (x : KS) : fT (gq0 u x) = fT u := rfl
theorem fX_gq0 (u : FS) (x : KS) : fX (gq0 u x) = fX u := rfl
theorem fY_gq0 (u : FS) (x : KS) : fY (gq0 u x) = fY u := rfl
theorem fq0_gq0 (u : FS) (x : KS) : fq0 (gq0 u x) = x := rfl
theorem fq1_gq0 (u : FS) (x : KS) : fq1 (gq0 u x) = fq1 u := rfl
theorem fq2_gq0 (u : FS) (x : KS) : fq2 (gq0 u x) = fq2 u := rfl
theorem fq3_gq0 (u : FS) (x : KS) : fq3 (gq0 u x) = fq3 u := rfl
theorem fq4_gq0 (u : FS) (x : KS) : fq4 (gq0 u x) = fq4 u := rfl
theorem fq5_gq0 (u : FS) (x : KS) : fq5 (gq0 u x) = fq5 u := rfl
theorem fq6_gq0 (u : FS) (x : KS) : fq6 (gq0 u x) = fq6 u := rfl
theorem fq7_gq0 (u : FS) (x : KS) : fq7 (gq0 u x) = fq7 u := rfl
theorem fP_gq0 (u : FS) (x : KS) : fP (gq0 u x) = fP u := rfl
theorem fA_gq0 (u : FS) (x : KS) : fA (gq0 u x) = fA u := rfl
theorem fB_gq0 (u : FS) (x : KS) : fB (gq0 u x) = fB u := rfl
theorem fI_gq0 (u : FS) (x : KS) : fI (gq0 u x) = fI u := rfl
theorem fO_gq0 (u : FS) (x : KS) : fO (gq0 u x) = fO u := rfl
theorem fU_gq0 (u : FS) (x : KS) : fU (gq0 u x) = fU u := rfl
theorem fL_gq0 (u : FS) (x : KS) : fL (gq0 u x) = fL u := rfl
theorem fN_gq1 (u : FS) (x : KS) : fN (gq1 u x) = fN u := rfl
theorem fT_gq1 (u : FS) (x : KS) : fT (gq1 u x) = fT u := rfl
theorem fX_gq1 (u : FS) (x : KS) : fX (gq1 u x) = fX u := rfl
theorem fY_gq1 (u : FS) (x : KS) : fY (gq1 u x) = fY u := rfl
theorem fq0_gq1 (u : FS) (x : KS) : fq0 (gq1 u x) = fq0 u := rfl
theorem fq1_gq1 (u : FS) (x : KS) : fq1 (gq1 u x) = x := rfl
theorem fq2_gq1 (u : FS) (x : KS) : fq2 (gq1 u x) = fq2 u := rfl
theorem fq3_gq1 (u : FS) (x : KS) : fq3 (gq1 u x) = fq3 u := rfl
theorem fq4_gq1 (u : FS) (x : KS) : fq4 (gq1 u x) = fq4 u := rfl
theorem fq5_gq1 (u : FS) (x : KS) : fq5 (gq1 u x) = fq5 u := rfl
theorem fq6_gq1 (u : FS) (x : KS) : fq6 (gq1 u x) = fq6 u := rfl
theorem fq7_gq1 (u : FS) (x : KS) : fq7 (gq1 u x) = fq7 u := rfl
theorem fP_gq1 (u : FS) (x : KS) : fP (gq1 u x) = fP u := rfl
theorem fA_gq1 (u : FS) (x : KS) : fA (gq1 u x) = fA u := rfl
theorem fB_gq1 (u : FS) (x : KS) : fB (gq1 u x) = fB u := rfl
theorem fI_gq1 (u : FS) (x : KS) : fI (gq1 u x) = fI u := rfl
theorem fO_gq1 (u : FS) (x : KS) : fO (gq1 u x) = fO u := rfl
theorem fU_gq1 (u : FS) (x : KS) : fU (gq1 u x) = fU u := rfl
theorem fL_gq1 (u : FS) (x : KS) : fL (gq1 u x) = fL u := rfl
theorem fN_gq2 (u : FS) (x : KS) : fN (gq2 u x) = fN u := rfl
theorem fT_gq2 (u : FS) (x : KS) : fT (gq2 u x) = fT u := rfl
theorem fX_gq2 (u : FS) (x : KS) : fX (gq2 u x) = fX u := rfl
theorem fY_gq2 (u : FS) (x : KS) : fY (gq2 u x) = fY u := rfl
theorem fq0_gq2 (u : FS) (x : KS) : fq0 (gq2 u x) = fq0 u := rfl
theorem fq1_gq2 (u : FS) (x : KS) : fq1 (gq2 u x) = fq1 u := rfl
theorem fq2_gq2 (u : FS) (x : KS) : fq2 (gq2 u x) = x := rfl
theorem fq3_gq2 (u : FS) (x : KS) : fq3 (gq2 u x) = fq3 u := rfl
theorem fq4_gq2 (u : FS) (x : KS) : fq4 (gq2 u x) = fq4 u := rfl
theorem fq5_gq2 (u : FS) (x : KS) : fq5 (gq2 u x) = fq5 u := rfl
theorem fq6_gq2 (u : FS) (x : KS) : fq6 (gq2 u x) = fq6 u := rfl
theorem fq7_gq2 (u : FS) (x : KS) : fq7 (gq2 u x) = fq7 u := rfl
theorem fP_gq2 (u : FS) (x : KS) : fP (gq2 u x) = fP u := rfl
theorem fA_gq2 (u : FS) (x : KS) : fA (gq2 u x) = fA u := rfl
theorem fB_gq2 (u : FS) (x : KS) : fB (gq2 u x) = fB u := rfl
theorem fI_gq2 (u : FS) (x : KS) : fI (gq2 u x) = fI u := rfl
theorem fO_gq2 (u : FS) (x : KS) : fO (gq2 u x) = fO u := rfl
theorem fU_gq2 (u : FS) (x : KS) : fU (gq2 u x) = fU u := rfl
theorem fL_gq2 (u : FS) (x : KS) : fL (gq2 u x) = fL u := rfl
theorem fN_gq3 (u : FS) (x : KS) : fN (gq3 u x) = fN u := rfl
theorem fT_gq3 (u : FS) (x : KS) : fT (gq3 u x) = fT u := rfl
theorem fX_gq3 (u : FS) (x : KS) : fX (gq3 u x) = fX u := rfl
theorem fY_gq3 (u : FS) (x : KS) : fY (gq3 u x) = fY u := rfl
theorem fq0_gq3 (u : FS) (x : KS) : fq0 (gq3 u x) = fq0 u := rfl
theorem fq1_gq3 (u : FS) (x : KS) : fq1 (gq3 u x) = fq1 u := rfl
theorem fq2_gq3 (u : FS) (x : KS) : fq2 (gq3 u x) = fq2 u := rfl
theorem fq3_gq3 (u : FS) (x : KS) : fq3 (gq3 u x) = x := rfl
theorem fq4_gq3 (u : FS) (x : KS) : fq4 (gq3 u x) = fq4 u := rfl
theorem fq5_gq3 (u : FS) (x : KS) : fq5 (gq3 u x) = fq5 u := rfl
theorem fq6_gq3 (u : FS) (x : KS) : fq6 (gq3 u x) = fq6 u := rfl
theorem fq7_gq3 (u : FS) (x : KS) : fq7 (gq3 u x) = fq7 u := rfl
theorem fP_gq3 (u : FS) (x : KS) : fP (gq3 u x) = fP u := rfl
theorem fA_gq3 (u : FS) (x : KS) : fA (gq3 u x) = fA u := rfl
theorem fB_gq3 (u : FS) (x : KS) : fB (gq3 u x) = fB u := rfl
theorem fI_gq3 (u : FS) (x : KS) : fI (gq3 u x) = fI u := rfl
theorem fO_gq3 (u : FS) (x : KS) : fO (gq3 u x) = fO u := rfl
theorem fU_gq3 (u : FS) (x : KS) : fU (gq3 u x) = fU u := rfl
theorem fL_gq3 (u : FS) (x : KS) : fL (gq3 u x) = fL u := rfl
theorem fN_gq4 (u : FS) (x : KS) : fN (gq4 u x) = fN u := rfl
theorem fT_gq4 (u : FS) (x : KS) : fT (gq4 u x) = fT u := rfl
theorem fX_gq4 (u : FS) (x : KS) : fX (gq4 u x) = fX u := rfl
theorem fY_gq4 (u : FS) (x : KS) : fY (gq4 u x) = fY u := rfl
theorem fq0_gq4 (u : FS) (x : KS) : fq0 (gq4 u x) = fq0 u := rfl
theorem fq1_gq4 (u : FS) (x : KS) : fq1 (gq4 u x) = fq1 u := rfl
theorem fq2_gq4 (u : FS) (x : KS) : fq2 (gq4 u x) = fq2 u := rfl
theorem fq3_gq4 (u : FS) (x : KS) : fq3 (gq4 u x) = fq3 u := rfl
theorem fq4_gq4 (u : FS) (x : KS) : fq4 (gq4 u x) = x := rfl
theorem fq5_gq4 (u : FS) (x : KS) : fq5 (gq4 u x) = fq5 u := rfl
theorem fq6_gq4 (u : FS) (x : KS) : fq6 (gq4 u x) = fq6 u := rfl
theorem fq7_gq4 (u : FS) (x : KS) : fq7 (gq4 u x) = fq7 u := rfl
theorem fP_gq4 (u : FS) (x : KS) : fP (gq4 u x) = fP u := rfl
theorem fA_gq4 (u : FS) (x : KS) : fA (gq4 u x) = fA u := rfl
theorem fB_gq4 (u : FS) (x : KS) : fB (gq4 u x) = fB u := rfl
theorem fI_gq4 (u : FS) (x : KS) : fI (gq4 u x) = fI u := rfl
theorem fO_gq4 (u : FS) (x : KS) : fO (gq4 u x) = fO u := rfl
theorem fU_gq4 (u : FS) (x : KS) : fU (gq4 u x) = fU u := rfl
theorem fL_gq4 (u : FS) (x : KS) : fL (gq4 u x) = fL u := rfl
theorem fN_gq5 (u : FS) (x : KS) : fN (gq5 u x) = fN u := rfl
theorem fT_gq5 (u : FS) (x : KS) : fT (gq5 u x) = fT u := rfl
theorem fX_gq5 (u : FS) (x : KS) : fX (gq5 u x) = fX u := rfl
theorem fY_gq5 (u : FS) (x : KS) : fY (gq5 u x) = fY u := rfl
theorem fq0_gq5 (u : FS) (x : KS) : fq0 (gq5 u x) = fq0 u := rfl
theorem fq1_gq5 (u : FS) (x : KS) : fq1 (gq5 u x) = fq1 u := rfl
theorem fq2_gq5 (u : FS) (x : KS) : fq2 (gq5 u x) = fq2 u := rfl
theorem fq3_gq5 (u : FS) (x : KS) : fq3 (gq5 u x) = fq3 u := rfl
theorem fq4_gq5 (u : FS) (x : KS) : fq4 (gq5 u x) = fq4 u := rfl
theorem fq5_gq5 (u : FS) (x : KS) : fq5 (gq5 u x) = x := rfl
theorem fq6_gq5 (u : FS) (x : KS) : fq6 (gq5 u x) = fq6 u := rfl
theorem fq7_gq5 (u : FS) (x : KS) : fq7 (gq5 u x) = fq7 u := rfl
theorem fP_gq5 (u : FS) (x : KS) : fP (gq5 u x) = fP u := rfl
theorem fA_gq5 (u : FS) (x : KS) : fA (gq5 u x) = fA u := rfl
theorem fB_gq5 (u : FS) (x : KS) : fB (gq5 u x) = fB u := rfl
theorem fI_gq5 (u : FS) (x : KS) : fI (gq5 u x) = fI u := rfl
theorem fO_gq5 (u : FS) (x : KS) : fO (gq5 u x) = fO u := rfl
theorem fU_gq5 (u : FS) (x : KS) : fU (gq5 u x) = fU u := rfl
theorem fL_gq5 (u : FS) (x : KS) : fL (gq5 u x) = fL u := rfl
theorem fN_gq6 (u : FS) (x : KS) : fN (gq6 u x) = fN u := rfl
theorem fT_gq6 (u : FS) (x : KS) : fT (gq6 u x) = fT u := rfl
theorem fX_gq6 (u : FS) (x : KS) : fX (gq6 u x) = fX u := rfl
theorem fY_gq6 (u : FS) (x : KS) : fY (gq6 u x) = fY u := rfl
theorem fq0_gq6 (u : FS) (x : KS) : fq0 (gq6 u x) = fq0 u := rfl
theorem fq1_gq6 (u : FS) (x : KS) : fq1 (gq6 u x) = fq1 u := rfl
theorem fq2_gq6 (u : FS) (x : KS) : fq2 (gq6 u x) = fq2 u := rfl
theorem fq3_gq6 (u : FS) (x : KS) : fq3 (gq6 u x) = fq3 u := rfl
theorem fq4_gq6 (u : FS) (x : KS) : fq4 (gq6 u x) = fq4 u := rfl
theorem fq5_gq6 (u : FS) (x : KS) : fq5 (gq6 u x) = fq5 u := rfl
theorem fq6_gq6 (u : FS) (x : KS) : fq6 (gq6 u x) = x := rfl
theorem fq7_gq6 (u : FS) (x : KS) : fq7 (gq6 u x) = fq7 u := rfl
theorem fP_gq6 (u : FS) (x : KS) : fP (gq6 u x) = fP u := rfl
theorem fA_gq6 (u : FS) (x : KS) : fA (gq6 u x) = fA u := rfl
theorem fB_gq6 (u : FS) (x : KS) : fB (gq6 u x) = fB u := rfl
theorem fI_gq6 (u : FS) (x : KS) : fI (gq6 u x) = fI u := rfl
theorem fO_gq6 (u : FS) (x : KS) : fO (gq6 u x) = fO u := rfl
theorem fU_gq6 (u : FS) (x : KS) : fU (gq6 u x) = fU u := rfl
theorem fL_gq6 (u : FS) (x : KS) : fL (gq6 u x) = fL u := rfl
theorem fN_gq7 (u : FS) (x : KS) : fN (gq7 u x) = fN u := rfl
theorem fT_gq7 (u : FS) (x : KS) : fT (gq7 u x) = fT u := rfl
theorem fX_gq7 (u : FS) (x : KS) : fX (gq7 u x) = fX u := rfl
theorem fY_gq7 (u : FS) (x : KS) : fY (gq7 u x) = fY u := rfl
theorem fq0_gq7 (u : FS) (x : KS) : fq0 (gq7 u x) = fq0 u := rfl
theorem fq1_gq7 (u : FS) (x : KS) : fq1 (gq7 u x) = fq1 u := rfl
theorem fq2_gq7 (u : FS) (x : KS) : fq2 (gq7 u x) = fq2 u := rfl
theorem fq3_gq7 (u : FS) (x : KS) : fq3 (gq7 u x) = fq3 u := rfl
theorem fq4_gq7 (u : FS) (x : KS) : fq4 (gq7 u x) = fq4 u := rfl
theorem fq5_gq7 (u : FS) (x : KS) : fq5 (gq7 u x) = fq5 u := rfl
theorem fq6_gq7 (u : FS) (x : KS) : fq6 (gq7 u x) = fq6 u := rfl
theorem fq7_gq7 (u : FS) (x : KS) : fq7 (gq7 u x) = x := rfl
theorem fP_gq7 (u : FS) (x : KS) : fP (gq7 u x) = fP u := rfl
theorem fA_gq7 (u : FS) (x : KS) : fA (gq7 u x) = fA u := rfl
theorem fB_gq7 (u : FS) (x : KS) : fB (gq7 u x) = fB u := rfl
theorem fI_gq7 (u : FS) (x : KS) : fI (gq7 u x) = fI u := rfl
theorem fO_gq7 (u : FS) (x : KS) : fO (gq7 u x) = fO u := rfl
theorem fU_gq7 (u : FS) (x : KS) : fU (gq7 u x) = fU u := rfl
theorem fL_gq7 (u : FS) (x : KS) : fL (gq7 u x) = fL u := rfl
theorem fN_gP (u : FS) (x : PS) : fN (gP u x) = fN u := rfl
theorem fT_gP (u : FS) (x : PS) : fT (gP u x) = fT u := rfl
theorem fX_gP (u : FS) (x : PS) : fX (gP u x) = fX u := rfl
theorem fY_gP (u : FS) (x : PS) : fY (gP u x) = fY u := rfl
theorem fq0_gP (u : FS) (x : PS) : fq0 (gP u x) = fq0 u := rfl
theorem fq1_gP (u : FS) (x : PS) : fq1 (gP u x) = fq1 u := rfl
theorem fq2_gP (u : FS) (x : PS) : fq2 (gP u x) = fq2 u := rfl
theorem fq3_gP (u : FS) (x : PS) : fq3 (gP u x) = fq3 u := rfl
theorem fq4_gP (u : FS) (x : PS) : fq4 (gP u x) = fq4 u := rfl
theorem fq5_gP (u : FS) (x : PS) : fq5 (gP u x) = fq5 u := rfl
theorem fq6_gP (u : FS) (x : PS) : fq6 (gP u x) = fq6 u := rfl
theorem fq7_gP (u : FS) (x : PS) : fq7 (gP u x) = fq7 u := rfl
theorem fP_gP (u : FS) (x : PS) : fP (gP u x) = x := rfl
theorem fA_gP (u : FS) (x : PS) : fA (gP u x) = fA u := rfl
theorem fB_gP (u : FS) (x : PS) : fB (gP u x) = fB u := rfl
theorem fI_gP (u : FS) (x : PS) : fI (gP u x) = fI u := rfl
theorem fO_gP (u : FS) (x : PS) : fO (gP u x) = fO u := rfl
theorem fU_gP (u : FS) (x : PS) : fU (gP u x) = fU u := rfl
theorem fL_gP (u : FS) (x : PS) : fL (gP u x) = fL u := rfl
theorem fN_gA (u : FS) (x : KS) : fN (gA u x) = fN u := rfl
theorem fT_gA (u : FS) (x : KS) : fT (gA u x) = fT u := rfl
theorem fX_gA (u : FS) (x : KS) : fX (gA u x) = fX u := rfl
theorem fY_gA (u : FS) (x : KS) : fY (gA u x) = fY u := rfl
theorem fq0_gA (u : FS) (x : KS) : fq0 (gA u x) = fq0 u := rfl
theorem fq1_gA (u : FS) (x : KS) : fq1 (gA u x) = fq1 u := rfl
theorem fq2_gA (u : FS) (x : KS) : fq2 (gA u x) = fq2 u := rfl
theorem fq3_gA (u : FS) (x : KS) : fq3 (gA u x) = fq3 u := rfl
theorem fq4_gA (u : FS) (x : KS) : fq4 (gA u x) = fq4 u := rfl
theorem fq5_gA (u : FS) (x : KS) : fq5 (gA u x) = fq5 u := rfl
theorem fq6_gA (u : FS) (x : KS) : fq6 (gA u x) = fq6 u := rfl
theorem fq7_gA (u : FS) (x : KS) : fq7 (gA u x) = fq7 u := rfl
theorem fP_gA (u : FS) (x : KS) : fP (gA u x) = fP u := rfl
theorem fA_gA (u : FS) (x : KS) : fA (gA u x) = x := rfl
theorem fB_gA (u : FS) (x : KS) : fB (gA u x) = fB u := rfl
theorem fI_gA (u : FS) (x : KS) : fI (gA u x) = fI u := rfl
theorem fO_gA (u : FS) (x : KS) : fO (gA u x) = fO u := rfl
theorem fU_gA (u : FS) (x : KS) : fU (gA u x) = fU u := rfl
theorem fL_gA (u : FS) (x : KS) : fL (gA u x) = fL u := rfl
theorem fN_gB (u : FS) (x : KS) : fN (gB u x) = fN u := rfl
theorem fT_gB (u : FS) (x : KS) : fT (gB u x) = fT u := rfl
theorem fX_gB (u : FS) (x : KS) : fX (gB u x) = fX u := rfl
theorem fY_gB (u : FS) (x : KS) : fY (gB u x) = fY u := rfl
theorem fq0_gB (u : FS) (x : KS) : fq0 (gB u x) = fq0 u := rfl
theorem fq1_gB (u : FS) (x : KS) : fq1 (gB u x) = fq1 u := rfl
theorem fq2_gB (u : FS) (x : KS) : fq2 (gB u x) = fq2 u := rfl
theorem fq3_gB (u : FS) (x : KS) : fq3 (gB u x) = fq3 u := rfl
theorem fq4_gB (u : FS) (x : KS) : fq4 (gB u x) = fq4 u := rfl
theorem fq5_gB (u : FS) (x : KS) : fq5 (gB u x) = fq5 u := rfl
theorem fq6_gB (u : FS) (x : KS) : fq6 (gB u x) = fq6 u := rfl
theorem fq7_gB (u : FS) (x : KS) : fq7 (gB u x) = fq7 u := rfl
theorem fP_gB (u : FS) (x : KS) : fP (gB u x) = fP u := rfl
theorem fA_gB (u : FS) (x : KS) : fA (gB u x) = fA u := rfl
theorem fB_gB (u : FS) (x : KS) : fB (gB u x) = x := rfl
theorem fI_gB (u : FS) (x : KS) : fI (gB u x) = fI u := rfl
theorem fO_gB (u : FS) (x : KS) : fO (gB u x) = fO u := rfl
theorem fU_gB (u : FS) (x : KS) : fU (gB u x) = fU u := rfl
theorem fL_gB (u : FS) (x : KS) : fL (gB u x) = fL u := rfl
theorem fN_gI (u : FS) (i : Nat) (x : Int32) : fN (gI u i x) = fN u := rfl
theorem fT_gI (u : FS) (i : Nat) (x : Int32) : fT (gI u i x) = fT u := rfl
theorem fX_gI (u : FS) (i : Nat) (x : Int32) : fX (gI u i x) = fX u := rfl
theorem fY_gI (u : FS) (i : Nat) (x : Int32) : fY (gI u i x) = fY u := rfl
theorem fq0_gI (u : FS) (i : Nat) (x : Int32) : fq0 (gI u i x) = fq0 u := rfl
theorem fq1_gI (u : FS) (i : Nat) (x : Int32) : fq1 (gI u i x) = fq1 u := rfl
theorem fq2_gI (u : FS) (i : Nat) (x : Int32) : fq2 (gI u i x) = fq2 u := rfl
theorem fq3_gI (u : FS) (i : Nat) (x : Int32) : fq3 (gI u i x) = fq3 u := rfl
theorem fq4_gI (u : FS) (i : Nat) (x : Int32) : fq4 (gI u i x) = fq4 u := rfl
theorem fq5_gI (u : FS) (i : Nat) (x : Int32) : fq5 (gI u i x) = fq5 u := rfl
theorem fq6_gI (u : FS) (i : Nat) (x : Int32) : fq6 (gI u i x) = fq6 u := rfl
theorem fq7_gI (u : FS) (i : Nat) (x : Int32) : fq7 (gI u i x) = fq7 u := rfl
theorem fP_gI (u : FS) (i : Nat) (x : Int32) : fP (gI u i x) = fP u := rfl
theorem fA_gI (u : FS) (i : Nat) (x : Int32) : fA (gI u i x) = fA u := rfl
theorem fB_gI (u : FS) (i : Nat) (x : Int32) : fB (gI u i x) = fB u := rfl
theorem fI_gI (u : FS) (i : Nat) (x : Int32) : fI (gI u i x) = upd (fI u) i x := rfl
theorem fO_gI (u : FS) (i : Nat) (x : Int32) : fO (gI u i x) = fO u := rfl
theorem fU_gI (u : FS) (i : Nat) (x : Int32) : fU (gI u i x) = fU u := rfl
theorem fL_gI (u : FS) (i : Nat) (x : Int32) : fL (gI u i x) = fL u := rfl
theorem fN_gO (u : FS) (i : Nat) (x : Int32) : fN (gO u i x) = fN u := rfl
theorem fT_gO (u : FS) (i : Nat) (x : Int32) : fT (gO u i x) = fT u := rfl
theorem fX_gO (u : FS) (i : Nat) (x : Int32) : fX (gO u i x) = fX u := rfl
theorem fY_gO (u : FS) (i : Nat) (x : Int32) : fY (gO u i x) = fY u := rfl
theorem fq0_gO (u : FS) (i : Nat) (x : Int32) : fq0 (gO u i x) = fq0 u := rfl
theorem fq1_gO (u : FS) (i : Nat) (x : Int32) : fq1 (gO u i x) = fq1 u := rfl
theorem fq2_gO (u : FS) (i : Nat) (x : Int32) : fq2 (gO u i x) = fq2 u := rfl
theorem fq3_gO (u : FS) (i : Nat) (x : Int32) : fq3 (gO u i x) = fq3 u := rfl
theorem fq4_gO (u : FS) (i : Nat) (x : Int32) : fq4 (gO u i x) = fq4 u := rfl
theorem fq5_gO (u : FS) (i : Nat) (x : Int32) : fq5 (gO u i x) = fq5 u := rfl
theorem fq6_gO (u : FS) (i : Nat) (x : Int32) : fq6 (gO u i x) = fq6 u := rfl
theorem fq7_gO (u : FS) (i : Nat) (x : Int32) : fq7 (gO u i x) = fq7 u := rfl
theorem fP_gO (u : FS) (i : Nat) (x : Int32) : fP (gO u i x) = fP u := rfl
theorem fA_gO (u : FS) (i : Nat) (x : Int32) : fA (gO u i x) = fA u := rfl
theorem fB_gO (u : FS) (i : Nat) (x : Int32) : fB (gO u i x) = fB u := rfl
theorem fI_gO (u : FS) (i : Nat) (x : Int32) : fI (gO u i x) = fI u := rfl
theorem fO_gO (u : FS) (i : Nat) (x : Int32) : fO (gO u i x) = upd (fO u) i x := rfl
theorem fU_gO (u : FS) (i : Nat) (x : Int32) : fU (gO u i x) = fU u := rfl
theorem fL_gO (u : FS) (i : Nat) (x : Int32) : fL (gO u i x) = fL u := rfl
theorem fN_gU (u : FS) (i : Nat) (x : Int32) : fN (gU u i x) = fN u := rfl
theorem fT_gU (u : FS) (i : Nat) (x : Int32) : fT (gU u i x) = fT u := rfl
theorem fX_gU (u : FS) (i : Nat) (x : Int32) : fX (gU u i x) = fX u := rfl
theorem fY_gU (u : FS) (i : Nat) (x : Int32) : fY (gU u i x) = fY u := rfl
theorem fq0_gU (u : FS) (i : Nat) (x : Int32) : fq0 (gU u i x) = fq0 u := rfl
theorem fq1_gU (u : FS) (i : Nat) (x : Int32) : fq1 (gU u i x) = fq1 u := rfl
theorem fq2_gU (u : FS) (i : Nat) (x : Int32) : fq2 (gU u i x) = fq2 u := rfl
theorem fq3_gU (u : FS) (i : Nat) (x : Int32) : fq3 (gU u i x) = fq3 u := rfl
theorem fq4_gU (u : FS) (i : Nat) (x : Int32) : fq4 (gU u i x) = fq4 u := rfl
theorem fq5_gU (u : FS) (i : Nat) (x : Int32) : fq5 (gU u i x) = fq5 u := rfl
theorem fq6_gU (u : FS) (i : Nat) (x : Int32) : fq6 (gU u i x) = fq6 u := rfl
theorem fq7_gU (u : FS) (i : Nat) (x : Int32) : fq7 (gU u i x) = fq7 u := rfl
theorem fP_gU (u : FS) (i : Nat) (x : Int32) : fP (gU u i x) = fP u := rfl
theorem fA_gU (u : FS) (i : Nat) (x : Int32) : fA (gU u i x) = fA u := rfl
theorem fB_gU (u : FS) (i : Nat) (x : Int32) : fB (gU u i x) = fB u := rfl
theorem fI_gU (u : FS) (i : Nat) (x : Int32) : fI (gU u i x) = fI u := rfl
theorem fO_gU (u : FS) (i : Nat) (x : Int32) : fO (gU u i x) = fO u := rfl
theorem fU_gU (u : FS) (i : Nat) (x : Int32) : fU (gU u i x) = upd (fU u) i x := rfl
theorem fL_gU (u : FS) (i : Nat) (x : Int32) : fL (gU u i x) = fL u := rfl
theorem fN_gL (u : FS) (x : Int32) : fN (gL u x) = fN u := rfl
theorem fT_gL (u : FS) (x : Int32) : fT (gL u x) = fT u := rfl
theorem fX_gL (u : FS) (x : Int32) : fX (gL u x) = fX u := rfl
theorem fY_gL (u : FS) (x : Int32) : fY (gL u x) = fY u := rfl
theorem fq0_gL (u : FS) (x : Int32) : fq0 (gL u x) = fq0 u := rfl
theorem fq1_gL (u : FS) (x : Int32) : fq1 (gL u x) = fq1 u := rfl
theorem fq2_gL (u : FS) (x : Int32) : fq2 (gL u x) = fq2 u := rfl
theorem fq3_gL (u : FS) (x : Int32) : fq3 (gL u x) = fq3 u := rfl
theorem fq4_gL (u : FS) (x : Int32) : fq4 (gL u x) = fq4 u := rfl
theorem fq5_gL (u : FS) (x : Int32) : fq5 (gL u x) = fq5 u := rfl
theorem fq6_gL (u : FS) (x : Int32) : fq6 (gL u x) = fq6 u := rfl
theorem fq7_gL (u : FS) (x : Int32) : fq7 (gL u x) = fq7 u := rfl
theorem fP_gL (u : FS) (x : Int32) : fP (gL u x) = fP u := rfl
theorem fA_gL (u : FS) (x : Int32) : fA (gL u x) = fA u := rfl
theorem fB_gL (u : FS) (x : Int32) : fB (gL u x) = fB u := rfl
theorem fI_gL (u : FS) (x : Int32) : fI (gL u x) = fI u := rfl
theorem fO_gL (u : FS) (x : Int32) : fO (gL u x) = fO u := rfl
theorem fU_gL (u : FS) (x : Int32) : fU (gL u x) = fU u := rfl
theorem fL_gL (u : FS) (x : Int32) : fL (gL u x) = x := rfl
theorem FS_ext {u v : FS} (h0 : fN u = fN v) (h1 : fT u = fT v) (h2 : fX u = fX v) (h3 : fY u = fY v) (h4 : fq0 u = fq0 v) (h5 : fq1 u = fq1 v) (h6 : fq2 u = fq2 v) (h7 : fq3 u = fq3 v) (h8 : fq4 u = fq4 v) (h9 : fq5 u = fq5 v) (h10 : fq6 u = fq6 v) (h11 : fq7 u = fq7 v) (h12 : fP u = fP v) (h13 : fA u = fA v) (h14 : fB u = fB v) (h15 : fI u = fI v) (h16 : fO u = fO v) (h17 : fU u = fU v) (h18 : fL u = fL v) : u = v := by
  obtain ⟨a0, a1, a2, a3, a4, a5, a6, a7, a8, a9, a10, a11, a12, a13, a14, a15, a16, a17, a18⟩ := u
  obtain ⟨b0, b1, b2, b3, b4, b5, b6, b7, b8, b9, b10, b11, b12, b13, b14, b15, b16, b17, b18⟩ := v
  cases h0
  cases h1
  cases h2
  cases h3
  cases h4
  cases h5
  cases h6
  cases h7
  cases h8
  cases h9
  cases h10
  cases h11
  cases h12
  cases h13
  cases h14
  cases h15
  cases h16
  cases h17
  cases h18
  rfl
/-- a History and a State beside it: next, many; the State; the eight past ones -/
abbrev HT : Type := Int32 × Int32 × KS × KS × KS × KS × KS × KS × KS × KS × KS
def hX (u : HT) : Int32 := u.1
def hY (u : HT) : Int32 := u.2.1
def hV (u : HT) : KS := u.2.2.1
def hq0 (u : HT) : KS := u.2.2.2.1
def hq1 (u : HT) : KS := u.2.2.2.2.1
def hq2 (u : HT) : KS := u.2.2.2.2.2.1
def hq3 (u : HT) : KS := u.2.2.2.2.2.2.1
def hq4 (u : HT) : KS := u.2.2.2.2.2.2.2.1
def hq5 (u : HT) : KS := u.2.2.2.2.2.2.2.2.1
def hq6 (u : HT) : KS := u.2.2.2.2.2.2.2.2.2.1
def hq7 (u : HT) : KS := u.2.2.2.2.2.2.2.2.2.2
def iX (u : HT) (x : Int32) : HT := (x, u.2)
def iY (u : HT) (x : Int32) : HT := (u.1, x, u.2.2)
def iV (u : HT) (x : KS) : HT := (u.1, u.2.1, x, u.2.2.2)
def iq0 (u : HT) (x : KS) : HT := (u.1, u.2.1, u.2.2.1, x, u.2.2.2.2)
def iq1 (u : HT) (x : KS) : HT := (u.1, u.2.1, u.2.2.1, u.2.2.2.1, x, u.2.2.2.2.2)
def iq2 (u : HT) (x : KS) : HT := (u.1, u.2.1, u.2.2.1, u.2.2.2.1, u.2.2.2.2.1, x, u.2.2.2.2.2.2)
def iq3 (u : HT) (x : KS) : HT := (u.1, u.2.1, u.2.2.1, u.2.2.2.1, u.2.2.2.2.1, u.2.2.2.2.2.1, x, u.2.2.2.2.2.2.2)
def iq4 (u : HT) (x : KS) : HT := (u.1, u.2.1, u.2.2.1, u.2.2.2.1, u.2.2.2.2.1, u.2.2.2.2.2.1, u.2.2.2.2.2.2.1, x, u.2.2.2.2.2.2.2.2)
def iq5 (u : HT) (x : KS) : HT := (u.1, u.2.1, u.2.2.1, u.2.2.2.1, u.2.2.2.2.1, u.2.2.2.2.2.1, u.2.2.2.2.2.2.1, u.2.2.2.2.2.2.2.1, x, u.2.2.2.2.2.2.2.2.2)
def iq6 (u : HT) (x : KS) : HT := (u.1, u.2.1, u.2.2.1, u.2.2.2.1, u.2.2.2.2.1, u.2.2.2.2.2.1, u.2.2.2.2.2.2.1, u.2.2.2.2.2.2.2.1, u.2.2.2.2.2.2.2.2.1, x, u.2.2.2.2.2.2.2.2.2.2)
def iq7 (u : HT) (x : KS) : HT := (u.1, u.2.1, u.2.2.1, u.2.2.2.1, u.2.2.2.2.1, u.2.2.2.2.2.1, u.2.2.2.2.2.2.1, u.2.2.2.2.2.2.2.1, u.2.2.2.2.2.2.2.2.1, u.2.2.2.2.2.2.2.2.2.1, x)
theorem hX_iX (u : HT) (x : Int32) : hX (iX u x) = x := rfl
theorem hY_iX (u : HT) (x : Int32) : hY (iX u x) = hY u := rfl
theorem hV_iX (u : HT) (x : Int32) : hV (iX u x) = hV u := rfl
theorem hq0_iX (u : HT) (x : Int32) : hq0 (iX u x) = hq0 u := rfl
theorem hq1_iX (u : HT) (x : Int32) : hq1 (iX u x) = hq1 u := rfl
theorem hq2_iX (u : HT) (x : Int32) : hq2 (iX u x) = hq2 u := rfl
theorem hq3_iX (u : HT) (x : Int32) : hq3 (iX u x) = hq3 u := rfl
theorem hq4_iX (u : HT) (x : Int32) : hq4 (iX u x) = hq4 u := rfl
theorem hq5_iX (u : HT) (x : Int32) : hq5 (iX u x) = hq5 u := rfl
theorem hq6_iX (u : HT) (x : Int32) : hq6 (iX u x) = hq6 u := rfl
theorem hq7_iX (u : HT) (x : Int32) : hq7 (iX u x) = hq7 u := rfl
theorem hX_iY (u : HT) (x : Int32) : hX (iY u x) = hX u := rfl
theorem hY_iY (u : HT) (x : Int32) : hY (iY u x) = x := rfl
theorem hV_iY (u : HT) (x : Int32) : hV (iY u x) = hV u := rfl
theorem hq0_iY (u : HT) (x : Int32) : hq0 (iY u x) = hq0 u := rfl
theorem hq1_iY (u : HT) (x : Int32) : hq1 (iY u x) = hq1 u := rfl
theorem hq2_iY (u : HT) (x : Int32) : hq2 (iY u x) = hq2 u := rfl
theorem hq3_iY (u : HT) (x : Int32) : hq3 (iY u x) = hq3 u := rfl
theorem hq4_iY (u : HT) (x : Int32) : hq4 (iY u x) = hq4 u := rfl
theorem hq5_iY (u : HT) (x : Int32) : hq5 (iY u x) = hq5 u := rfl
theorem hq6_iY (u : HT) (x : Int32) : hq6 (iY u x) = hq6 u := rfl
theorem hq7_iY (u : HT) (x : Int32) : hq7 (iY u x) = hq7 u := rfl
theorem hX_iV (u : HT) (x : KS) : hX (iV u x) = hX u := rfl
theorem hY_iV (u : HT) (x : KS) : hY (iV u x) = hY u := rfl
theorem hV_iV (u : HT) (x : KS) : hV (iV u x) = x := rfl
theorem hq0_iV (u : HT) (x : KS) : hq0 (iV u x) = hq0 u := rfl
theorem hq1_iV (u : HT) (x : KS) : hq1 (iV u x) = hq1 u := rfl
theorem hq2_iV (u : HT) (x : KS) : hq2 (iV u x) = hq2 u := rfl
theorem hq3_iV (u : HT) (x : KS) : hq3 (iV u x) = hq3 u := rfl
theorem hq4_iV (u : HT) (x : KS) : hq4 (iV u x) = hq4 u := rfl
theorem hq5_iV (u : HT) (x : KS) : hq5 (iV u x) = hq5 u := rfl
theorem hq6_iV (u : HT) (x : KS) : hq6 (iV u x) = hq6 u := rfl
theorem hq7_iV (u : HT) (x : KS) : hq7 (iV u x) = hq7 u := rfl
theorem hX_iq0 (u : HT) (x : KS) : hX (iq0 u x) = hX u := rfl
theorem hY_iq0 (u : HT) (x : KS) : hY (iq0 u x) = hY u := rfl
theorem hV_iq0 (u : HT) (x : KS) : hV (iq0 u x) = hV u := rfl
theorem hq0_iq0 (u : HT) (x : KS) : hq0 (iq0 u x) = x := rfl
theorem hq1_iq0 (u : HT) (x : KS) : hq1 (iq0 u x) = hq1 u := rfl
theorem hq2_iq0 (u : HT) (x : KS) : hq2 (iq0 u x) = hq2 u := rfl
theorem hq3_iq0 (u : HT) (x : KS) : hq3 (iq0 u x) = hq3 u := rfl
theorem hq4_iq0 (u : HT) (x : KS) : hq4 (iq0 u x) = hq4 u := rfl
theorem hq5_iq0 (u : HT) (x : KS) : hq5 (iq0 u x) = hq5 u := rfl
theorem hq6_iq0 (u : HT) (x : KS) : hq6 (iq0 u x) = hq6 u := rfl
theorem hq7_iq0 (u : HT) (x : KS) : hq7 (iq0 u x) = hq7 u := rfl
theorem hX_iq1 (u : HT) (x : KS) : hX (iq1 u x) = hX u := rfl
theorem hY_iq1 (u : HT) (x : KS) : hY (iq1 u x) = hY u := rfl
theorem hV_iq1 (u : HT) (x : KS) : hV (iq1 u x) = hV u := rfl
theorem hq0_iq1 (u : HT) (x : KS) : hq0 (iq1 u x) = hq0 u := rfl
theorem hq1_iq1 (u : HT) (x : KS) : hq1 (iq1 u x) = x := rfl
theorem hq2_iq1 (u : HT) (x : KS) : hq2 (iq1 u x) = hq2 u := rfl
theorem hq3_iq1 (u : HT) (x : KS) : hq3 (iq1 u x) = hq3 u := rfl
theorem hq4_iq1 (u : HT) (x : KS) : hq4 (iq1 u x) = hq4 u := rfl
theorem hq5_iq1 (u : HT) (x : KS) : hq5 (iq1 u x) = hq5 u := rfl
theorem hq6_iq1 (u : HT) (x : KS) : hq6 (iq1 u x) = hq6 u := rfl
theorem hq7_iq1 (u : HT) (x : KS) : hq7 (iq1 u x) = hq7 u := rfl
theorem hX_iq2 (u : HT) (x : KS) : hX (iq2 u x) = hX u := rfl
theorem hY_iq2 (u : HT) (x : KS) : hY (iq2 u x) = hY u := rfl
theorem hV_iq2 (u : HT) (x : KS) : hV (iq2 u x) = hV u := rfl
theorem hq0_iq2 (u : HT) (x : KS) : hq0 (iq2 u x) = hq0 u := rfl
theorem hq1_iq2 (u : HT) (x : KS) : hq1 (iq2 u x) = hq1 u := rfl
theorem hq2_iq2 (u : HT) (x : KS) : hq2 (iq2 u x) = x := rfl
theorem hq3_iq2 (u : HT) (x : KS) : hq3 (iq2 u x) = hq3 u := rfl
theorem hq4_iq2 (u : HT) (x : KS) : hq4 (iq2 u x) = hq4 u := rfl
theorem hq5_iq2 (u : HT) (x : KS) : hq5 (iq2 u x) = hq5 u := rfl
theorem hq6_iq2 (u : HT) (x : KS) : hq6 (iq2 u x) = hq6 u := rfl
theorem hq7_iq2 (u : HT) (x : KS) : hq7 (iq2 u x) = hq7 u := rfl
theorem hX_iq3 (u : HT) (x : KS) : hX (iq3 u x) = hX u := rfl
theorem hY_iq3 (u : HT) (x : KS) : hY (iq3 u x) = hY u := rfl
theorem hV_iq3 (u : HT) (x : KS) : hV (iq3 u x) = hV u := rfl
theorem hq0_iq3 (u : HT) (x : KS) : hq0 (iq3 u x) = hq0 u := rfl
theorem hq1_iq3 (u : HT) (x : KS) : hq1 (iq3 u x) = hq1 u := rfl
theorem hq2_iq3 (u : HT) (x : KS) : hq2 (iq3 u x) = hq2 u := rfl
theorem hq3_iq3 (u : HT) (x : KS) : hq3 (iq3 u x) = x := rfl
theorem hq4_iq3 (u : HT) (x : KS) : hq4 (iq3 u x) = hq4 u := rfl
theorem hq5_iq3 (u : HT) (x : KS) : hq5 (iq3 u x) = hq5 u := rfl
theorem hq6_iq3 (u : HT) (x : KS) : hq6 (iq3 u x) = hq6 u := rfl
theorem hq7_iq3 (u : HT) (x : KS) : hq7 (iq3 u x) = hq7 u := rfl
theorem hX_iq4 (u : HT) (x : KS) : hX (iq4 u x) = hX u := rfl
theorem hY_iq4 (u : HT) (x : KS) : hY (iq4 u x) = hY u := rfl
theorem hV_iq4 (u : HT) (x : KS) : hV (iq4 u x) = hV u := rfl
theorem hq0_iq4 (u : HT) (x : KS) : hq0 (iq4 u x) = hq0 u := rfl
theorem hq1_iq4 (u : HT) (x : KS) : hq1 (iq4 u x) = hq1 u := rfl
theorem hq2_iq4 (u : HT) (x : KS) : hq2 (iq4 u x) = hq2 u := rfl
theorem hq3_iq4 (u : HT) (x : KS) : hq3 (iq4 u x) = hq3 u := rfl
theorem hq4_iq4 (u : HT) (x : KS) : hq4 (iq4 u x) = x := rfl
theorem hq5_iq4 (u : HT) (x : KS) : hq5 (iq4 u x) = hq5 u := rfl
theorem hq6_iq4 (u : HT) (x : KS) : hq6 (iq4 u x) = hq6 u := rfl
theorem hq7_iq4 (u : HT) (x : KS) : hq7 (iq4 u x) = hq7 u := rfl
theorem hX_iq5 (u : HT) (x : KS) : hX (iq5 u x) = hX u := rfl
theorem hY_iq5 (u : HT) (x : KS) : hY (iq5 u x) = hY u := rfl
theorem hV_iq5 (u : HT) (x : KS) : hV (iq5 u x) = hV u := rfl
theorem hq0_iq5 (u : HT) (x : KS) : hq0 (iq5 u x) = hq0 u := rfl
theorem hq1_iq5 (u : HT) (x : KS) : hq1 (iq5 u x) = hq1 u := rfl
theorem hq2_iq5 (u : HT) (x : KS) : hq2 (iq5 u x) = hq2 u := rfl
theorem hq3_iq5 (u : HT) (x : KS) : hq3 (iq5 u x) = hq3 u := rfl
theorem hq4_iq5 (u : HT) (x : KS) : hq4 (iq5 u x) = hq4 u := rfl
theorem hq5_iq5 (u : HT) (x : KS) : hq5 (iq5 u x) = x := rfl
theorem hq6_iq5 (u : HT) (x : KS) : hq6 (iq5 u x) = hq6 u := rfl
theorem hq7_iq5 (u : HT) (x : KS) : hq7 (iq5 u x) = hq7 u := rfl
theorem hX_iq6 (u : HT) (x : KS) : hX (iq6 u x) = hX u := rfl
theorem hY_iq6 (u : HT) (x : KS) : hY (iq6 u x) = hY u := rfl
theorem hV_iq6 (u : HT) (x : KS) : hV (iq6 u x) = hV u := rfl
theorem hq0_iq6 (u : HT) (x : KS) : hq0 (iq6 u x) = hq0 u := rfl
theorem hq1_iq6 (u : HT) (x : KS) : hq1 (iq6 u x) = hq1 u := rfl
theorem hq2_iq6 (u : HT) (x : KS) : hq2 (iq6 u x) = hq2 u := rfl
theorem hq3_iq6 (u : HT) (x : KS) : hq3 (iq6 u x) = hq3 u := rfl
theorem hq4_iq6 (u : HT) (x : KS) : hq4 (iq6 u x) = hq4 u := rfl
theorem hq5_iq6 (u : HT) (x : KS) : hq5 (iq6 u x) = hq5 u := rfl
theorem hq6_iq6 (u : HT) (x : KS) : hq6 (iq6 u x) = x := rfl
theorem hq7_iq6 (u : HT) (x : KS) : hq7 (iq6 u x) = hq7 u := rfl
theorem hX_iq7 (u : HT) (x : KS) : hX (iq7 u x) = hX u := rfl
theorem hY_iq7 (u : HT) (x : KS) : hY (iq7 u x) = hY u := rfl
theorem hV_iq7 (u : HT) (x : KS) : hV (iq7 u x) = hV u := rfl
theorem hq0_iq7 (u : HT) (x : KS) : hq0 (iq7 u x) = hq0 u := rfl
theorem hq1_iq7 (u : HT) (x : KS) : hq1 (iq7 u x) = hq1 u := rfl
theorem hq2_iq7 (u : HT) (x : KS) : hq2 (iq7 u x) = hq2 u := rfl
theorem hq3_iq7 (u : HT) (x : KS) : hq3 (iq7 u x) = hq3 u := rfl
theorem hq4_iq7 (u : HT) (x : KS) : hq4 (iq7 u x) = hq4 u := rfl
theorem hq5_iq7 (u : HT) (x : KS) : hq5 (iq7 u x) = hq5 u := rfl
theorem hq6_iq7 (u : HT) (x : KS) : hq6 (iq7 u x) = hq6 u := rfl
theorem hq7_iq7 (u : HT) (x : KS) : hq7 (iq7 u x) = x := rfl
theorem HT_ext {u v : HT} (h0 : hX u = hX v) (h1 : hY u = hY v) (h2 : hV u = hV v) (h3 : hq0 u = hq0 v) (h4 : hq1 u = hq1 v) (h5 : hq2 u = hq2 v) (h6 : hq3 u = hq3 v) (h7 : hq4 u = hq4 v) (h8 : hq5 u = hq5 v) (h9 : hq6 u = hq6 v) (h10 : hq7 u = hq7 v) : u = v := by
  obtain ⟨a0, a1, a2, a3, a4, a5, a6, a7, a8, a9, a10⟩ := u
  obtain ⟨b0, b1, b2, b3, b4, b5, b6, b7, b8, b9, b10⟩ := v
  cases h0
  cases h1
  cases h2
  cases h3
  cases h4
  cases h5
  cases h6
  cases h7
  cases h8
  cases h9
  cases h10
  rfl
def fH (u : FS) : HT := (fX u, fY u, fN u, fq0 u, fq1 u, fq2 u, fq3 u, fq4 u, fq5 u, fq6 u, fq7 u)
def gH (u : FS) (x : HT) : FS := gq7 (gq6 (gq5 (gq4 (gq3 (gq2 (gq1 (gq0 (gN (gY (gX u (hX x)) (hY x)) (hV x)) (hq0 x)) (hq1 x)) (hq2 x)) (hq3 x)) (hq4 x)) (hq5 x)) (hq6 x)) (hq7 x)
theorem fN_gH (u : FS) (x : HT) : fN (gH u x) = hV x := rfl
theorem fT_gH (u : FS) (x : HT) : fT (gH u x) = fT u := rfl
theorem fX_gH (u : FS) (x : HT) : fX (gH u x) = hX x := rfl
theorem fY_gH (u : FS) (x : HT) : fY (gH u x) = hY x := rfl
theorem fq0_gH (u : FS) (x : HT) : fq0 (gH u x) = hq0 x := rfl
theorem fq1_gH (u : FS) (x : HT) : fq1 (gH u x) = hq1 x := rfl
theorem fq2_gH (u : FS) (x : HT) : fq2 (gH u x) = hq2 x := rfl
theorem fq3_gH (u : FS) (x : HT) : fq3 (gH u x) = hq3 x := rfl
theorem fq4_gH (u : FS) (x : HT) : fq4 (gH u x) = hq4 x := rfl
theorem fq5_gH (u : FS) (x : HT) : fq5 (gH u x) = hq5 x := rfl
theorem fq6_gH (u : FS) (x : HT) : fq6 (gH u x) = hq6 x := rfl
theorem fq7_gH (u : FS) (x : HT) : fq7 (gH u x) = hq7 x := rfl
theorem fP_gH (u : FS) (x : HT) : fP (gH u x) = fP u := rfl
theorem fA_gH (u : FS) (x : HT) : fA (gH u x) = fA u := rfl
theorem fB_gH (u : FS) (x : HT) : fB (gH u x) = fB u := rfl
theorem fI_gH (u : FS) (x : HT) : fI (gH u x) = fI u := rfl
theorem fO_gH (u : FS) (x : HT) : fO (gH u x) = fO u := rfl
theorem fU_gH (u : FS) (x : HT) : fU (gH u x) = fU u := rfl
theorem fL_gH (u : FS) (x : HT) : fL (gH u x) = fL u := rfl
theorem hX_fH (u : FS) : hX (fH u) = fX u := rfl
theorem hY_fH (u : FS) : hY (fH u) = fY u := rfl
theorem hV_fH (u : FS) : hV (fH u) = fN u := rfl
theorem hq0_fH (u : FS) : hq0 (fH u) = fq0 u := rfl
theorem hq1_fH (u : FS) : hq1 (fH u) = fq1 u := rfl
theorem hq2_fH (u : FS) : hq2 (fH u) = fq2 u := rfl
theorem hq3_fH (u : FS) : hq3 (fH u) = fq3 u := rfl
theorem hq4_fH (u : FS) : hq4 (fH u) = fq4 u := rfl
theorem hq5_fH (u : FS) : hq5 (fH u) = fq5 u := rfl
theorem hq6_fH (u : FS) : hq6 (fH u) = fq6 u := rfl
theorem hq7_fH (u : FS) : hq7 (fH u) = fq7 u := rfl
/-- rows of States: the saved ones are the States 2, 3, the past ones 4 to 11 -/
def wH (cy : Nat → ClassId) (hi hp : Nat) (hh : Nat → Nat) (x y : Int32) : va_W := [(hi, .inr (0, [.ref hp, .int x, .int y])), (hp, .inl (cy 2, 8, .inr (.inr (.inr (.inr (fun i => some (hh (4 + i))))))))]
def fFs (ad hh pa : Nat → Nat) (u : FS) : List Value := [.ref (hh 0), .ref (hh 1), .ref (ad 5), .ref (ad 1), .ref (ad 2), .ref (pa 0), .ref (ad 3), .ref (ad 4), .int (fL u)]
def wF0 (cy : Nat → ClassId) (ad hh pa : Nat → Nat) (u : FS) : va_W := [(ad 0, .inr (3, fFs ad hh pa u)), (ad 1, .inl (cy 2, 2, .inr (.inr (.inr (.inr (fun i => some (hh (2 + i)))))))), (ad 2, .inl (cy 1, 2, .inl (fI u))), (ad 3, .inl (cy 0, 5, .inl (fO u))), (ad 4, .inl (cy 0, 256, .inl (fU u)))]
def wFl (cy : Nat → ClassId) (ad hh : Nat → Nat) (aa : Nat → Nat → Nat) (pa : Nat → Nat) (u : FS) : List va_W := [wF0 cy ad hh pa u, wS cy (hh 0) (aa 0) (fN u), wS cy (hh 1) (aa 1) (fT u), wH cy (ad 5) (ad 6) hh (fX u) (fY u), wS cy (hh 4) (aa 4) (fq0 u), wS cy (hh 5) (aa 5) (fq1 u), wS cy (hh 6) (aa 6) (fq2 u), wS cy (hh 7) (aa 7) (fq3 u), wS cy (hh 8) (aa 8) (fq4 u), wS cy (hh 9) (aa 9) (fq5 u), wS cy (hh 10) (aa 10) (fq6 u), wS cy (hh 11) (aa 11) (fq7 u), wP cy pa (fP u), wS cy (hh 2) (aa 2) (fA u), wS cy (hh 3) (aa 3) (fB u)]
def wF (cy : Nat → ClassId) (ad hh : Nat → Nat) (aa : Nat → Nat → Nat) (pa : Nat → Nat) (u : FS) : va_W := (wFl cy ad hh aa pa u).flatten
def wHTl (cy : Nat → ClassId) (hi hp : Nat) (hh : Nat → Nat) (aa : Nat → Nat → Nat) (h2 : Nat) (a2 : Nat → Nat) (u : HT) : List va_W := [wH cy hi hp hh (hX u) (hY u), wS cy h2 a2 (hV u), wS cy (hh 4) (aa 4) (hq0 u), wS cy (hh 5) (aa 5) (hq1 u), wS cy (hh 6) (aa 6) (hq2 u), wS cy (hh 7) (aa 7) (hq3 u), wS cy (hh 8) (aa 8) (hq4 u), wS cy (hh 9) (aa 9) (hq5 u), wS cy (hh 10) (aa 10) (hq6 u), wS cy (hh 11) (aa 11) (hq7 u)]
def wHT (cy : Nat → ClassId) (hi hp : Nat) (hh : Nat → Nat) (aa : Nat → Nat → Nat) (h2 : Nat) (a2 : Nat → Nat) (u : HT) : va_W := (wHTl cy hi hp hh aa h2 a2 u).flatten
theorem fFs_0 (ad hh pa : Nat → Nat) (u : FS) : (fFs ad hh pa u)[0]? = some (.ref (hh 0)) := rfl
theorem fFs_1 (ad hh pa : Nat → Nat) (u : FS) : (fFs ad hh pa u)[1]? = some (.ref (hh 1)) := rfl
theorem fFs_2 (ad hh pa : Nat → Nat) (u : FS) : (fFs ad hh pa u)[2]? = some (.ref (ad 5)) := rfl
theorem fFs_3 (ad hh pa : Nat → Nat) (u : FS) : (fFs ad hh pa u)[3]? = some (.ref (ad 1)) := rfl
theorem fFs_4 (ad hh pa : Nat → Nat) (u : FS) : (fFs ad hh pa u)[4]? = some (.ref (ad 2)) := rfl
theorem fFs_5 (ad hh pa : Nat → Nat) (u : FS) : (fFs ad hh pa u)[5]? = some (.ref (pa 0)) := rfl
theorem fFs_6 (ad hh pa : Nat → Nat) (u : FS) : (fFs ad hh pa u)[6]? = some (.ref (ad 3)) := rfl
theorem fFs_7 (ad hh pa : Nat → Nat) (u : FS) : (fFs ad hh pa u)[7]? = some (.ref (ad 4)) := rfl
theorem fFs_8 (ad hh pa : Nat → Nat) (u : FS) : (fFs ad hh pa u)[8]? = some (.int (fL u)) := rfl
