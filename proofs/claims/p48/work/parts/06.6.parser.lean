/-! worlds of blocks; the pure state of a Parser, and its world -/
theorem k_rng {α : Type} : ∀ l : List α, (List.range l.length).filterMap (fun i => l[i]?) = l
  | [] => rfl
  | x :: xs => by
    rw [List.length_cons, List.range_succ_eq_map, List.filterMap_cons]
    show x :: (List.map Nat.succ (List.range xs.length)).filterMap (fun i => (x :: xs)[i]?) = x :: xs
    rw [List.filterMap_map]
    exact congrArg (x :: ·) (k_rng xs)
theorem k_sel {α : Type} {l : List α} (is js : List Nat) {cs : List α} {n : Nat} (h : is.map (fun i => l[i]?) = cs.map some) (hl : l.length = n) (hp : (is ++ js).Perm (List.range n)) : l.Perm (cs ++ js.filterMap (fun i => l[i]?)) := by
  subst hl
  have h1 : is.filterMap (fun i => l[i]?) = cs := by
    have e : is.filterMap (fun i => l[i]?) = (is.map (fun i => l[i]?)).filterMap id := by rw [List.filterMap_map]; rfl
    rw [e, h, List.filterMap_map]
    exact List.filterMap_some
  have h2 := (hp.filterMap (fun i => l[i]?)).symm
  rw [k_rng, List.filterMap_append, h1] at h2
  exact h2
theorem k_seln {l : List va_W} (is js : List Nat) {cs : List va_W} {n : Nat} (h : is.map (fun i => l[i]?) = cs.map some) (hl : l.length = n) (hp : (is ++ js).Perm (List.range n)) : l.flatten.Perm (cs.flatten ++ (js.filterMap (fun i => l[i]?)).flatten) := by
  rw [← List.flatten_append]
  exact (k_sel is js h hl hp).flatten
theorem k_copy {p : Program} {l : Launch} {e : Env} {R : Room} {s : State} {m : MethodId} {args : Array Value} {below : List Frame} {meth : Method} {c : Code} {H H0 : Heap} {locs : List Loc} {cells slots : Nat} {Q : State → Prop} {cc : ByteArray} {pc : Nat} {rest : List Value} {ls : Array Slot} {D : va_G} {cy : Nat → ClassId} {ws : va_W} {A : Nat → Prop} (hx : p.tables.exec = Jvm.exec) (hb : c.code = cc) (hml : c.maxLocals = ls.size) {own : String} {index : Nat} (hown : s.vm.findClass own = some m.cls) (hlink : (Cond.methodLink own index arraycopyName).before args s = true) (hnat : (Cond.native arraycopyName).before args s = true) (hstat : (Cond.static arraycopyName).before args s = true) (hini : (Cond.initialized "java/lang/System").before args s = true)
    (hK : mK D cy s) (hP : va_P D kCl ws H) (hD : va_D A ws) (hS : va_S A H0 H locs) (q0 q1 : Nat) {a a0 n0 n1 k1 k2 k : Nat} {f g : Nat → Int32} (ha0 : ws[q0]? = some (a0, .inl (cy 0, n0, .inl f))) (ha1 : ws[q1]? = some (a, .inl (cy 0, n1, .inl g)))
    {sp dp n : Int32} (h1 : ¬ sp < 0) (h2 : ¬ dp < 0) (h3 : ¬ n < 0) (e1 : sp.toNatClampNeg = k1) (e2 : dp.toNatClampNeg = k2) (e3 : n.toNatClampNeg = k) (h4 : k1 + k ≤ n0) (h5 : k2 + k ≤ n1)
    (hframes : 1 ≤ R.frames) (hlocals : (rest.map fun v => v.category).sum + (nativeFrameWords "java/lang/System" "arraycopy" 5 + 11) ≤ R.locals) {ws' : va_W} (hws : ws.set q1 (a, .inl (cy 0, n1, .inl (va_cpy f g k1 k2 k))) = ws') (hdg : decode cc pc = .ok (.invokestatic index, 3))
    (kk : ∀ (H1 : Heap) (locs1 : List Loc), va_P D kCl ws' H1 → va_D A ws' → va_S A H0 H1 locs1 → W p l e R s m args below meth c H1 locs1 cells slots Q (F0 m (pc + 3) ls rest)) : W p l e R s m args below meth c H locs cells slots Q (F0 m pc ls (.int n :: .int dp :: .ref a :: .int sp :: .ref a0 :: rest)) := by
  subst e1
  subst e2
  subst e3
  subst hws
  exact va_copyi hx hb hml hown hlink hnat hstat hini hK.1 hP hD hS q0 q1 0 0 ha0 ha1 rfl rfl rfl h1 h2 h3 h4 h5 (fun _ _ => rfl) hframes hlocals hdg kk
theorem k_sel1 {l : List va_W} (i : Nat) (js : List Nat) {B : va_W} {n : Nat} (h : l[i]? = some B) (hl : l.length = n) (hp : (i :: js).Perm (List.range n)) : l.flatten.Perm (B ++ (js.filterMap (fun i => l[i]?)).flatten) := by
  rw [← List.flatten_cons]
  exact (k_sel [i] js (cs := [B]) (by rw [List.map_cons, List.map_nil, h]; rfl) hl hp).flatten
/-- a Parser: bytes, commands; its numbers -/
abbrev PS : Type := (Nat → Int32) × (Nat → Int32) × Int32 × Int32 × Int32 × Int32 × Int32 × Int32 × Int32 × Int32 × Int32
def pBy (u : PS) : Nat → Int32 := u.1
def pCo (u : PS) : Nat → Int32 := u.2.1
def pLe (u : PS) : Int32 := u.2.2.1
def pEc (u : PS) : Int32 := u.2.2.2.1
def pEp (u : PS) : Int32 := u.2.2.2.2.1
def pCc (u : PS) : Int32 := u.2.2.2.2.2.1
def pTy (u : PS) : Int32 := u.2.2.2.2.2.2.1
def pSt (u : PS) : Int32 := u.2.2.2.2.2.2.2.1
def pEn (u : PS) : Int32 := u.2.2.2.2.2.2.2.2.1
def pSo (u : PS) : Int32 := u.2.2.2.2.2.2.2.2.2.1
def pKo (u : PS) : Int32 := u.2.2.2.2.2.2.2.2.2.2
def tBy (u : PS) (i : Nat) (x : Int32) : PS := (upd u.1 i x, u.2)
def tCo (u : PS) (i : Nat) (x : Int32) : PS := (u.1, upd u.2.1 i x, u.2.2)
def tLe (u : PS) (x : Int32) : PS := (u.1, u.2.1, x, u.2.2.2)
def tEc (u : PS) (x : Int32) : PS := (u.1, u.2.1, u.2.2.1, x, u.2.2.2.2)
def tEp (u : PS) (x : Int32) : PS := (u.1, u.2.1, u.2.2.1, u.2.2.2.1, x, u.2.2.2.2.2)
def tCc (u : PS) (x : Int32) : PS := (u.1, u.2.1, u.2.2.1, u.2.2.2.1, u.2.2.2.2.1, x, u.2.2.2.2.2.2)
def tTy (u : PS) (x : Int32) : PS := (u.1, u.2.1, u.2.2.1, u.2.2.2.1, u.2.2.2.2.1, u.2.2.2.2.2.1, x, u.2.2.2.2.2.2.2)
def tSt (u : PS) (x : Int32) : PS := (u.1, u.2.1, u.2.2.1, u.2.2.2.1, u.2.2.2.2.1, u.2.2.2.2.2.1, u.2.2.2.2.2.2.1, x, u.2.2.2.2.2.2.2.2)
def tEn (u : PS) (x : Int32) : PS := (u.1, u.2.1, u.2.2.1, u.2.2.2.1, u.2.2.2.2.1, u.2.2.2.2.2.1, u.2.2.2.2.2.2.1, u.2.2.2.2.2.2.2.1, x, u.2.2.2.2.2.2.2.2.2)
def tSo (u : PS) (x : Int32) : PS := (u.1, u.2.1, u.2.2.1, u.2.2.2.1, u.2.2.2.2.1, u.2.2.2.2.2.1, u.2.2.2.2.2.2.1, u.2.2.2.2.2.2.2.1, u.2.2.2.2.2.2.2.2.1, x, u.2.2.2.2.2.2.2.2.2.2)
def tKo (u : PS) (x : Int32) : PS := (u.1, u.2.1, u.2.2.1, u.2.2.2.1, u.2.2.2.2.1, u.2.2.2.2.2.1, u.2.2.2.2.2.2.1, u.2.2.2.2.2.2.2.1, u.2.2.2.2.2.2.2.2.1, u.2.2.2.2.2.2.2.2.2.1, x)
theorem pBy_tBy (u : PS) (i : Nat) (x : Int32) : pBy (tBy u i x) = upd (pBy u) i x := rfl
theorem pCo_tBy (u : PS) (i : Nat) (x : Int32) : pCo (tBy u i x) = pCo u := rfl
theorem pLe_tBy (u : PS) (i : Nat) (x : Int32) : pLe (tBy u i x) = pLe u := rfl
theorem pEc_tBy (u : PS) (i : Nat) (x : Int32) : pEc (tBy u i x) = pEc u := rfl
theorem pEp_tBy (u : PS) (i : Nat) (x : Int32) : pEp (tBy u i x) = pEp u := rfl
theorem pCc_tBy (u : PS) (i : Nat) (x : Int32) : pCc (tBy u i x) = pCc u := rfl
theorem pTy_tBy (u : PS) (i : Nat) (x : Int32) : pTy (tBy u i x) = pTy u := rfl
theorem pSt_tBy (u : PS) (i : Nat) (x : Int32) : pSt (tBy u i x) = pSt u := rfl
theorem pEn_tBy (u : PS) (i : Nat) (x : Int32) : pEn (tBy u i x) = pEn u := rfl
theorem pSo_tBy (u : PS) (i : Nat) (x : Int32) : pSo (tBy u i x) = pSo u := rfl
theorem pKo_tBy (u : PS) (i : Nat) (x : Int32) : pKo (tBy u i x) = pKo u := rfl
theorem pBy_tCo (u : PS) (i : Nat) (x : Int32) : pBy (tCo u i x) = pBy u := rfl
theorem pCo_tCo (u : PS) (i : Nat) (x : Int32) : pCo (tCo u i x) = upd (pCo u) i x := rfl
theorem pLe_tCo (u : PS) (i : Nat) (x : Int32) : pLe (tCo u i x) = pLe u := rfl
theorem pEc_tCo (u : PS) (i : Nat) (x : Int32) : pEc (tCo u i x) = pEc u := rfl
theorem pEp_tCo (u : PS) (i : Nat) (x : Int32) : pEp (tCo u i x) = pEp u := rfl
theorem pCc_tCo (u : PS) (i : Nat) (x : Int32) : pCc (tCo u i x) = pCc u := rfl
theorem pTy_tCo (u : PS) (i : Nat) (x : Int32) : pTy (tCo u i x) = pTy u := rfl
theorem pSt_tCo (u : PS) (i : Nat) (x : Int32) : pSt (tCo u i x) = pSt u := rfl
theorem pEn_tCo (u : PS) (i : Nat) (x : Int32) : pEn (tCo u i x) = pEn u := rfl
theorem pSo_tCo (u : PS) (i : Nat) (x : Int32) : pSo (tCo u i x) = pSo u := rfl
theorem pKo_tCo (u : PS) (i : Nat) (x : Int32) : pKo (tCo u i x) = pKo u := rfl
theorem pBy_tLe (u : PS) (x : Int32) : pBy (tLe u x) = pBy u := rfl
theorem pCo_tLe (u : PS) (x : Int32) : pCo (tLe u x) = pCo u := rfl
theorem pLe_tLe (u : PS) (x : Int32) : pLe (tLe u x) = x := rfl
theorem pEc_tLe (u : PS) (x : Int32) : pEc (tLe u x) = pEc u := rfl
theorem pEp_tLe (u : PS) (x : Int32) : pEp (tLe u x) = pEp u := rfl
theorem pCc_tLe (u : PS) (x : Int32) : pCc (tLe u x) = pCc u := rfl
theorem pTy_tLe (u : PS) (x : Int32) : pTy (tLe u x) = pTy u := rfl
theorem pSt_tLe (u : PS) (x : Int32) : pSt (tLe u x) = pSt u := rfl
theorem pEn_tLe (u : PS) (x : Int32) : pEn (tLe u x) = pEn u := rfl
theorem pSo_tLe (u : PS) (x : Int32) : pSo (tLe u x) = pSo u := rfl
theorem pKo_tLe (u : PS) (x : Int32) : pKo (tLe u x) = pKo u := rfl
theorem pBy_tEc (u : PS) (x : Int32) : pBy (tEc u x) = pBy u := rfl
theorem pCo_tEc (u : PS) (x : Int32) : pCo (tEc u x) = pCo u := rfl
theorem pLe_tEc (u : PS) (x : Int32) : pLe (tEc u x) = pLe u := rfl
theorem pEc_tEc (u : PS) (x : Int32) : pEc (tEc u x) = x := rfl
theorem pEp_tEc (u : PS) (x : Int32) : pEp (tEc u x) = pEp u := rfl
theorem pCc_tEc (u : PS) (x : Int32) : pCc (tEc u x) = pCc u := rfl
theorem pTy_tEc (u : PS) (x : Int32) : pTy (tEc u x) = pTy u := rfl
theorem pSt_tEc (u : PS) (x : Int32) : pSt (tEc u x) = pSt u := rfl
theorem pEn_tEc (u : PS) (x : Int32) : pEn (tEc u x) = pEn u := rfl
theorem pSo_tEc (u : PS) (x : Int32) : pSo (tEc u x) = pSo u := rfl
theorem pKo_tEc (u : PS) (x : Int32) : pKo (tEc u x) = pKo u := rfl
theorem pBy_tEp (u : PS) (x : Int32) : pBy (tEp u x) = pBy u := rfl
theorem pCo_tEp (u : PS) (x : Int32) : pCo (tEp u x) = pCo u := rfl
theorem pLe_tEp (u : PS) (x : Int32) : pLe (tEp u x) = pLe u := rfl
theorem pEc_tEp (u : PS) (x : Int32) : pEc (tEp u x) = pEc u := rfl
theorem pEp_tEp (u : PS) (x : Int32) : pEp (tEp u x) = x := rfl
theorem pCc_tEp (u : PS) (x : Int32) : pCc (tEp u x) = pCc u := rfl
theorem pTy_tEp (u : PS) (x : Int32) : pTy (tEp u x) = pTy u := rfl
theorem pSt_tEp (u : PS) (x : Int32) : pSt (tEp u x) = pSt u := rfl
theorem pEn_tEp (u : PS) (x : Int32) : pEn (tEp u x) = pEn u := rfl
theorem pSo_tEp (u : PS) (x : Int32) : pSo (tEp u x) = pSo u := rfl
theorem pKo_tEp (u : PS) (x : Int32) : pKo (tEp u x) = pKo u := rfl
theorem pBy_tCc (u : PS) (x : Int32) : pBy (tCc u x) = pBy u := rfl
theorem pCo_tCc (u : PS) (x : Int32) : pCo (tCc u x) = pCo u := rfl
theorem pLe_tCc (u : PS) (x : Int32) : pLe (tCc u x) = pLe u := rfl
theorem pEc_tCc (u : PS) (x : Int32) : pEc (tCc u x) = pEc u := rfl
theorem pEp_tCc (u : PS) (x : Int32) : pEp (tCc u x) = pEp u := rfl
theorem pCc_tCc (u : PS) (x : Int32) : pCc (tCc u x) = x := rfl
theorem pTy_tCc (u : PS) (x : Int32) : pTy (tCc u x) = pTy u := rfl
theorem pSt_tCc (u : PS) (x : Int32) : pSt (tCc u x) = pSt u := rfl
theorem pEn_tCc (u : PS) (x : Int32) : pEn (tCc u x) = pEn u := rfl
theorem pSo_tCc (u : PS) (x : Int32) : pSo (tCc u x) = pSo u := rfl
theorem pKo_tCc (u : PS) (x : Int32) : pKo (tCc u x) = pKo u := rfl
theorem pBy_tTy (u : PS) (x : Int32) : pBy (tTy u x) = pBy u := rfl
theorem pCo_tTy (u : PS) (x : Int32) : pCo (tTy u x) = pCo u := rfl
theorem pLe_tTy (u : PS) (x : Int32) : pLe (tTy u x) = pLe u := rfl
theorem pEc_tTy (u : PS) (x : Int32) : pEc (tTy u x) = pEc u := rfl
theorem pEp_tTy (u : PS) (x : Int32) : pEp (tTy u x) = pEp u := rfl
theorem pCc_tTy (u : PS) (x : Int32) : pCc (tTy u x) = pCc u := rfl
theorem pTy_tTy (u : PS) (x : Int32) : pTy (tTy u x) = x := rfl
theorem pSt_tTy (u : PS) (x : Int32) : pSt (tTy u x) = pSt u := rfl
theorem pEn_tTy (u : PS) (x : Int32) : pEn (tTy u x) = pEn u := rfl
theorem pSo_tTy (u : PS) (x : Int32) : pSo (tTy u x) = pSo u := rfl
theorem pKo_tTy (u : PS) (x : Int32) : pKo (tTy u x) = pKo u := rfl
theorem pBy_tSt (u : PS) (x : Int32) : pBy (tSt u x) = pBy u := rfl
theorem pCo_tSt (u : PS) (x : Int32) : pCo (tSt u x) = pCo u := rfl
theorem pLe_tSt (u : PS) (x : Int32) : pLe (tSt u x) = pLe u := rfl
theorem pEc_tSt (u : PS) (x : Int32) : pEc (tSt u x) = pEc u := rfl
theorem pEp_tSt (u : PS) (x : Int32) : pEp (tSt u x) = pEp u := rfl
theorem pCc_tSt (u : PS) (x : Int32) : pCc (tSt u x) = pCc u := rfl
theorem pTy_tSt (u : PS) (x : Int32) : pTy (tSt u x) = pTy u := rfl
theorem pSt_tSt (u : PS) (x : Int32) : pSt (tSt u x) = x := rfl
theorem pEn_tSt (u : PS) (x : Int32) : pEn (tSt u x) = pEn u := rfl
theorem pSo_tSt (u : PS) (x : Int32) : pSo (tSt u x) = pSo u := rfl
theorem pKo_tSt (u : PS) (x : Int32) : pKo (tSt u x) = pKo u := rfl
theorem pBy_tEn (u : PS) (x : Int32) : pBy (tEn u x) = pBy u := rfl
theorem pCo_tEn (u : PS) (x : Int32) : pCo (tEn u x) = pCo u := rfl
theorem pLe_tEn (u : PS) (x : Int32) : pLe (tEn u x) = pLe u := rfl
theorem pEc_tEn (u : PS) (x : Int32) : pEc (tEn u x) = pEc u := rfl
theorem pEp_tEn (u : PS) (x : Int32) : pEp (tEn u x) = pEp u := rfl
theorem pCc_tEn (u : PS) (x : Int32) : pCc (tEn u x) = pCc u := rfl
theorem pTy_tEn (u : PS) (x : Int32) : pTy (tEn u x) = pTy u := rfl
theorem pSt_tEn (u : PS) (x : Int32) : pSt (tEn u x) = pSt u := rfl
theorem pEn_tEn (u : PS) (x : Int32) : pEn (tEn u x) = x := rfl
theorem pSo_tEn (u : PS) (x : Int32) : pSo (tEn u x) = pSo u := rfl
theorem pKo_tEn (u : PS) (x : Int32) : pKo (tEn u x) = pKo u := rfl
theorem pBy_tSo (u : PS) (x : Int32) : pBy (tSo u x) = pBy u := rfl
theorem pCo_tSo (u : PS) (x : Int32) : pCo (tSo u x) = pCo u := rfl
theorem pLe_tSo (u : PS) (x : Int32) : pLe (tSo u x) = pLe u := rfl
theorem pEc_tSo (u : PS) (x : Int32) : pEc (tSo u x) = pEc u := rfl
theorem pEp_tSo (u : PS) (x : Int32) : pEp (tSo u x) = pEp u := rfl
theorem pCc_tSo (u : PS) (x : Int32) : pCc (tSo u x) = pCc u := rfl
theorem pTy_tSo (u : PS) (x : Int32) : pTy (tSo u x) = pTy u := rfl
theorem pSt_tSo (u : PS) (x : Int32) : pSt (tSo u x) = pSt u := rfl
theorem pEn_tSo (u : PS) (x : Int32) : pEn (tSo u x) = pEn u := rfl
theorem pSo_tSo (u : PS) (x : Int32) : pSo (tSo u x) = x := rfl
theorem pKo_tSo (u : PS) (x : Int32) : pKo (tSo u x) = pKo u := rfl
theorem pBy_tKo (u : PS) (x : Int32) : pBy (tKo u x) = pBy u := rfl
theorem pCo_tKo (u : PS) (x : Int32) : pCo (tKo u x) = pCo u := rfl
theorem pLe_tKo (u : PS) (x : Int32) : pLe (tKo u x) = pLe u := rfl
theorem pEc_tKo (u : PS) (x : Int32) : pEc (tKo u x) = pEc u := rfl
theorem pEp_tKo (u : PS) (x : Int32) : pEp (tKo u x) = pEp u := rfl
theorem pCc_tKo (u : PS) (x : Int32) : pCc (tKo u x) = pCc u := rfl
theorem pTy_tKo (u : PS) (x : Int32) : pTy (tKo u x) = pTy u := rfl
theorem pSt_tKo (u : PS) (x : Int32) : pSt (tKo u x) = pSt u := rfl
theorem pEn_tKo (u : PS) (x : Int32) : pEn (tKo u x) = pEn u := rfl
theorem pSo_tKo (u : PS) (x : Int32) : pSo (tKo u x) = pSo u := rfl
theorem pKo_tKo (u : PS) (x : Int32) : pKo (tKo u x) = x := rfl
theorem PS_ext {u v : PS} (h0 : pBy u = pBy v) (h1 : pCo u = pCo v) (h2 : pLe u = pLe v) (h3 : pEc u = pEc v) (h4 : pEp u = pEp v) (h5 : pCc u = pCc v) (h6 : pTy u = pTy v) (h7 : pSt u = pSt v) (h8 : pEn u = pEn v) (h9 : pSo u = pSo v) (h10 : pKo u = pKo v) : u = v := by
  obtain ⟨a0, a1, a2, a3, a4, a5, a6, a7, a8, a9, a10⟩ := u
  obtain ⟨b0, b1, b2, b3, b4, b5, b6, b7, b8, b9, b10⟩ := v
  cases h0
  cases h1
  cases h2
  cases h3
  cases h4
  cases h5
  cases h6
  cases h7
  cases h8
  cases h9
  cases h10
  rfl
def pFs (g : Nat → Nat) (u : PS) : List Value := [.ref (g 1), .int (pLe u), .int (pEc u), .int (pEp u), .ref (g 2), .int (pCc u), .int (pTy u), .int (pSt u), .int (pEn u), .int (pSo u), .int (pKo u)]
def wP (cy : Nat → ClassId) (g : Nat → Nat) (u : PS) : va_W := [(g 0, .inr (1, pFs g u)), (g 1, .inl (cy 0, 500, .inl (pBy u))), (g 2, .inl (cy 0, 160, .inl (pCo u)))]
theorem wP_a0 (cy : Nat → ClassId) (g : Nat → Nat) (u : PS) : (wP cy g u)[0]? = some (g 0, .inr (1, pFs g u)) := rfl
theorem wP_a1 (cy : Nat → ClassId) (g : Nat → Nat) (u : PS) : (wP cy g u)[1]? = some (g 1, .inl (cy 0, 500, .inl (pBy u))) := rfl
theorem wP_tBy (cy : Nat → ClassId) (g : Nat → Nat) (u : PS) (i : Nat) (x : Int32) : (wP cy g u).set 1 (g 1, .inl (cy 0, 500, .inl (upd (pBy u) i x))) = wP cy g (tBy u i x) := rfl
theorem wP_a2 (cy : Nat → ClassId) (g : Nat → Nat) (u : PS) : (wP cy g u)[2]? = some (g 2, .inl (cy 0, 160, .inl (pCo u))) := rfl
theorem wP_tCo (cy : Nat → ClassId) (g : Nat → Nat) (u : PS) (i : Nat) (x : Int32) : (wP cy g u).set 2 (g 2, .inl (cy 0, 160, .inl (upd (pCo u) i x))) = wP cy g (tCo u i x) := rfl
theorem pFs_0 (g : Nat → Nat) (u : PS) : (pFs g u)[0]? = some (.ref (g 1)) := rfl
theorem wP_tLe (cy : Nat → ClassId) (g : Nat → Nat) (u : PS) (x : Int32) : (wP cy g u).set 0 (g 0, .inr (1, (pFs g u).set 1 (.int x))) = wP cy g (tLe u x) := rfl
theorem pFs_1 (g : Nat → Nat) (u : PS) : (pFs g u)[1]? = some (.int (pLe u)) := rfl
theorem wP_tEc (cy : Nat → ClassId) (g : Nat → Nat) (u : PS) (x : Int32) : (wP cy g u).set 0 (g 0, .inr (1, (pFs g u).set 2 (.int x))) = wP cy g (tEc u x) := rfl
theorem pFs_2 (g : Nat → Nat) (u : PS) : (pFs g u)[2]? = some (.int (pEc u)) := rfl
theorem wP_tEp (cy : Nat → ClassId) (g : Nat → Nat) (u : PS) (x : Int32) : (wP cy g u).set 0 (g 0, .inr (1, (pFs g u).set 3 (.int x))) = wP cy g (tEp u x) := rfl
theorem pFs_3 (g : Nat → Nat) (u : PS) : (pFs g u)[3]? = some (.int (pEp u)) := rfl
theorem pFs_4 (g : Nat → Nat) (u : PS) : (pFs g u)[4]? = some (.ref (g 2)) := rfl
theorem wP_tCc (cy : Nat → ClassId) (g : Nat → Nat) (u : PS) (x : Int32) : (wP cy g u).set 0 (g 0, .inr (1, (pFs g u).set 5 (.int x))) = wP cy g (tCc u x) := rfl
theorem pFs_5 (g : Nat → Nat) (u : PS) : (pFs g u)[5]? = some (.int (pCc u)) := rfl
theorem wP_tTy (cy : Nat → ClassId) (g : Nat → Nat) (u : PS) (x : Int32) : (wP cy g u).set 0 (g 0, .inr (1, (pFs g u).set 6 (.int x))) = wP cy g (tTy u x) := rfl
theorem pFs_6 (g : Nat → Nat) (u : PS) : (pFs g u)[6]? = some (.int (pTy u)) := rfl
theorem wP_tSt (cy : Nat → ClassId) (g : Nat → Nat) (u : PS) (x : Int32) : (wP cy g u).set 0 (g 0, .inr (1, (pFs g u).set 7 (.int x))) = wP cy g (tSt u x) := rfl
theorem pFs_7 (g : Nat → Nat) (u : PS) : (pFs g u)[7]? = some (.int (pSt u)) := rfl
theorem wP_tEn (cy : Nat → ClassId) (g : Nat → Nat) (u : PS) (x : Int32) : (wP cy g u).set 0 (g 0, .inr (1, (pFs g u).set 8 (.int x))) = wP cy g (tEn u x) := rfl
theorem pFs_8 (g : Nat → Nat) (u : PS) : (pFs g u)[8]? = some (.int (pEn u)) := rfl
theorem wP_tSo (cy : Nat → ClassId) (g : Nat → Nat) (u : PS) (x : Int32) : (wP cy g u).set 0 (g 0, .inr (1, (pFs g u).set 9 (.int x))) = wP cy g (tSo u x) := rfl
theorem pFs_9 (g : Nat → Nat) (u : PS) : (pFs g u)[9]? = some (.int (pSo u)) := rfl
theorem wP_tKo (cy : Nat → ClassId) (g : Nat → Nat) (u : PS) (x : Int32) : (wP cy g u).set 0 (g 0, .inr (1, (pFs g u).set 10 (.int x))) = wP cy g (tKo u x) := rfl
theorem pFs_10 (g : Nat → Nat) (u : PS) : (pFs g u)[10]? = some (.int (pKo u)) := rfl
