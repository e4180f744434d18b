/-! the pure state of a State object, and its world -/
theorem fl_at {pre post : List va_W} {B : va_W} {q n : Nat} {x : Nat × va_E} (hn : pre.flatten.length + q = n) (h : B[q]? = some x) : ((pre ++ B :: post).flatten)[n]? = some x := by
  subst hn
  rw [List.flatten_append, List.getElem?_append_right (Nat.le_add_right _ _), Nat.add_sub_cancel_left, List.flatten_cons, List.getElem?_append_left (List.getElem?_eq_some_iff.mp h).1]
  exact h
theorem fl_set {pre post : List va_W} {B B' : va_W} {q n : Nat} {x : Nat × va_E} (hn : pre.flatten.length + q = n) (hq : q < B.length) (h : B.set q x = B') : ((pre ++ B :: post).flatten).set n x = (pre ++ B' :: post).flatten := by
  subst hn
  rw [List.flatten_append, List.flatten_append, List.set_append_right _ _ (Nat.le_add_right _ _), Nat.add_sub_cancel_left, List.flatten_cons, List.flatten_cons, List.set_append_left _ _ hq, h]
theorem k_zast {p : Program} {l : Launch} {e : Env} {R : Room} {s : State} {m : MethodId} {args : Array Value} {below : List Frame} {meth : Method} {c : Code} {H H0 : Heap} {locs : List Loc} {cells slots : Nat} {Q : State → Prop} {cc : ByteArray} {pc : Nat} {rest : List Value} {ls : Array Slot} {D : va_G} {cy : Nat → ClassId} {ws : va_W} {A : Nat → Prop} (hx : p.tables.exec = Jvm.exec) (hb : c.code = cc) (hK : mK D cy s) (hP : va_P D kCl ws H) (hD : va_D A ws) (hS : va_S A H0 H locs) (q0 : Nat) {a n : Nat} {f : Nat → Int32} (ha : ws[q0]? = some (a, .inl (cy 1, n, .inl f))) {i x : Int32} {k : Nat} (hin : inb i n = true) (hi : ix i = k) (hz : vp_nar .boolean x = x) {ws' : va_W} (hws : ws.set q0 (a, .inl (cy 1, n, .inl (upd f k x))) = ws') (hdg : decode cc pc = .ok (.bastore, 1))
    (kk : ∀ (H1 : Heap) (locs1 : List Loc), va_P D kCl ws' H1 → va_D A ws' → va_S A H0 H1 locs1 → W p l e R s m args below meth c H1 locs1 cells slots Q (F0 m (pc + 1) ls rest)) : W p l e R s m args below meth c H locs cells slots Q (F0 m pc ls (.int x :: .int i :: .ref a :: rest)) := by
  subst hi
  subst hws
  refine va_zast hx hb hK.1 hP hD hS q0 1 ha rfl (inb_vp hin) hdg ?_
  rw [hz]
  exact kk
theorem k_pick2 {α : Type} {l : List α} {i j : Nat} {x y : α} (h : l[i]? = some x) (h2 : (l.eraseIdx i)[j]? = some y) : l.Perm ([x, y] ++ (l.eraseIdx i).eraseIdx j) := (k_pick h).trans ((k_pick h2).cons x)
/-- a State: counts, settings, kinds, cars, queue, onDeck, deckCars, weights, taken, calls; deck, slope, lip -/
abbrev KS : Type := (Nat → Int32) × (Nat → Int32) × (Nat → Int32) × (Nat → Int32) × (Nat → Int32) × (Nat → Int32) × (Nat → Int32) × (Nat → Int32) × (Nat → Int32) × (Nat → Int32) × Int32 × Int32 × Int32
def sC (u : KS) : Nat → Int32 := u.1
def sT (u : KS) : Nat → Int32 := u.2.1
def sK (u : KS) : Nat → Int32 := u.2.2.1
def sA (u : KS) : Nat → Int32 := u.2.2.2.1
def sQ (u : KS) : Nat → Int32 := u.2.2.2.2.1
def sO (u : KS) : Nat → Int32 := u.2.2.2.2.2.1
def sD (u : KS) : Nat → Int32 := u.2.2.2.2.2.2.1
def sW (u : KS) : Nat → Int32 := u.2.2.2.2.2.2.2.1
def sN (u : KS) : Nat → Int32 := u.2.2.2.2.2.2.2.2.1
def sL (u : KS) : Nat → Int32 := u.2.2.2.2.2.2.2.2.2.1
def sd (u : KS) : Int32 := u.2.2.2.2.2.2.2.2.2.2.1
def sp (u : KS) : Int32 := u.2.2.2.2.2.2.2.2.2.2.2.1
def si (u : KS) : Int32 := u.2.2.2.2.2.2.2.2.2.2.2.2
def wC (u : KS) (i : Nat) (x : Int32) : KS := (upd u.1 i x, u.2)
def wT (u : KS) (i : Nat) (x : Int32) : KS := (u.1, upd u.2.1 i x, u.2.2)
def wK (u : KS) (i : Nat) (x : Int32) : KS := (u.1, u.2.1, upd u.2.2.1 i x, u.2.2.2)
def wA (u : KS) (i : Nat) (x : Int32) : KS := (u.1, u.2.1, u.2.2.1, upd u.2.2.2.1 i x, u.2.2.2.2)
def wQ (u : KS) (i : Nat) (x : Int32) : KS := (u.1, u.2.1, u.2.2.1, u.2.2.2.1, upd u.2.2.2.2.1 i x, u.2.2.2.2.2)
def wO (u : KS) (i : Nat) (x : Int32) : KS := (u.1, u.2.1, u.2.2.1, u.2.2.2.1, u.2.2.2.2.1, upd u.2.2.2.2.2.1 i x, u.2.2.2.2.2.2)
def wD (u : KS) (i : Nat) (x : Int32) : KS := (u.1, u.2.1, u.2.2.1, u.2.2.2.1, u.2.2.2.2.1, u.2.2.2.2.2.1, upd u.2.2.2.2.2.2.1 i x, u.2.2.2.2.2.2.2)
def wW (u : KS) (i : Nat) (x : Int32) : KS := (u.1, u.2.1, u.2.2.1, u.2.2.2.1, u.2.2.2.2.1, u.2.2.2.2.2.1, u.2.2.2.2.2.2.1, upd u.2.2.2.2.2.2.2.1 i x, u.2.2.2.2.2.2.2.2)
def wN (u : KS) (i : Nat) (x : Int32) : KS := (u.1, u.2.1, u.2.2.1, u.2.2.2.1, u.2.2.2.2.1, u.2.2.2.2.2.1, u.2.2.2.2.2.2.1, u.2.2.2.2.2.2.2.1, upd u.2.2.2.2.2.2.2.2.1 i x, u.2.2.2.2.2.2.2.2.2)
def wL (u : KS) (i : Nat) (x : Int32) : KS := (u.1, u.2.1, u.2.2.1, u.2.2.2.1, u.2.2.2.2.1, u.2.2.2.2.2.1, u.2.2.2.2.2.2.1, u.2.2.2.2.2.2.2.1, u.2.2.2.2.2.2.2.2.1, upd u.2.2.2.2.2.2.2.2.2.1 i x, u.2.2.2.2.2.2.2.2.2.2)
def wd (u : KS) (x : Int32) : KS := (u.1, u.2.1, u.2.2.1, u.2.2.2.1, u.2.2.2.2.1, u.2.2.2.2.2.1, u.2.2.2.2.2.2.1, u.2.2.2.2.2.2.2.1, u.2.2.2.2.2.2.2.2.1, u.2.2.2.2.2.2.2.2.2.1, x, u.2.2.2.2.2.2.2.2.2.2.2)
def wp (u : KS) (x : Int32) : KS := (u.1, u.2.1, u.2.2.1, u.2.2.2.1, u.2.2.2.2.1, u.2.2.2.2.2.1, u.2.2.2.2.2.2.1, u.2.2.2.2.2.2.2.1, u.2.2.2.2.2.2.2.2.1, u.2.2.2.2.2.2.2.2.2.1, u.2.2.2.2.2.2.2.2.2.2.1, x, u.2.2.2.2.2.2.2.2.2.2.2.2)
def wi (u : KS) (x : Int32) : KS := (u.1, u.2.1, u.2.2.1, u.2.2.2.1, u.2.2.2.2.1, u.2.2.2.2.2.1, u.2.2.2.2.2.2.1, u.2.2.2.2.2.2.2.1, u.2.2.2.2.2.2.2.2.1, u.2.2.2.2.2.2.2.2.2.1, u.2.2.2.2.2.2.2.2.2.2.1, u.2.2.2.2.2.2.2.2.2.2.2.1, x)
theorem sC_wC (u : KS) (i : Nat) (x : Int32) : sC (wC u i x) = upd (sC u) i x := rfl
theorem sT_wC (u : KS) (i : Nat) (x : Int32) : sT (wC u i x) = sT u := rfl
theorem sK_wC (u : KS) (i : Nat) (x : Int32) : sK (wC u i x) = sK u := rfl
theorem sA_wC (u : KS) (i : Nat) (x : Int32) : sA (wC u i x) = sA u := rfl
theorem sQ_wC (u : KS) (i : Nat) (x : Int32) : sQ (wC u i x) = sQ u := rfl
theorem sO_wC (u : KS) (i : Nat) (x : Int32) : sO (wC u i x) = sO u := rfl
theorem sD_wC (u : KS) (i : Nat) (x : Int32) : sD (wC u i x) = sD u := rfl
theorem sW_wC (u : KS) (i : Nat) (x : Int32) : sW (wC u i x) = sW u := rfl
theorem sN_wC (u : KS) (i : Nat) (x : Int32) : sN (wC u i x) = sN u := rfl
theorem sL_wC (u : KS) (i : Nat) (x : Int32) : sL (wC u i x) = sL u := rfl
theorem sd_wC (u : KS) (i : Nat) (x : Int32) : sd (wC u i x) = sd u := rfl
theorem sp_wC (u : KS) (i : Nat) (x : Int32) : sp (wC u i x) = sp u := rfl
theorem si_wC (u : KS) (i : Nat) (x : Int32) : si (wC u i x) = si u := rfl
theorem sC_wT (u : KS) (i : Nat) (x : Int32) : sC (wT u i x) = sC u := rfl
theorem sT_wT (u : KS) (i : Nat) (x : Int32) : sT (wT u i x) = upd (sT u) i x := rfl
theorem sK_wT (u : KS) (i : Nat) (x : Int32) : sK (wT u i x) = sK u := rfl
theorem sA_wT (u : KS) (i : Nat) (x : Int32) : sA (wT u i x) = sA u := rfl
theorem sQ_wT (u : KS) (i : Nat) (x : Int32) : sQ (wT u i x) = sQ u := rfl
theorem sO_wT (u : KS) (i : Nat) (x : Int32) : sO (wT u i x) = sO u := rfl
theorem sD_wT (u : KS) (i : Nat) (x : Int32) : sD (wT u i x) = sD u := rfl
theorem sW_wT (u : KS) (i : Nat) (x : Int32) : sW (wT u i x) = sW u := rfl
theorem sN_wT (u : KS) (i : Nat) (x : Int32) : sN (wT u i x) = sN u := rfl
theorem sL_wT (u : KS) (i : Nat) (x : Int32) : sL (wT u i x) = sL u := rfl
theorem sd_wT (u : KS) (i : Nat) (x : Int32) : sd (wT u i x) = sd u := rfl
theorem sp_wT (u : KS) (i : Nat) (x : Int32) : sp (wT u i x) = sp u := rfl
theorem si_wT (u : KS) (i : Nat) (x : Int32) : si (wT u i x) = si u := rfl
theorem sC_wK (u : KS) (i : Nat) (x : Int32) : sC (wK u i x) = sC u := rfl
theorem sT_wK (u : KS) (i : Nat) (x : Int32) : sT (wK u i x) = sT u := rfl
theorem sK_wK (u : KS) (i : Nat) (x : Int32) : sK (wK u i x) = upd (sK u) i x := rfl
theorem sA_wK (u : KS) (i : Nat) (x : Int32) : sA (wK u i x) = sA u := rfl
theorem sQ_wK (u : KS) (i : Nat) (x : Int32) : sQ (wK u i x) = sQ u := rfl
theorem sO_wK (u : KS) (i : Nat) (x : Int32) : sO (wK u i x) = sO u := rfl
theorem sD_wK (u : KS) (i : Nat) (x : Int32) : sD (wK u i x) = sD u := rfl
theorem sW_wK (u : KS) (i : Nat) (x : Int32) : sW (wK u i x) = sW u := rfl
theorem sN_wK (u : KS) (i : Nat) (x : Int32) : sN (wK u i x) = sN u := rfl
theorem sL_wK (u : KS) (i : Nat) (x : Int32) : sL (wK u i x) = sL u := rfl
theorem sd_wK (u : KS) (i : Nat) (x : Int32) : sd (wK u i x) = sd u := rfl
theorem sp_wK (u : KS) (i : Nat) (x : Int32) : sp (wK u i x) = sp u := rfl
theorem si_wK (u : KS) (i : Nat) (x : Int32) : si (wK u i x) = si u := rfl
theorem sC_wA (u : KS) (i : Nat) (x : Int32) : sC (wA u i x) = sC u := rfl
theorem sT_wA (u : KS) (i : Nat) (x : Int32) : sT (wA u i x) = sT u := rfl
theorem sK_wA (u : KS) (i : Nat) (x : Int32) : sK (wA u i x) = sK u := rfl
theorem sA_wA (u : KS) (i : Nat) (x : Int32) : sA (wA u i x) = upd (sA u) i x := rfl
theorem sQ_wA (u : KS) (i : Nat) (x : Int32) : sQ (wA u i x) = sQ u := rfl
theorem sO_wA (u : KS) (i : Nat) (x : Int32) : sO (wA u i x) = sO u := rfl
theorem sD_wA (u : KS) (i : Nat) (x : Int32) : sD (wA u i x) = sD u := rfl
theorem sW_wA (u : KS) (i : Nat) (x : Int32) : sW (wA u i x) = sW u := rfl
theorem sN_wA (u : KS) (i : Nat) (x : Int32) : sN (wA u i x) = sN u := rfl
theorem sL_wA (u : KS) (i : Nat) (x : Int32) : sL (wA u i x) = sL u := rfl
theorem sd_wA (u : KS) (i : Nat) (x : Int32) : sd (wA u i x) = sd u := rfl
theorem sp_wA (u : KS) (i : Nat) (x : Int32) : sp (wA u i x) = sp u := rfl
theorem si_wA (u : KS) (i : Nat) (x : Int32) : si (wA u i x) = si u := rfl
theorem sC_wQ (u : KS) (i : Nat) (x : Int32) : sC (wQ u i x) = sC u := rfl
theorem sT_wQ (u : KS) (i : Nat) (x : Int32) : sT (wQ u i x) = sT u := rfl
theorem sK_wQ (u : KS) (i : Nat) (x : Int32) : sK (wQ u i x) = sK u := rfl
theorem sA_wQ (u : KS) (i : Nat) (x : Int32) : sA (wQ u i x) = sA u := rfl
theorem sQ_wQ (u : KS) (i : Nat) (x : Int32) : sQ (wQ u i x) = upd (sQ u) i x := rfl
theorem sO_wQ (u : KS) (i : Nat) (x : Int32) : sO (wQ u i x) = sO u := rfl
theorem sD_wQ (u : KS) (i : Nat) (x : Int32) : sD (wQ u i x) = sD u := rfl
theorem sW_wQ (u : KS) (i : Nat) (x : Int32) : sW (wQ u i x) = sW u := rfl
theorem sN_wQ (u : KS) (i : Nat) (x : Int32) : sN (wQ u i x) = sN u := rfl
theorem sL_wQ (u : KS) (i : Nat) (x : Int32) : sL (wQ u i x) = sL u := rfl
theorem sd_wQ (u : KS) (i : Nat) (x : Int32) : sd (wQ u i x) = sd u := rfl
theorem sp_wQ (u : KS) (i : Nat) (x : Int32) : sp (wQ u i x) = sp u := rfl
theorem si_wQ (u : KS) (i : Nat) (x : Int32) : si (wQ u i x) = si u := rfl
theorem sC_wO (u : KS) (i : Nat) (x : Int32) : sC (wO u i x) = sC u := rfl
theorem sT_wO (u : KS) (i : Nat) (x : Int32) : sT (wO u i x) = sT u := rfl
theorem sK_wO (u : KS) (i : Nat) (x : Int32) : sK (wO u i x) = sK u := rfl
theorem sA_wO (u : KS) (i : Nat) (x : Int32) : sA (wO u i x) = sA u := rfl
theorem sQ_wO (u : KS) (i : Nat) (x : Int32) : sQ (wO u i x) = sQ u := rfl
theorem sO_wO (u : KS) (i : Nat) (x : Int32) : sO (wO u i x) = upd (sO u) i x := rfl
theorem sD_wO (u : KS) (i : Nat) (x : Int32) : sD (wO u i x) = sD u := rfl
theorem sW_wO (u : KS) (i : Nat) (x : Int32) : sW (wO u i x) = sW u := rfl
theorem sN_wO (u : KS) (i : Nat) (x : Int32) : sN (wO u i x) = sN u := rfl
theorem sL_wO (u : KS) (i : Nat) (x : Int32) : sL (wO u i x) = sL u := rfl
theorem sd_wO (u : KS) (i : Nat) (x : Int32) : sd (wO u i x) = sd u := rfl
theorem sp_wO (u : KS) (i : Nat) (x : Int32) : sp (wO u i x) = sp u := rfl
theorem si_wO (u : KS) (i : Nat) (x : Int32) : si (wO u i x) = si u := rfl
theorem sC_wD (u : KS) (i : Nat) (x : Int32) : sC (wD u i x) = sC u := rfl
theorem sT_wD (u : KS) (i : Nat) (x : Int32) : sT (wD u i x) = sT u := rfl
theorem sK_wD (u : KS) (i : Nat) (x : Int32) : sK (wD u i x) = sK u := rfl
theorem sA_wD (u : KS) (i : Nat) (x : Int32) : sA (wD u i x) = sA u := rfl
theorem sQ_wD (u : KS) (i : Nat) (x : Int32) : sQ (wD u i x) = sQ u := rfl
theorem sO_wD (u : KS) (i : Nat) (x : Int32) : sO (wD u i x) = sO u := rfl
theorem sD_wD (u : KS) (i : Nat) (x : Int32) : sD (wD u i x) = upd (sD u) i x := rfl
theorem sW_wD (u : KS) (i : Nat) (x : Int32) : sW (wD u i x) = sW u := rfl
theorem sN_wD (u : KS) (i : Nat) (x : Int32) : sN (wD u i x) = sN u := rfl
theorem sL_wD (u : KS) (i : Nat) (x : Int32) : sL (wD u i x) = sL u := rfl
theorem sd_wD (u : KS) (i : Nat) (x : Int32) : sd (wD u i x) = sd u := rfl
theorem sp_wD (u : KS) (i : Nat) (x : Int32) : sp (wD u i x) = sp u := rfl
theorem si_wD (u : KS) (i : Nat) (x : Int32) : si (wD u i x) = si u := rfl
theorem sC_wW (u : KS) (i : Nat) (x : Int32) : sC (wW u i x) = sC u := rfl
theorem sT_wW (u : KS) (i : Nat) (x : Int32) : sT (wW u i x) = sT u := rfl
theorem sK_wW (u : KS) (i : Nat) (x : Int32) : sK (wW u i x) = sK u := rfl
theorem sA_wW (u : KS) (i : Nat) (x : Int32) : sA (wW u i x) = sA u := rfl
theorem sQ_wW (u : KS) (i : Nat) (x : Int32) : sQ (wW u i x) = sQ u := rfl
theorem sO_wW (u : KS) (i : Nat) (x : Int32) : sO (wW u i x) = sO u := rfl
theorem sD_wW (u : KS) (i : Nat) (x : Int32) : sD (wW u i x) = sD u := rfl
theorem sW_wW (u : KS) (i : Nat) (x : Int32) : sW (wW u i x) = upd (sW u) i x := rfl
theorem sN_wW (u : KS) (i : Nat) (x : Int32) : sN (wW u i x) = sN u := rfl
theorem sL_wW (u : KS) (i : Nat) (x : Int32) : sL (wW u i x) = sL u := rfl
theorem sd_wW (u : KS) (i : Nat) (x : Int32) : sd (wW u i x) = sd u := rfl
theorem sp_wW (u : KS) (i : Nat) (x : Int32) : sp (wW u i x) = sp u := rfl
theorem si_wW (u : KS) (i : Nat) (x : Int32) : si (wW u i x) = si u := rfl
theorem sC_wN (u : KS) (i : Nat) (x : Int32) : sC (wN u i x) = sC u := rfl
theorem sT_wN (u : KS) (i : Nat) (x : Int32) : sT (wN u i x) = sT u := rfl
theorem sK_wN (u : KS) (i : Nat) (x : Int32) : sK (wN u i x) = sK u := rfl
theorem sA_wN (u : KS) (i : Nat) (x : Int32) : sA (wN u i x) = sA u := rfl
theorem sQ_wN (u : KS) (i : Nat) (x : Int32) : sQ (wN u i x) = sQ u := rfl
theorem sO_wN (u : KS) (i : Nat) (x : Int32) : sO (wN u i x) = sO u := rfl
theorem sD_wN (u : KS) (i : Nat) (x : Int32) : sD (wN u i x) = sD u := rfl
theorem sW_wN (u : KS) (i : Nat) (x : Int32) : sW (wN u i x) = sW u := rfl
theorem sN_wN (u : KS) (i : Nat) (x : Int32) : sN (wN u i x) = upd (sN u) i x := rfl
theorem sL_wN (u : KS) (i : Nat) (x : Int32) : sL (wN u i x) = sL u := rfl
theorem sd_wN (u : KS) (i : Nat) (x : Int32) : sd (wN u i x) = sd u := rfl
theorem sp_wN (u : KS) (i : Nat) (x : Int32) : sp (wN u i x) = sp u := rfl
theorem si_wN (u : KS) (i : Nat) (x : Int32) : si (wN u i x) = si u := rfl
theorem sC_wL (u : KS) (i : Nat) (x : Int32) : sC (wL u i x) = sC u := rfl
theorem sT_wL (u : KS) (i : Nat) (x : Int32) : sT (wL u i x) = sT u := rfl
theorem sK_wL (u : KS) (i : Nat) (x : Int32) : sK (wL u i x) = sK u := rfl
theorem sA_wL (u : KS) (i : Nat) (x : Int32) : sA (wL u i x) = sA u := rfl
theorem sQ_wL (u : KS) (i : Nat) (x : Int32) : sQ (wL u i x) = sQ u := rfl
theorem sO_wL (u : KS) (i : Nat) (x : Int32) : sO (wL u i x) = sO u := rfl
theorem sD_wL (u : KS) (i : Nat) (x : Int32) : sD (wL u i x) = sD u := rfl
theorem sW_wL (u : KS) (i : Nat) (x : Int32) : sW (wL u i x) = sW u := rfl
theorem sN_wL (u : KS) (i : Nat) (x : Int32) : sN (wL u i x) = sN u := rfl
theorem sL_wL (u : KS) (i : Nat) (x : Int32) : sL (wL u i x) = upd (sL u) i x := rfl
theorem sd_wL (u : KS) (i : Nat) (x : Int32) : sd (wL u i x) = sd u := rfl
theorem sp_wL (u : KS) (i : Nat) (x : Int32) : sp (wL u i x) = sp u := rfl
theorem si_wL (u : KS) (i : Nat) (x : Int32) : si (wL u i x) = si u := rfl
theorem sC_wd (u : KS) (x : Int32) : sC (wd u x) = sC u := rfl
theorem sT_wd (u : KS) (x : Int32) : sT (wd u x) = sT u := rfl
theorem sK_wd (u : KS) (x : Int32) : sK (wd u x) = sK u := rfl
theorem sA_wd (u : KS) (x : Int32) : sA (wd u x) = sA u := rfl
theorem sQ_wd (u : KS) (x : Int32) : sQ (wd u x) = sQ u := rfl
theorem sO_wd (u : KS) (x : Int32) : sO (wd u x) = sO u := rfl
theorem sD_wd (u : KS) (x : Int32) : sD (wd u x) = sD u := rfl
theorem sW_wd (u : KS) (x : Int32) : sW (wd u x) = sW u := rfl
theorem sN_wd (u : KS) (x : Int32) : sN (wd u x) = sN u := rfl
theorem sL_wd (u : KS) (x : Int32) : sL (wd u x) = sL u := rfl
theorem sd_wd (u : KS) (x : Int32) : sd (wd u x) = x := rfl
theorem sp_wd (u : KS) (x : Int32) : sp (wd u x) = sp u := rfl
theorem si_wd (u : KS) (x : Int32) : si (wd u x) = si u := rfl
theorem sC_wp (u : KS) (x : Int32) : sC (wp u x) = sC u := rfl
theorem sT_wp (u : KS) (x : Int32) : sT (wp u x) = sT u := rfl
theorem sK_wp (u : KS) (x : Int32) : sK (wp u x) = sK u := rfl
theorem sA_wp (u : KS) (x : Int32) : sA (wp u x) = sA u := rfl
theorem sQ_wp (u : KS) (x : Int32) : sQ (wp u x) = sQ u := rfl
theorem sO_wp (u : KS) (x : Int32) : sO (wp u x) = sO u := rfl
theorem sD_wp (u : KS) (x : Int32) : sD (wp u x) = sD u := rfl
theorem sW_wp (u : KS) (x : Int32) : sW (wp u x) = sW u := rfl
theorem sN_wp (u : KS) (x : Int32) : sN (wp u x) = sN u := rfl
theorem sL_wp (u : KS) (x : Int32) : sL (wp u x) = sL u := rfl
theorem sd_wp (u : KS) (x : Int32) : sd (wp u x) = sd u := rfl
theorem sp_wp (u : KS) (x : Int32) : sp (wp u x) = x := rfl
theorem si_wp (u : KS) (x : Int32) : si (wp u x) = si u := rfl
theorem sC_wi (u : KS) (x : Int32) : sC (wi u x) = sC u := rfl
theorem sT_wi (u : KS) (x : Int32) : sT (wi u x) = sT u := rfl
theorem sK_wi (u : KS) (x : Int32) : sK (wi u x) = sK u := rfl
theorem sA_wi (u : KS) (x : Int32) : sA (wi u x) = sA u := rfl
theorem sQ_wi (u : KS) (x : Int32) : sQ (wi u x) = sQ u := rfl
theorem sO_wi (u : KS) (x : Int32) : sO (wi u x) = sO u := rfl
theorem sD_wi (u : KS) (x : Int32) : sD (wi u x) = sD u := rfl
theorem sW_wi (u : KS) (x : Int32) : sW (wi u x) = sW u := rfl
theorem sN_wi (u : KS) (x : Int32) : sN (wi u x) = sN u := rfl
theorem sL_wi (u : KS) (x : Int32) : sL (wi u x) = sL u := rfl
theorem sd_wi (u : KS) (x : Int32) : sd (wi u x) = sd u := rfl
theorem sp_wi (u : KS) (x : Int32) : sp (wi u x) = sp u := rfl
theorem si_wi (u : KS) (x : Int32) : si (wi u x) = x := rfl
theorem KS_ext {u v : KS} (h0 : sC u = sC v) (h1 : sT u = sT v) (h2 : sK u = sK v) (h3 : sA u = sA v) (h4 : sQ u = sQ v) (h5 : sO u = sO v) (h6 : sD u = sD v) (h7 : sW u = sW v) (h8 : sN u = sN v) (h9 : sL u = sL v) (h10 : sd u = sd v) (h11 : sp u = sp v) (h12 : si u = si v) : u = v := by
  obtain ⟨a0, a1, a2, a3, a4, a5, a6, a7, a8, a9, a10, a11, a12⟩ := u
  obtain ⟨b0, b1, b2, b3, b4, b5, b6, b7, b8, b9, b10, b11, b12⟩ := v
  cases h0
  cases h1
  cases h2
  cases h3
  cases h4
  cases h5
  cases h6
  cases h7
  cases h8
  cases h9
  cases h10
  cases h11
  cases h12
  rfl
def sFs (a : Nat → Nat) (u : KS) : List Value := [.ref (a 0), .ref (a 1), .ref (a 2), .ref (a 3), .ref (a 4), .ref (a 5), .ref (a 6), .ref (a 7), .ref (a 8), .ref (a 9), .int (sd u), .int (sp u), .int (si u)]
/-- a State at h, its rows at a -/
def wS (cy : Nat → ClassId) (h : Nat) (a : Nat → Nat) (u : KS) : va_W := [(h, .inr (2, sFs a u)), (a 0, .inl (cy 0, 17, .inl (sC u))), (a 1, .inl (cy 0, 14, .inl (sT u))), (a 2, .inl (cy 0, 12, .inl (sK u))), (a 3, .inl (cy 0, 420, .inl (sA u))), (a 4, .inl (cy 0, 20, .inl (sQ u))), (a 5, .inl (cy 0, 90, .inl (sO u))), (a 6, .inl (cy 0, 3, .inl (sD u))), (a 7, .inl (cy 0, 3, .inl (sW u))), (a 8, .inl (cy 0, 3, .inl (sN u))), (a 9, .inl (cy 0, 80, .inl (sL u)))]
def wCA (u : KS) (f : Nat → Int32) : KS := (f, u.2)
theorem sC_wCA (u : KS) (f : Nat → Int32) : sC (wCA u f) = f := rfl
theorem sT_wCA (u : KS) (f : Nat → Int32) : sT (wCA u f) = sT u := rfl
theorem sK_wCA (u : KS) (f : Nat → Int32) : sK (wCA u f) = sK u := rfl
theorem sA_wCA (u : KS) (f : Nat → Int32) : sA (wCA u f) = sA u := rfl
theorem sQ_wCA (u : KS) (f : Nat → Int32) : sQ (wCA u f) = sQ u := rfl
theorem sO_wCA (u : KS) (f : Nat → Int32) : sO (wCA u f) = sO u := rfl
theorem sD_wCA (u : KS) (f : Nat → Int32) : sD (wCA u f) = sD u := rfl
theorem sW_wCA (u : KS) (f : Nat → Int32) : sW (wCA u f) = sW u := rfl
theorem sN_wCA (u : KS) (f : Nat → Int32) : sN (wCA u f) = sN u := rfl
theorem sL_wCA (u : KS) (f : Nat → Int32) : sL (wCA u f) = sL u := rfl
theorem sd_wCA (u : KS) (f : Nat → Int32) : sd (wCA u f) = sd u := rfl
theorem sp_wCA (u : KS) (f : Nat → Int32) : sp (wCA u f) = sp u := rfl
theorem si_wCA (u : KS) (f : Nat → Int32) : si (wCA u f) = si u := rfl
def wTA (u : KS) (f : Nat → Int32) : KS := (u.1, f, u.2.2)
theorem sC_wTA (u : KS) (f : Nat → Int32) : sC (wTA u f) = sC u := rfl
theorem sT_wTA (u : KS) (f : Nat → Int32) : sT (wTA u f) = f := rfl
theorem sK_wTA (u : KS) (f : Nat → Int32) : sK (wTA u f) = sK u := rfl
theorem sA_wTA (u : KS) (f : Nat → Int32) : sA (wTA u f) = sA u := rfl
theorem sQ_wTA (u : KS) (f : Nat → Int32) : sQ (wTA u f) = sQ u := rfl
theorem sO_wTA (u : KS) (f : Nat → Int32) : sO (wTA u f) = sO u := rfl
theorem sD_wTA (u : KS) (f : Nat → Int32) : sD (wTA u f) = sD u := rfl
theorem sW_wTA (u : KS) (f : Nat → Int32) : sW (wTA u f) = sW u := rfl
theorem sN_wTA (u : KS) (f : Nat → Int32) : sN (wTA u f) = sN u := rfl
theorem sL_wTA (u : KS) (f : Nat → Int32) : sL (wTA u f) = sL u := rfl
theorem sd_wTA (u : KS) (f : Nat → Int32) : sd (wTA u f) = sd u := rfl
theorem sp_wTA (u : KS) (f : Nat → Int32) : sp (wTA u f) = sp u := rfl
theorem si_wTA (u : KS) (f : Nat → Int32) : si (wTA u f) = si u := rfl
def wKA (u : KS) (f : Nat → Int32) : KS := (u.1, u.2.1, f, u.2.2.2)
theorem sC_wKA (u : KS) (f : Nat → Int32) : sC (wKA u f) = sC u := rfl
theorem sT_wKA (u : KS) (f : Nat → Int32) : sT (wKA u f) = sT u := rfl
theorem sK_wKA (u : KS) (f : Nat → Int32) : sK (wKA u f) = f := rfl
theorem sA_wKA (u : KS) (f : Nat → Int32) : sA (wKA u f) = sA u := rfl
theorem sQ_wKA (u : KS) (f : Nat → Int32) : sQ (wKA u f) = sQ u := rfl
theorem sO_wKA (u : KS) (f : Nat → Int32) : sO (wKA u f) = sO u := rfl
theorem sD_wKA (u : KS) (f : Nat → Int32) : sD (wKA u f) = sD u := rfl
theorem sW_wKA (u : KS) (f : Nat → Int32) : sW (wKA u f) = sW u := rfl
theorem sN_wKA (u : KS) (f : Nat → Int32) : sN (wKA u f) = sN u := rfl
theorem sL_wKA (u : KS) (f : Nat → Int32) : sL (wKA u f) = sL u := rfl
theorem sd_wKA (u : KS) (f : Nat → Int32) : sd (wKA u f) = sd u := rfl
theorem sp_wKA (u : KS) (f : Nat → Int32) : sp (wKA u f) = sp u := rfl
theorem si_wKA (u : KS) (f : Nat → Int32) : si (wKA u f) = si u := rfl
def wAA (u : KS) (f : Nat → Int32) : KS := (u.1, u.2.1, u.2.2.1, f, u.2.2.2.2)
theorem sC_wAA (u : KS) (f : Nat → Int32) : sC (wAA u f) = sC u := rfl
theorem sT_wAA (u : KS) (f : Nat → Int32) : sT (wAA u f) = sT u := rfl
theorem sK_wAA (u : KS) (f : Nat → Int32) : sK (wAA u f) = sK u := rfl
theorem sA_wAA (u : KS) (f : Nat → Int32) : sA (wAA u f) = f := rfl
theorem sQ_wAA (u : KS) (f : Nat → Int32) : sQ (wAA u f) = sQ u := rfl
theorem sO_wAA (u : KS) (f : Nat → Int32) : sO (wAA u f) = sO u := rfl
theorem sD_wAA (u : KS) (f : Nat → Int32) : sD (wAA u f) = sD u := rfl
theorem sW_wAA (u : KS) (f : Nat → Int32) : sW (wAA u f) = sW u := rfl
theorem sN_wAA (u : KS) (f : Nat → Int32) : sN (wAA u f) = sN u := rfl
theorem sL_wAA (u : KS) (f : Nat → Int32) : sL (wAA u f) = sL u := rfl
theorem sd_wAA (u : KS) (f : Nat → Int32) : sd (wAA u f) = sd u := rfl
theorem sp_wAA (u : KS) (f : Nat → Int32) : sp (wAA u f) = sp u := rfl
theorem si_wAA (u : KS) (f : Nat → Int32) : si (wAA u f) = si u := rfl
def wQA (u : KS) (f : Nat → Int32) : KS := (u.1, u.2.1, u.2.2.1, u.2.2.2.1, f, u.2.2.2.2.2)
theorem sC_wQA (u : KS) (f : Nat → Int32) : sC (wQA u f) = sC u := rfl
theorem sT_wQA (u : KS) (f : Nat → Int32) : sT (wQA u f) = sT u := rfl
theorem sK_wQA (u : KS) (f : Nat → Int32) : sK (wQA u f) = sK u := rfl
theorem sA_wQA (u : KS) (f : Nat → Int32) : sA (wQA u f) = sA u := rfl
theorem sQ_wQA (u : KS) (f : Nat → Int32) : sQ (wQA u f) = f := rfl
theorem sO_wQA (u : KS) (f : Nat → Int32) : sO (wQA u f) = sO u := rfl
theorem sD_wQA (u : KS) (f : Nat → Int32) : sD (wQA u f) = sD u := rfl
theorem sW_wQA (u : KS) (f : Nat → Int32) : sW (wQA u f) = sW u := rfl
theorem sN_wQA (u : KS) (f : Nat → Int32) : sN (wQA u f) = sN u := rfl
theorem sL_wQA (u : KS) (f : Nat → Int32) : sL (wQA u f) = sL u := rfl
theorem sd_wQA (u : KS) (f : Nat → Int32) : sd (wQA u f) = sd u := rfl
theorem sp_wQA (u : KS) (f : Nat → Int32) : sp (wQA u f) = sp u := rfl
theorem si_wQA (u : KS) (f : Nat → Int32) : si (wQA u f) = si u := rfl
def wOA (u : KS) (f : Nat → Int32) : KS := (u.1, u.2.1, u.2.2.1, u.2.2.2.1, u.2.2.2.2.1, f, u.2.2.2.2.2.2)
theorem sC_wOA (u : KS) (f : Nat → Int32) : sC (wOA u f) = sC u := rfl
theorem sT_wOA (u : KS) (f : Nat → Int32) : sT (wOA u f) = sT u := rfl
theorem sK_wOA (u : KS) (f : Nat → Int32) : sK (wOA u f) = sK u := rfl
theorem sA_wOA (u : KS) (f : Nat → Int32) : sA (wOA u f) = sA u := rfl
theorem sQ_wOA (u : KS) (f : Nat → Int32) : sQ (wOA u f) = sQ u := rfl
theorem sO_wOA (u : KS) (f : Nat → Int32) : sO (wOA u f) = f := rfl
theorem sD_wOA (u : KS) (f : Nat → Int32) : sD (wOA u f) = sD u := rfl
theorem sW_wOA (u : KS) (f : Nat → Int32) : sW (wOA u f) = sW u := rfl
theorem sN_wOA (u : KS) (f : Nat → Int32) : sN (wOA u f) = sN u := rfl
theorem sL_wOA (u : KS) (f : Nat → Int32) : sL (wOA u f) = sL u := rfl
theorem sd_wOA (u : KS) (f : Nat → Int32) : sd (wOA u f) = sd u := rfl
theorem sp_wOA (u : KS) (f : Nat → Int32) : sp (wOA u f) = sp u := rfl
theorem si_wOA (u : KS) (f : Nat → Int32) : si (wOA u f) = si u := rfl
def wDA (u : KS) (f : Nat → Int32) : KS := (u.1, u.2.1, u.2.2.1, u.2.2.2.1, u.2.2.2.2.1, u.2.2.2.2.2.1, f, u.2.2.2.2.2.2.2)
theorem sC_wDA (u : KS) (f : Nat → Int32) : sC (wDA u f) = sC u := rfl
theorem sT_wDA (u : KS) (f : Nat → Int32) : sT (wDA u f) = sT u := rfl
theorem sK_wDA (u : KS) (f : Nat → Int32) : sK (wDA u f) = sK u := rfl
theorem sA_wDA (u : KS) (f : Nat → Int32) : sA (wDA u f) = sA u := rfl
theorem sQ_wDA (u : KS) (f : Nat → Int32) : sQ (wDA u f) = sQ u := rfl
theorem sO_wDA (u : KS) (f : Nat → Int32) : sO (wDA u f) = sO u := rfl
theorem sD_wDA (u : KS) (f : Nat → Int32) : sD (wDA u f) = f := rfl
theorem sW_wDA (u : KS) (f : Nat → Int32) : sW (wDA u f) = sW u := rfl
theorem sN_wDA (u : KS) (f : Nat → Int32) : sN (wDA u f) = sN u := rfl
theorem sL_wDA (u : KS) (f : Nat → Int32) : sL (wDA u f) = sL u := rfl
theorem sd_wDA (u : KS) (f : Nat → Int32) : sd (wDA u f) = sd u := rfl
theorem sp_wDA (u : KS) (f : Nat → Int32) : sp (wDA u f) = sp u := rfl
theorem si_wDA (u : KS) (f : Nat → Int32) : si (wDA u f) = si u := rfl
def wWA (u : KS) (f : Nat → Int32) : KS := (u.1, u.2.1, u.2.2.1, u.2.2.2.1, u.2.2.2.2.1, u.2.2.2.2.2.1, u.2.2.2.2.2.2.1, f, u.2.2.2.2.2.2.2.2)
theorem sC_wWA (u : KS) (f : Nat → Int32) : sC (wWA u f) = sC u := rfl
theorem sT_wWA (u : KS) (f : Nat → Int32) : sT (wWA u f) = sT u := rfl
theorem sK_wWA (u : KS) (f : Nat → Int32) : sK (wWA u f) = sK u := rfl
theorem sA_wWA (u : KS) (f : Nat → Int32) : sA (wWA u f) = sA u := rfl
theorem sQ_wWA (u : KS) (f : Nat → Int32) : sQ (wWA u f) = sQ u := rfl
theorem sO_wWA (u : KS) (f : Nat → Int32) : sO (wWA u f) = sO u := rfl
theorem sD_wWA (u : KS) (f : Nat → Int32) : sD (wWA u f) = sD u := rfl
theorem sW_wWA (u : KS) (f : Nat → Int32) : sW (wWA u f) = f := rfl
theorem sN_wWA (u : KS) (f : Nat → Int32) : sN (wWA u f) = sN u := rfl
theorem sL_wWA (u : KS) (f : Nat → Int32) : sL (wWA u f) = sL u := rfl
theorem sd_wWA (u : KS) (f : Nat → Int32) : sd (wWA u f) = sd u := rfl
theorem sp_wWA (u : KS) (f : Nat → Int32) : sp (wWA u f) = sp u := rfl
theorem si_wWA (u : KS) (f : Nat → Int32) : si (wWA u f) = si u := rfl
def wNA (u : KS) (f : Nat → Int32) : KS := (u.1, u.2.1, u.2.2.1, u.2.2.2.1, u.2.2.2.2.1, u.2.2.2.2.2.1, u.2.2.2.2.2.2.1, u.2.2.2.2.2.2.2.1, f, u.2.2.2.2.2.2.2.2.2)
theorem sC_wNA (u : KS) (f : Nat → Int32) : sC (wNA u f) = sC u := rfl
theorem sT_wNA (u : KS) (f : Nat → Int32) : sT (wNA u f) = sT u := rfl
theorem sK_wNA (u : KS) (f : Nat → Int32) : sK (wNA u f) = sK u := rfl
theorem sA_wNA (u : KS) (f : Nat → Int32) : sA (wNA u f) = sA u := rfl
theorem sQ_wNA (u : KS) (f : Nat → Int32) : sQ (wNA u f) = sQ u := rfl
theorem sO_wNA (u : KS) (f : Nat → Int32) : sO (wNA u f) = sO u := rfl
theorem sD_wNA (u : KS) (f : Nat → Int32) : sD (wNA u f) = sD u := rfl
theorem sW_wNA (u : KS) (f : Nat → Int32) : sW (wNA u f) = sW u := rfl
theorem sN_wNA (u : KS) (f : Nat → Int32) : sN (wNA u f) = f := rfl
theorem sL_wNA (u : KS) (f : Nat → Int32) : sL (wNA u f) = sL u := rfl
theorem sd_wNA (u : KS) (f : Nat → Int32) : sd (wNA u f) = sd u := rfl
theorem sp_wNA (u : KS) (f : Nat → Int32) : sp (wNA u f) = sp u := rfl
theorem si_wNA (u : KS) (f : Nat → Int32) : si (wNA u f) = si u := rfl
def wLA (u : KS) (f : Nat → Int32) : KS := (u.1, u.2.1, u.2.2.1, u.2.2.2.1, u.2.2.2.2.1, u.2.2.2.2.2.1, u.2.2.2.2.2.2.1, u.2.2.2.2.2.2.2.1, u.2.2.2.2.2.2.2.2.1, f, u.2.2.2.2.2.2.2.2.2.2)
theorem sC_wLA (u : KS) (f : Nat → Int32) : sC (wLA u f) = sC u := rfl
theorem sT_wLA (u : KS) (f : Nat → Int32) : sT (wLA u f) = sT u := rfl
theorem sK_wLA (u : KS) (f : Nat → Int32) : sK (wLA u f) = sK u := rfl
theorem sA_wLA (u : KS) (f : Nat → Int32) : sA (wLA u f) = sA u := rfl
theorem sQ_wLA (u : KS) (f : Nat → Int32) : sQ (wLA u f) = sQ u := rfl
theorem sO_wLA (u : KS) (f : Nat → Int32) : sO (wLA u f) = sO u := rfl
theorem sD_wLA (u : KS) (f : Nat → Int32) : sD (wLA u f) = sD u := rfl
theorem sW_wLA (u : KS) (f : Nat → Int32) : sW (wLA u f) = sW u := rfl
theorem sN_wLA (u : KS) (f : Nat → Int32) : sN (wLA u f) = sN u := rfl
theorem sL_wLA (u : KS) (f : Nat → Int32) : sL (wLA u f) = f := rfl
theorem sd_wLA (u : KS) (f : Nat → Int32) : sd (wLA u f) = sd u := rfl
theorem sp_wLA (u : KS) (f : Nat → Int32) : sp (wLA u f) = sp u := rfl
theorem si_wLA (u : KS) (f : Nat → Int32) : si (wLA u f) = si u := rfl
theorem wS_a0 (cy : Nat → ClassId) (h : Nat) (a : Nat → Nat) (u : KS) : (wS cy h a u)[0]? = some (h, .inr (2, sFs a u)) := rfl
theorem wS_a1 (cy : Nat → ClassId) (h : Nat) (a : Nat → Nat) (u : KS) : (wS cy h a u)[1]? = some (a 0, .inl (cy 0, 17, .inl (sC u))) := rfl
theorem wS_wC (cy : Nat → ClassId) (h : Nat) (a : Nat → Nat) (u : KS) (i : Nat) (x : Int32) : (wS cy h a u).set 1 (a 0, .inl (cy 0, 17, .inl (upd (sC u) i x))) = wS cy h a (wC u i x) := rfl
theorem wS_wCA (cy : Nat → ClassId) (h : Nat) (a : Nat → Nat) (u : KS) (f : Nat → Int32) : (wS cy h a u).set 1 (a 0, .inl (cy 0, 17, .inl f)) = wS cy h a (wCA u f) := rfl
theorem sFs_0 (a : Nat → Nat) (u : KS) : (sFs a u)[0]? = some (.ref (a 0)) := rfl
theorem wS_a2 (cy : Nat → ClassId) (h : Nat) (a : Nat → Nat) (u : KS) : (wS cy h a u)[2]? = some (a 1, .inl (cy 0, 14, .inl (sT u))) := rfl
theorem wS_wT (cy : Nat → ClassId) (h : Nat) (a : Nat → Nat) (u : KS) (i : Nat) (x : Int32) : (wS cy h a u).set 2 (a 1, .inl (cy 0, 14, .inl (upd (sT u) i x))) = wS cy h a (wT u i x) := rfl
theorem wS_wTA (cy : Nat → ClassId) (h : Nat) (a : Nat → Nat) (u : KS) (f : Nat → Int32) : (wS cy h a u).set 2 (a 1, .inl (cy 0, 14, .inl f)) = wS cy h a (wTA u f) := rfl
theorem sFs_1 (a : Nat → Nat) (u : KS) : (sFs a u)[1]? = some (.ref (a 1)) := rfl
theorem wS_a3 (cy : Nat → ClassId) (h : Nat) (a : Nat → Nat) (u : KS) : (wS cy h a u)[3]? = some (a 2, .inl (cy 0, 12, .inl (sK u))) := rfl
theorem wS_wK (cy : Nat → ClassId) (h : Nat) (a : Nat → Nat) (u : KS) (i : Nat) (x : Int32) : (wS cy h a u).set 3 (a 2, .inl (cy 0, 12, .inl (upd (sK u) i x))) = wS cy h a (wK u i x) := rfl
theorem wS_wKA (cy : Nat → ClassId) (h : Nat) (a : Nat → Nat) (u : KS) (f : Nat → Int32) : (wS cy h a u).set 3 (a 2, .inl (cy 0, 12, .inl f)) = wS cy h a (wKA u f) := rfl
theorem sFs_2 (a : Nat → Nat) (u : KS) : (sFs a u)[2]? = some (.ref (a 2)) := rfl
theorem wS_a4 (cy : Nat → ClassId) (h : Nat) (a : Nat → Nat) (u : KS) : (wS cy h a u)[4]? = some (a 3, .inl (cy 0, 420, .inl (sA u))) := rfl
theorem wS_wA (cy : Nat → ClassId) (h : Nat) (a : Nat → Nat) (u : KS) (i : Nat) (x : Int32) : (wS cy h a u).set 4 (a 3, .inl (cy 0, 420, .inl (upd (sA u) i x))) = wS cy h a (wA u i x) := rfl
theorem wS_wAA (cy : Nat → ClassId) (h : Nat) (a : Nat → Nat) (u : KS) (f : Nat → Int32) : (wS cy h a u).set 4 (a 3, .inl (cy 0, 420, .inl f)) = wS cy h a (wAA u f) := rfl
theorem sFs_3 (a : Nat → Nat) (u : KS) : (sFs a u)[3]? = some (.ref (a 3)) := rfl
theorem wS_a5 (cy : Nat → ClassId) (h : Nat) (a : Nat → Nat) (u : KS) : (wS cy h a u)[5]? = some (a 4, .inl (cy 0, 20, .inl (sQ u))) := rfl
theorem wS_wQ (cy : Nat → ClassId) (h : Nat) (a : Nat → Nat) (u : KS) (i : Nat) (x : Int32) : (wS cy h a u).set 5 (a 4, .inl (cy 0, 20, .inl (upd (sQ u) i x))) = wS cy h a (wQ u i x) := rfl
theorem wS_wQA (cy : Nat → ClassId) (h : Nat) (a : Nat → Nat) (u : KS) (f : Nat → Int32) : (wS cy h a u).set 5 (a 4, .inl (cy 0, 20, .inl f)) = wS cy h a (wQA u f) := rfl
theorem sFs_4 (a : Nat → Nat) (u : KS) : (sFs a u)[4]? = some (.ref (a 4)) := rfl
theorem wS_a6 (cy : Nat → ClassId) (h : Nat) (a : Nat → Nat) (u : KS) : (wS cy h a u)[6]? = some (a 5, .inl (cy 0, 90, .inl (sO u))) := rfl
theorem wS_wO (cy : Nat → ClassId) (h : Nat) (a : Nat → Nat) (u : KS) (i : Nat) (x : Int32) : (wS cy h a u).set 6 (a 5, .inl (cy 0, 90, .inl (upd (sO u) i x))) = wS cy h a (wO u i x) := rfl
theorem wS_wOA (cy : Nat → ClassId) (h : Nat) (a : Nat → Nat) (u : KS) (f : Nat → Int32) : (wS cy h a u).set 6 (a 5, .inl (cy 0, 90, .inl f)) = wS cy h a (wOA u f) := rfl
theorem sFs_5 (a : Nat → Nat) (u : KS) : (sFs a u)[5]? = some (.ref (a 5)) := rfl
theorem wS_a7 (cy : Nat → ClassId) (h : Nat) (a : Nat → Nat) (u : KS) : (wS cy h a u)[7]? = some (a 6, .inl (cy 0, 3, .inl (sD u))) := rfl
theorem wS_wD (cy : Nat → ClassId) (h : Nat) (a : Nat → Nat) (u : KS) (i : Nat) (x : Int32) : (wS cy h a u).set 7 (a 6, .inl (cy 0, 3, .inl (upd (sD u) i x))) = wS cy h a (wD u i x) := rfl
theorem wS_wDA (cy : Nat → ClassId) (h : Nat) (a : Nat → Nat) (u : KS) (f : Nat → Int32) : (wS cy h a u).set 7 (a 6, .inl (cy 0, 3, .inl f)) = wS cy h a (wDA u f) := rfl
theorem sFs_6 (a : Nat → Nat) (u : KS) : (sFs a u)[6]? = some (.ref (a 6)) := rfl
theorem wS_a8 (cy : Nat → ClassId) (h : Nat) (a : Nat → Nat) (u : KS) : (wS cy h a u)[8]? = some (a 7, .inl (cy 0, 3, .inl (sW u))) := rfl
theorem wS_wW (cy : Nat → ClassId) (h : Nat) (a : Nat → Nat) (u : KS) (i : Nat) (x : Int32) : (wS cy h a u).set 8 (a 7, .inl (cy 0, 3, .inl (upd (sW u) i x))) = wS cy h a (wW u i x) := rfl
theorem wS_wWA (cy : Nat → ClassId) (h : Nat) (a : Nat → Nat) (u : KS) (f : Nat → Int32) : (wS cy h a u).set 8 (a 7, .inl (cy 0, 3, .inl f)) = wS cy h a (wWA u f) := rfl
theorem sFs_7 (a : Nat → Nat) (u : KS) : (sFs a u)[7]? = some (.ref (a 7)) := rfl
theorem wS_a9 (cy : Nat → ClassId) (h : Nat) (a : Nat → Nat) (u : KS) : (wS cy h a u)[9]? = some (a 8, .inl (cy 0, 3, .inl (sN u))) := rfl
theorem wS_wN (cy : Nat → ClassId) (h : Nat) (a : Nat → Nat) (u : KS) (i : Nat) (x : Int32) : (wS cy h a u).set 9 (a 8, .inl (cy 0, 3, .inl (upd (sN u) i x))) = wS cy h a (wN u i x) := rfl
theorem wS_wNA (cy : Nat → ClassId) (h : Nat) (a : Nat → Nat) (u : KS) (f : Nat → Int32) : (wS cy h a u).set 9 (a 8, .inl (cy 0, 3, .inl f)) = wS cy h a (wNA u f) := rfl
theorem sFs_8 (a : Nat → Nat) (u : KS) : (sFs a u)[8]? = some (.ref (a 8)) := rfl
theorem wS_a10 (cy : Nat → ClassId) (h : Nat) (a : Nat → Nat) (u : KS) : (wS cy h a u)[10]? = some (a 9, .inl (cy 0, 80, .inl (sL u))) := rfl
theorem wS_wL (cy : Nat → ClassId) (h : Nat) (a : Nat → Nat) (u : KS) (i : Nat) (x : Int32) : (wS cy h a u).set 10 (a 9, .inl (cy 0, 80, .inl (upd (sL u) i x))) = wS cy h a (wL u i x) := rfl
theorem wS_wLA (cy : Nat → ClassId) (h : Nat) (a : Nat → Nat) (u : KS) (f : Nat → Int32) : (wS cy h a u).set 10 (a 9, .inl (cy 0, 80, .inl f)) = wS cy h a (wLA u f) := rfl
theorem sFs_9 (a : Nat → Nat) (u : KS) : (sFs a u)[9]? = some (.ref (a 9)) := rfl
theorem wS_wd (cy : Nat → ClassId) (h : Nat) (a : Nat → Nat) (u : KS) (x : Int32) : (wS cy h a u).set 0 (h, .inr (2, (sFs a u).set 10 (.int x))) = wS cy h a (wd u x) := rfl
theorem sFs_10 (a : Nat → Nat) (u : KS) : (sFs a u)[10]? = some (.int (sd u)) := rfl
theorem wS_wp (cy : Nat → ClassId) (h : Nat) (a : Nat → Nat) (u : KS) (x : Int32) : (wS cy h a u).set 0 (h, .inr (2, (sFs a u).set 11 (.int x))) = wS cy h a (wp u x) := rfl
theorem sFs_11 (a : Nat → Nat) (u : KS) : (sFs a u)[11]? = some (.int (sp u)) := rfl
theorem wS_wi (cy : Nat → ClassId) (h : Nat) (a : Nat → Nat) (u : KS) (x : Int32) : (wS cy h a u).set 0 (h, .inr (2, (sFs a u).set 12 (.int x))) = wS cy h a (wi u x) := rfl
theorem sFs_12 (a : Nat → Nat) (u : KS) : (sFs a u)[12]? = some (.int (si u)) := rfl
