/-! the pure state of a State object, and its world -/
/-- a State: counts, settings, kinds, cars, queue, onDeck, deckCars, weights, taken, calls; deck, slope, lip -/
abbrev KS : Type := (Nat → Int32) × (Nat → Int32) × (Nat → Int32) × (Nat → Int32) × (Nat → Int32) × (Nat → Int32) × (Nat → Int32) × (Nat → Int32) × (Nat → Int32) × (Nat → Int32) × Int32 × Int32 × Int32
def sC (u : KS) : Nat → Int32 := u.1
def sT (u : KS) : Nat → Int32 := u.2.1
def sK (u : KS) : Nat → Int32 := u.2.2.1
def sA (u : KS) : Nat → Int32 := u.2.2.2.1
def sQ (u : KS) : Nat → Int32 := u.2.2.2.2.1
def sO (u : KS) : Nat → Int32 := u.2.2.2.2.2.1
def sD (u : KS) : Nat → Int32 := u.2.2.2.2.2.2.1
def sW (u : KS) : Nat → Int32 := u.2.2.2.2.2.2.2.1
def sN (u : KS) : Nat → Int32 := u.2.2.2.2.2.2.2.2.1
def sL (u : KS) : Nat → Int32 := u.2.2.2.2.2.2.2.2.2.1
def sd (u : KS) : Int32 := u.2.2.2.2.2.2.2.2.2.2.1
def sp (u : KS) : Int32 := u.2.2.2.2.2.2.2.2.2.2.2.1
def si (u : KS) : Int32 := u.2.2.2.2.2.2.2.2.2.2.2.2
def wC (u : KS) (i : Nat) (x : Int32) : KS := (upd u.1 i x, u.2)
def wT (u : KS) (i : Nat) (x : Int32) : KS := (u.1, upd u.2.1 i x, u.2.2)
def wK (u : KS) (i : Nat) (x : Int32) : KS := (u.1, u.2.1, upd u.2.2.1 i x, u.2.2.2)
def wA (u : KS) (i : Nat) (x : Int32) : KS := (u.1, u.2.1, u.2.2.1, upd u.2.2.2.1 i x, u.2.2.2.2)
def wQ (u : KS) (i : Nat) (x : Int32) : KS := (u.1, u.2.1, u.2.2.1, u.2.2.2.1, upd u.2.2.2.2.1 i x, u.2.2.2.2.2)
def wO (u : KS) (i : Nat) (x : Int32) : KS := (u.1, u.2.1, u.2.2.1, u.2.2.2.1, u.2.2.2.2.1, upd u.2.2.2.2.2.1 i x, u.2.2.2.2.2.2)
def wD (u : KS) (i : Nat) (x : Int32) : KS := (u.1, u.2.1, u.2.2.1, u.2.2.2.1, u.2.2.2.2.1, u.2.2.2.2.2.1, upd u.2.2.2.2.2.2.1 i x, u.2.2.2.2.2.2.2)
def wW (u : KS) (i : Nat) (x : Int32) : KS := (u.1, u.2.1, u.2.2.1, u.2.2.2.1, u.2.2.2.2.1, u.2.2.2.2.2.1, u.2.2.2.2.2.2.1, upd u.2.2.2.2.2.2.2.1 i x, u.2.2.2.2.2.2.2.2)
def wN (u : KS) (i : Nat) (x : Int32) : KS := (u.1, u.2.1, u.2.2.1, u.2.2.2.1, u.2.2.2.2.1, u.2.2.2.2.2.1, u.2.2.2.2.2.2.1, u.2.2.2.2.2.2.2.1, upd u.2.2.2.2.2.2.2.2.1 i x, u.2.2.2.2.2.2.2.2.2)
def wL (u : KS) (i : Nat) (x : Int32) : KS := (u.1, u.2.1, u.2.2.1, u.2.2.2.1, u.2.2.2.2.1, u.2.2.2.2.2.1, u.2.2.2.2.2.2.1, u.2.2.2.2.2.2.2.1, u.2.2.2.2.2.2.2.2.1, upd u.2.2.2.2.2.2.2.2.2.1 i x, u.2.2.2.2.2.2.2.2.2.2)
def wd (u : KS) (x : Int32) : KS := (u.1, u.2.1, u.2.2.1, u.2.2.2.1, u.2.2.2.2.1, u.2.2.2.2.2.1, u.2.2.2.2.2.2.1, u.2.2.2.2.2.2.2.1, u.2.2.2.2.2.2.2.2.1, u.2.2.2.2.2.2.2.2.2.1, x, u.2.2.2.2.2.2.2.2.2.2.2)
def wp (u : KS) (x : Int32) : KS := (u.1, u.2.1, u.2.2.1, u.2.2.2.1, u.2.2.2.2.1, u.2.2.2.2.2.1, u.2.2.2.2.2.2.1, u.2.2.2.2.2.2.2.1, u.2.2.2.2.2.2.2.2.1, u.2.2.2.2.2.2.2.2.2.1, u.2.2.2.2.2.2.2.2.2.2.1, x, u.2.2.2.2.2.2.2.2.2.2.2.2)
def wi (u : KS) (x : Int32) : KS := (u.1, u.2.1, u.2.2.1, u.2.2.2.1, u.2.2.2.2.1, u.2.2.2.2.2.1, u.2.2.2.2.2.2.1, u.2.2.2.2.2.2.2.1, u.2.2.2.2.2.2.2.2.1, u.2.2.2.2.2.2.2.2.2.1, u.2.2.2.2.2.2.2.2.2.2.1, u.2.2.2.2.2.2.2.2.2.2.2.1, x)
theorem sC_wC (u : KS) (i : Nat) (x : Int32) : sC (wC u i x) = upd (sC u) i x := rfl
theorem sT_wC (u : KS) (i : Nat) (x : Int32) : sT (wC u i x) = sT u := rfl
theorem sK_wC (u : KS) (i : Nat) (x : Int32) : sK (wC u i x) = sK u := rfl
theorem sA_wC (u : KS) (i : Nat) (x : Int32) : sA (wC u i x) = sA u := rfl
theorem sQ_wC (u : KS) (i : Nat) (x : Int32) : sQ (wC u i x) = sQ u := rfl
theorem sO_wC (u : KS) (i : Nat) (x : Int32) : sO (wC u i x) = sO u := rfl
theorem sD_wC (u : KS) (i : Nat) (x : Int32) : sD (wC u i x) = sD u := rfl
theorem sW_wC (u : KS) (i : Nat) (x : Int32) : sW (wC u i x) = sW u := rfl
theorem sN_wC (u : KS) (i : Nat) (x : Int32) : sN (wC u i x) = sN u := rfl
theorem sL_wC (u : KS) (i : Nat) (x : Int32) : sL (wC u i x) = sL u := rfl
theorem sd_wC (u : KS) (i : Nat) (x : Int32) : sd (wC u i x) = sd u := rfl
theorem sp_wC (u : KS) (i : Nat) (x : Int32) : sp (wC u i x) = sp u := rfl
theorem si_wC (u : KS) (i : Nat) (x : Int32) : si (wC u i x) = si u := rfl
theorem sC_wT (u : KS) (i : Nat) (x : Int32) : sC (wT u i x) = sC u := rfl
theorem sT_wT (u : KS) (i : Nat) (x : Int32) : sT (wT u i x) = upd (sT u) i x := rfl
theorem sK_wT (u : KS) (i : Nat) (x : Int32) : sK (wT u i x) = sK u := rfl
theorem sA_wT (u : KS) (i : Nat) (x : Int32) : sA (wT u i x) = sA u := rfl
theorem sQ_wT (u : KS) (i : Nat) (x : Int32) : sQ (wT u i x) = sQ u := rfl
theorem sO_wT (u : KS) (i : Nat) (x : Int32) : sO (wT u i x) = sO u := rfl
theorem sD_wT (u : KS) (i : Nat) (x : Int32) : sD (wT u i x) = sD u := rfl
theorem sW_wT (u : KS) (i : Nat) (x : Int32) : sW (wT u i x) = sW u := rfl
theorem sN_wT (u : KS) (i : Nat) (x : Int32) : sN (wT u i x) = sN u := rfl
theorem sL_wT (u : KS) (i : Nat) (x : Int32) : sL (wT u i x) = sL u := rfl
theorem sd_wT (u : KS) (i : Nat) (x : Int32) : sd (wT u i x) = sd u := rfl
theorem sp_wT (u : KS) (i : Nat) (x : Int32) : sp (wT u i x) = sp u := rfl
theorem si_wT (u : KS) (i : Nat) (x : Int32) : si (wT u i x) = si u := rfl
theorem sC_wK (u : KS) (i : Nat) (x : Int32) : sC (wK u i x) = sC u := rfl
theorem sT_wK (u : KS) (i : Nat) (x : Int32) : sT (wK u i x) = sT u := rfl
theorem sK_wK (u : KS) (i : Nat) (x : Int32) : sK (wK u i x) = upd (sK u) i x := rfl
theorem sA_wK (u : KS) (i : Nat) (x : Int32) : sA (wK u i x) = sA u := rfl
theorem sQ_wK (u : KS) (i : Nat) (x : Int32) : sQ (wK u i x) = sQ u := rfl
theorem sO_wK (u : KS) (i : Nat) (x : Int32) : sO (wK u i x) = sO u := rfl
theorem sD_wK (u : KS) (i : Nat) (x : Int32) : sD (wK u i x) = sD u := rfl
theorem sW_wK (u : KS) (i : Nat) (x : Int32) : sW (wK u i x) = sW u := rfl
theorem sN_wK (u : KS) (i : Nat) (x : Int32) : sN (wK u i x) = sN u := rfl
theorem sL_wK (u : KS) (i : Nat) (x : Int32) : sL (wK u i x) = sL u := rfl
theorem sd_wK (u : KS) (i : Nat) (x : Int32) : sd (wK u i x) = sd u := rfl
theorem sp_wK (u : KS) (i : Nat) (x : Int32) : sp (wK u i x) = sp u := rfl
theorem si_wK (u : KS) (i : Nat) (x : Int32) : si (wK u i x) = si u := rfl
theorem sC_wA (u : KS) (i : Nat) (x : Int32) : sC (wA u i x) = sC u := rfl
theorem sT_wA (u : KS) (i : Nat) (x : Int32) : sT (wA u i x) = sT u := rfl
theorem sK_wA (u : KS) (i : Nat) (x : Int32) : sK (wA u i x) = sK u := rfl
theorem sA_wA (u : KS) (i : Nat) (x : Int32) : sA (wA u i x) = upd (sA u) i x := rfl
theorem sQ_wA (u : KS) (i : Nat) (x : Int32) : sQ (wA u i x) = sQ u := rfl
theorem sO_wA (u : KS) (i : Nat) (x : Int32) : sO (wA u i x) = sO u := rfl
theorem sD_wA (u : KS) (i : Nat) (x : Int32) : sD (wA u i x) = sD u := rfl
theorem sW_wA (u : KS) (i : Nat) (x : Int32) : sW (wA u i x) = sW u := rfl
theorem sN_wA (u : KS) (i : Nat) (x : Int32) : sN (wA u i x) = sN u := rfl
theorem sL_wA (u : KS) (i : Nat) (x : Int32) : sL (wA u i x) = sL u := rfl
theorem sd_wA (u : KS) (i : Nat) (x : Int32) : sd (wA u i x) = sd u := rfl
theorem sp_wA (u : KS) (i : Nat) (x : Int32) : sp (wA u i x) = sp u := rfl
theorem si_wA (u : KS) (i : Nat) (x : Int32) : si (wA u i x) = si u := rfl
theorem sC_wQ (u : KS) (i : Nat) (x : Int32) : sC (wQ u i x) = sC u := rfl
theorem sT_wQ (u : KS) (i : Nat) (x : Int32) : sT (wQ u i x) = sT u := rfl
theorem sK_wQ (u : KS) (i : Nat) (x : Int32) : sK (wQ u i x) = sK u := rfl
theorem sA_wQ (u : KS) (i : Nat) (x : Int32) : sA (wQ u i x) = sA u := rfl
theorem sQ_wQ (u : KS) (i : Nat) (x : Int32) : sQ (wQ u i x) = upd (sQ u) i x := rfl
theorem sO_wQ (u : KS) (i : Nat) (x : Int32) : sO (wQ u i x) = sO u := rfl
theorem sD_wQ (u : KS) (i : Nat) (x : Int32) : sD (wQ u i x) = sD u := rfl
theorem sW_wQ (u : KS) (i : Nat) (x : Int32) : sW (wQ u i x) = sW u := rfl
theorem sN_wQ (u : KS) (i : Nat) (x : Int32) : sN (wQ u i x) = sN u := rfl
theorem sL_wQ (u : KS) (i : Nat) (x : Int32) : sL (wQ u i x) = sL u := rfl
theorem sd_wQ (u : KS) (i : Nat) (x : Int32) : sd (wQ u i x) = sd u := rfl
theorem sp_wQ (u : KS) (i : Nat) (x : Int32) : sp (wQ u i x) = sp u := rfl
theorem si_wQ (u : KS) (i : Nat) (x : Int32) : si (wQ u i x) = si u := rfl
theorem sC_wO (u : KS) (i : Nat) (x : Int32) : sC (wO u i x) = sC u := rfl
theorem sT_wO (u : KS) (i : Nat) (x : Int32) : sT (wO u i x) = sT u := rfl
theorem sK_wO (u : KS) (i : Nat) (x : Int32) : sK (wO u i x) = sK u := rfl
theorem sA_wO (u : KS) (i : Nat) (x : Int32) : sA (wO u i x) = sA u := rfl
theorem sQ_wO (u : KS) (i : Nat) (x : Int32) : sQ (wO u i x) = sQ u := rfl
theorem sO_wO (u : KS) (i : Nat) (x : Int32) : sO (wO u i x) = upd (sO u) i x := rfl
theorem sD_wO (u : KS) (i : Nat) (x : Int32) : sD (wO u i x) = sD u := rfl
theorem sW_wO (u : KS) (i : Nat) (x : Int32) : sW (wO u i x) = sW u := rfl
theorem sN_wO (u : KS) (i : Nat) (x : Int32) : sN (wO u i x) = sN u := rfl
theorem sL_wO (u : KS) (i : Nat) (x : Int32) : sL (wO u i x) = sL u := rfl
theorem sd_wO (u : KS) (i : Nat) (x : Int32) : sd (wO u i x) = sd u := rfl
theorem sp_wO (u : KS) (i : Nat) (x : Int32) : sp (wO u i x) = sp u := rfl
theorem si_wO (u : KS) (i : Nat) (x : Int32) : si (wO u i x) = si u := rfl
theorem sC_wD (u : KS) (i : Nat) (x : Int32) : sC (wD u i x) = sC u := rfl
theorem sT_wD (u : KS) (i : Nat) (x : Int32) : sT (wD u i x) = sT u := rfl
theorem sK_wD (u : KS) (i : Nat) (x : Int32) : sK (wD u i x) = sK u := rfl
theorem sA_wD (u : KS) (i : Nat) (x : Int32) : sA (wD u i x) = sA u := rfl
theorem sQ_wD (u : KS) (i : Nat) (x : Int32) : sQ (wD u i x) = sQ u := rfl
theorem sO_wD (u : KS) (i : Nat) (x : Int32) : sO (wD u i x) = sO u := rfl
theorem sD_wD (u : KS) (i : Nat) (x : Int32) : sD (wD u i x) = upd (sD u) i x := rfl
theorem sW_wD (u : KS) (i : Nat) (x : Int32) : sW (wD u i x) = sW u := rfl
theorem sN_wD (u : KS) (i : Nat) (x : Int32) : sN (wD u i x) = sN u := rfl
theorem sL_wD (u : KS) (i : Nat) (x : Int32) : sL (wD u i x) = sL u := rfl
theorem sd_wD (u : KS) (i : Nat) (x : Int32) : sd (wD u i x) = sd u := rfl
theorem sp_wD (u : KS) (i : Nat) (x : Int32) : sp (wD u i x) = sp u := rfl
theorem si_wD (u : KS) (i : Nat) (x : Int32) : si (wD u i x) = si u := rfl
theorem sC_wW (u : KS) (i : Nat) (x : Int32) : sC (wW u i x) = sC u := rfl
theorem sT_wW (u : KS) (i : Nat) (x : Int32) : sT (wW u i x) = sT u := rfl
theorem sK_wW (u : KS) (i : Nat) (x : Int32) : sK (wW u i x) = sK u := rfl
theorem sA_wW (u : KS) (i : Nat) (x : Int32) : sA (wW u i x) = sA u := rfl
theorem sQ_wW (u : KS) (i : Nat) (x : Int32) : sQ (wW u i x) = sQ u := rfl
theorem sO_wW (u : KS) (i : Nat) (x : Int32) : sO (wW u i x) = sO u := rfl
theorem sD_wW (u : KS) (i : Nat) (x : Int32) : sD (wW u i x) = sD u := rfl
theorem sW_wW (u : KS) (i : Nat) (x : Int32) : sW (wW u i x) = upd (sW u) i x := rfl
theorem sN_wW (u : KS) (i : Nat) (x : Int32) : sN (wW u i x) = sN u := rfl
theorem sL_wW (u : KS) (i : Nat) (x : Int32) : sL (wW u i x) = sL u := rfl
theorem sd_wW (u : KS) (i : Nat) (x : Int32) : sd (wW u i x) = sd u := rfl
theorem sp_wW (u : KS) (i : Nat) (x : Int32) : sp (wW u i x) = sp u := rfl
theorem si_wW (u : KS) (i : Nat) (x : Int32) : si (wW u i x) = si u := rfl
theorem sC_wN (u : KS) (i : Nat) (x : Int32) : sC (wN u i x) = sC u := rfl
theorem sT_wN (u : KS) (i : Nat) (x : Int32) : sT (wN u i x) = sT u := rfl
theorem sK_wN (u : KS) (i : Nat) (x : Int32) : sK (wN u i x) = sK u := rfl
theorem sA_wN (u : KS) (i : Nat) (x : Int32) : sA (wN u i x) = sA u := rfl
theorem sQ_wN (u : KS) (i : Nat) (x : Int32) : sQ (wN u i x) = sQ u := rfl
theorem sO_wN (u : KS) (i : Nat) (x : Int32) : sO (wN u i x) = sO u := rfl
theorem sD_wN (u : KS) (i : Nat) (x : Int32) : sD (wN u i x) = sD u := rfl
theorem sW_wN (u : KS) (i : Nat) (x : Int32) : sW (wN u i x) = sW u := rfl
theorem sN_wN (u : KS) (i : Nat) (x : Int32) : sN (wN u i x) = upd (sN u) i x := rfl
theorem sL_wN (u : KS) (i : Nat) (x : Int32) : sL (wN u i x) = sL u := rfl
theorem sd_wN (u : KS) (i : Nat) (x : Int32) : sd (wN u i x) = sd u := rfl
theorem sp_wN (u : KS) (i : Nat) (x : Int32) : sp (wN u i x) = sp u := rfl
theorem si_wN (u : KS) (i : Nat) (x : Int32) : si (wN u i x) = si u := rfl
theorem sC_wL (u : KS) (i : Nat) (x : Int32) : sC (wL u i x) = sC u := rfl
theorem sT_wL (u : KS) (i : Nat) (x : Int32) : sT (wL u i x) = sT u := rfl
theorem sK_wL (u : KS) (i : Nat) (x : Int32) : sK (wL u i x) = sK u := rfl
theorem sA_wL (u : KS) (i : Nat) (x : Int32) : sA (wL u i x) = sA u := rfl
theorem sQ_wL (u : KS) (i : Nat) (x : Int32) : sQ (wL u i x) = sQ u := rfl
theorem sO_wL (u : KS) (i : Nat) (x : Int32) : sO (wL u i x) = sO u := rfl
theorem sD_wL (u : KS) (i : Nat) (x : Int32) : sD (wL u i x) = sD u := rfl
theorem sW_wL (u : KS) (i : Nat) (x : Int32) : sW (wL u i x) = sW u := rfl
theorem sN_wL (u : KS) (i : Nat) (x : Int32) : sN (wL u i x) = sN u := rfl
theorem sL_wL (u : KS) (i : Nat) (x : Int32) : sL (wL u i x) = upd (sL u) i x := rfl
theorem sd_wL (u : KS) (i : Nat) (x : Int32) : sd (wL u i x) = sd u := rfl
theorem sp_wL (u : KS) (i : Nat) (x : Int32) : sp (wL u i x) = sp u := rfl
theorem si_wL (u : KS) (i : Nat) (x : Int32) : si (wL u i x) = si u := rfl
theorem sC_wd (u : KS) (x : Int32) : sC (wd u x) = sC u := rfl
theorem sT_wd (u : KS) (x : Int32) : sT (wd u x) = sT u := rfl
theorem sK_wd (u : KS) (x : Int32) : sK (wd u x) = sK u := rfl
theorem sA_wd (u : KS) (x : Int32) : sA (wd u x) = sA u := rfl
theorem sQ_wd (u : KS) (x : Int32) : sQ (wd u x) = sQ u := rfl
theorem sO_wd (u : KS) (x : Int32) : sO (wd u x) = sO u := rfl
theorem sD_wd (u : KS) (x : Int32) : sD (wd u x) = sD u := rfl
theorem sW_wd (u : KS) (x : Int32) : sW (wd u x) = sW u := rfl
theorem sN_wd (u : KS) (x : Int32) : sN (wd u x) = sN u := rfl
theorem sL_wd (u : KS) (x : Int32) : sL (wd u x) = sL u := rfl
theorem sd_wd (u : KS) (x : Int32) : sd (wd u x) = x := rfl
theorem sp_wd (u : KS) (x : Int32) : sp (wd u x) = sp u := rfl
theorem si_wd (u : KS) (x : Int32) : si (wd u x) = si u := rfl
theorem sC_wp (u : KS) (x : Int32) : sC (wp u x) = sC u := rfl
theorem sT_wp (u : KS) (x : Int32) : sT (wp u x) = sT u := rfl
theorem sK_wp (u : KS) (x : Int32) : sK (wp u x) = sK u := rfl
theorem sA_wp (u : KS) (x : Int32) : sA (wp u x) = sA u := rfl
theorem sQ_wp (u : KS) (x : Int32) : sQ (wp u x) = sQ u := rfl
theorem sO_wp (u : KS) (x : Int32) : sO (wp u x) = sO u := rfl
theorem sD_wp (u : KS) (x : Int32) : sD (wp u x) = sD u := rfl
theorem sW_wp (u : KS) (x : Int32) : sW (wp u x) = sW u := rfl
theorem sN_wp (u : KS) (x : Int32) : sN (wp u x) = sN u := rfl
theorem sL_wp (u : KS) (x : Int32) : sL (wp u x) = sL u := rfl
theorem sd_wp (u : KS) (x : Int32) : sd (wp u x) = sd u := rfl
theorem sp_wp (u : KS) (x : Int32) : sp (wp u x) = x := rfl
theorem si_wp (u : KS) (x : Int32) : si (wp u x) = si u := rfl
theorem sC_wi (u : KS) (x : Int32) : sC (wi u x) = sC u := rfl
theorem sT_wi (u : KS) (x : Int32) : sT (wi u x) = sT u := rfl
theorem sK_wi (u : KS) (x : Int32) : sK (wi u x) = sK u := rfl
theorem sA_wi (u : KS) (x : Int32) : sA (wi u x) = sA u := rfl
theorem sQ_wi (u : KS) (x : Int32) : sQ (wi u x) = sQ u := rfl
theorem sO_wi (u : KS) (x : Int32) : sO (wi u x) = sO u := rfl
theorem sD_wi (u : KS) (x : Int32) : sD (wi u x) = sD u := rfl
theorem sW_wi (u : KS) (x : Int32) : sW (wi u x) = sW u := rfl
theorem sN_wi (u : KS) (x : Int32) : sN (wi u x) = sN u := rfl
theorem sL_wi (u : KS) (x : Int32) : sL (wi u x) = sL u := rfl
theorem sd_wi (u : KS) (x : Int32) : sd (wi u x) = sd u := rfl
theorem sp_wi (u : KS) (x : Int32) : sp (wi u x) = sp u := rfl
theorem si_wi (u : KS) (x : Int32) : si (wi u x) = x := rfl
theorem KS_ext {u v : KS} (h0 : sC u = sC v) (h1 : sT u = sT v) (h2 : sK u = sK v) (h3 : sA u = sA v) (h4 : sQ u = sQ v) (h5 : sO u = sO v) (h6 : sD u = sD v) (h7 : sW u = sW v) (h8 : sN u = sN v) (h9 : sL u = sL v) (h10 : sd u = sd v) (h11 : sp u = sp v) (h12 : si u = si v) : u = v := by
  obtain ⟨a0, a1, a2, a3, a4, a5, a6, a7, a8, a9, a10, a11, a12⟩ := u
  obtain ⟨b0, b1, b2, b3, b4, b5, b6, b7, b8, b9, b10, b11, b12⟩ := v
  cases h0
  cases h1
  cases h2
  cases h3
  cases h4
  cases h5
  cases h6
  cases h7
  cases h8
  cases h9
  cases h10
  cases h11
  cases h12
  rfl
/-- a State at h, its rows at a -/
def wS (cy : Nat → ClassId) (h : Nat) (a : Nat → Nat) (u : KS) : va_W := [(h, .inr (2, [.ref (a 0), .ref (a 1), .ref (a 2), .ref (a 3), .ref (a 4), .ref (a 5), .ref (a 6), .ref (a 7), .ref (a 8), .ref (a 9), .int (sd u), .int (sp u), .int (si u)])), (a 0, .inl (cy 0, 17, .inl (sC u))), (a 1, .inl (cy 0, 14, .inl (sT u))), (a 2, .inl (cy 0, 12, .inl (sK u))), (a 3, .inl (cy 0, 420, .inl (sA u))), (a 4, .inl (cy 0, 20, .inl (sQ u))), (a 5, .inl (cy 0, 90, .inl (sO u))), (a 6, .inl (cy 0, 3, .inl (sD u))), (a 7, .inl (cy 0, 3, .inl (sW u))), (a 8, .inl (cy 0, 3, .inl (sN u))), (a 9, .inl (cy 0, 80, .inl (sL u)))]
