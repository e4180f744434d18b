/-! GHOST: the pure state of the reference -/
/-- the reference: its rows state, aside, trial, past, saved, isSaved, accounts, text, commands, output; its numbers -/
abbrev RS : Type := (Nat → Int32) × (Nat → Int32) × (Nat → Int32) × (Nat → Int32) × (Nat → Int32) × (Nat → Int32) × (Nat → Int32) × (Nat → Int32) × (Nat → Int32) × (Nat → Int32) × Int32 × Int32 × Int32 × Int32 × Int32 × Int32 × Int32 × Int32 × Int32 × Int32 × Int32 × Int32 × Int32
def mSt (u : RS) : Nat → Int32 := u.1
def mAs (u : RS) : Nat → Int32 := u.2.1
def mTr (u : RS) : Nat → Int32 := u.2.2.1
def mPa (u : RS) : Nat → Int32 := u.2.2.2.1
def mSa (u : RS) : Nat → Int32 := u.2.2.2.2.1
def mIs (u : RS) : Nat → Int32 := u.2.2.2.2.2.1
def mAo (u : RS) : Nat → Int32 := u.2.2.2.2.2.2.1
def mTx (u : RS) : Nat → Int32 := u.2.2.2.2.2.2.2.1
def mCo (u : RS) : Nat → Int32 := u.2.2.2.2.2.2.2.2.1
def mOu (u : RS) : Nat → Int32 := u.2.2.2.2.2.2.2.2.2.1
def mAc (u : RS) : Int32 := u.2.2.2.2.2.2.2.2.2.2.1
def mTh (u : RS) : Int32 := u.2.2.2.2.2.2.2.2.2.2.2.1
def mCc (u : RS) : Int32 := u.2.2.2.2.2.2.2.2.2.2.2.2.1
def mTl (u : RS) : Int32 := u.2.2.2.2.2.2.2.2.2.2.2.2.2.1
def mPo (u : RS) : Int32 := u.2.2.2.2.2.2.2.2.2.2.2.2.2.2.1
def mTs (u : RS) : Int32 := u.2.2.2.2.2.2.2.2.2.2.2.2.2.2.2.1
def mTo (u : RS) : Int32 := u.2.2.2.2.2.2.2.2.2.2.2.2.2.2.2.2.1
def mNu (u : RS) : Int32 := u.2.2.2.2.2.2.2.2.2.2.2.2.2.2.2.2.2.1
def mEc (u : RS) : Int32 := u.2.2.2.2.2.2.2.2.2.2.2.2.2.2.2.2.2.2.1
def mEp (u : RS) : Int32 := u.2.2.2.2.2.2.2.2.2.2.2.2.2.2.2.2.2.2.2.1
def mTd (u : RS) : Int32 := u.2.2.2.2.2.2.2.2.2.2.2.2.2.2.2.2.2.2.2.2.1
def mTk (u : RS) : Int32 := u.2.2.2.2.2.2.2.2.2.2.2.2.2.2.2.2.2.2.2.2.2.1
def mOl (u : RS) : Int32 := u.2.2.2.2.2.2.2.2.2.2.2.2.2.2.2.2.2.2.2.2.2.2
def nSt (u : RS) (i : Nat) (x : Int32) : RS := (upd u.1 i x, u.2)
def nAs (u : RS) (i : Nat) (x : Int32) : RS := (u.1, upd u.2.1 i x, u.2.2)
def nTr (u : RS) (i : Nat) (x : Int32) : RS := (u.1, u.2.1, upd u.2.2.1 i x, u.2.2.2)
def nPa (u : RS) (i : Nat) (x : Int32) : RS := (u.1, u.2.1, u.2.2.1, upd u.2.2.2.1 i x, u.2.2.2.2)
def nSa (u : RS) (i : Nat) (x : Int32) : RS := (u.1, u.2.1, u.2.2.1, u.2.2.2.1, upd u.2.2.2.2.1 i x, u.2.2.2.2.2)
def nIs (u : RS) (i : Nat) (x : Int32) : RS := (u.1, u.2.1, u.2.2.1, u.2.2.2.1, u.2.2.2.2.1, upd u.2.2.2.2.2.1 i x, u.2.2.2.2.2.2)
def nAo (u : RS) (i : Nat) (x : Int32) : RS := (u.1, u.2.1, u.2.2.1, u.2.2.2.1, u.2.2.2.2.1, u.2.2.2.2.2.1, upd u.2.2.2.2.2.2.1 i x, u.2.2.2.2.2.2.2)
def nTx (u : RS) (i : Nat) (x : Int32) : RS := (u.1, u.2.1, u.2.2.1, u.2.2.2.1, u.2.2.2.2.1, u.2.2.2.2.2.1, u.2.2.2.2.2.2.1, upd u.2.2.2.2.2.2.2.1 i x, u.2.2.2.2.2.2.2.2)
def nCo (u : RS) (i : Nat) (x : Int32) : RS := (u.1, u.2.1, u.2.2.1, u.2.2.2.1, u.2.2.2.2.1, u.2.2.2.2.2.1, u.2.2.2.2.2.2.1, u.2.2.2.2.2.2.2.1, upd u.2.2.2.2.2.2.2.2.1 i x, u.2.2.2.2.2.2.2.2.2)
def nOu (u : RS) (i : Nat) (x : Int32) : RS := (u.1, u.2.1, u.2.2.1, u.2.2.2.1, u.2.2.2.2.1, u.2.2.2.2.2.1, u.2.2.2.2.2.2.1, u.2.2.2.2.2.2.2.1, u.2.2.2.2.2.2.2.2.1, upd u.2.2.2.2.2.2.2.2.2.1 i x, u.2.2.2.2.2.2.2.2.2.2)
def nAc (u : RS) (x : Int32) : RS := (u.1, u.2.1, u.2.2.1, u.2.2.2.1, u.2.2.2.2.1, u.2.2.2.2.2.1, u.2.2.2.2.2.2.1, u.2.2.2.2.2.2.2.1, u.2.2.2.2.2.2.2.2.1, u.2.2.2.2.2.2.2.2.2.1, x, u.2.2.2.2.2.2.2.2.2.2.2)
def nTh (u : RS) (x : Int32) : RS := (u.1, u.2.1, u.2.2.1, u.2.2.2.1, u.2.2.2.2.1, u.2.2.2.2.2.1, u.2.2.2.2.2.2.1, u.2.2.2.2.2.2.2.1, u.2.2.2.2.2.2.2.2.1, u.2.2.2.2.2.2.2.2.2.1, u.2.2.2.2.2.2.2.2.2.2.1, x, u.2.2.2.2.2.2.2.2.2.2.2.2)
def nCc (u : RS) (x : Int32) : RS := (u.1, u.2.1, u.2.2.1, u.2.2.2.1, u.2.2.2.2.1, u.2.2.2.2.2.1, u.2.2.2.2.2.2.1, u.2.2.2.2.2.2.2.1, u.2.2.2.2.2.2.2.2.1, u.2.2.2.2.2.2.2.2.2.1, u.2.2.2.2.2.2.2.2.2.2.1, u.2.2.2.2.2.2.2.2.2.2.2.1, x, u.2.2.2.2.2.2.2.2.2.2.2.2.2)
def nTl (u : RS) (x : Int32) : RS := (u.1, u.2.1, u.2.2.1, u.2.2.2.1, u.2.2.2.2.1, u.2.2.2.2.2.1, u.2.2.2.2.2.2.1, u.2.2.2.2.2.2.2.1, u.2.2.2.2.2.2.2.2.1, u.2.2.2.2.2.2.2.2.2.1, u.2.2.2.2.2.2.2.2.2.2.1, u.2.2.2.2.2.2.2.2.2.2.2.1, u.2.2.2.2.2.2.2.2.2.2.2.2.1, x, u.2.2.2.2.2.2.2.2.2.2.2.2.2.2)
def nPo (u : RS) (x : Int32) : RS := (u.1, u.2.1, u.2.2.1, u.2.2.2.1, u.2.2.2.2.1, u.2.2.2.2.2.1, u.2.2.2.2.2.2.1, u.2.2.2.2.2.2.2.1, u.2.2.2.2.2.2.2.2.1, u.2.2.2.2.2.2.2.2.2.1, u.2.2.2.2.2.2.2.2.2.2.1, u.2.2.2.2.2.2.2.2.2.2.2.1, u.2.2.2.2.2.2.2.2.2.2.2.2.1, u.2.2.2.2.2.2.2.2.2.2.2.2.2.1, x, u.2.2.2.2.2.2.2.2.2.2.2.2.2.2.2)
def nTs (u : RS) (x : Int32) : RS := (u.1, u.2.1, u.2.2.1, u.2.2.2.1, u.2.2.2.2.1, u.2.2.2.2.2.1, u.2.2.2.2.2.2.1, u.2.2.2.2.2.2.2.1, u.2.2.2.2.2.2.2.2.1, u.2.2.2.2.2.2.2.2.2.1, u.2.2.2.2.2.2.2.2.2.2.1, u.2.2.2.2.2.2.2.2.2.2.2.1, u.2.2.2.2.2.2.2.2.2.2.2.2.1, u.2.2.2.2.2.2.2.2.2.2.2.2.2.1, u.2.2.2.2.2.2.2.2.2.2.2.2.2.2.1, x, u.2.2.2.2.2.2.2.2.2.2.2.2.2.2.2.2)
def nTo (u : RS) (x : Int32) : RS := (u.1, u.2.1, u.2.2.1, u.2.2.2.1, u.2.2.2.2.1, u.2.2.2.2.2.1, u.2.2.2.2.2.2.1, u.2.2.2.2.2.2.2.1, u.2.2.2.2.2.2.2.2.1, u.2.2.2.2.2.2.2.2.2.1, u.2.2.2.2.2.2.2.2.2.2.1, u.2.2.2.2.2.2.2.2.2.2.2.1, u.2.2.2.2.2.2.2.2.2.2.2.2.1, u.2.2.2.2.2.2.2.2.2.2.2.2.2.1, u.2.2.2.2.2.2.2.2.2.2.2.2.2.2.1, u.2.2.2.2.2.2.2.2.2.2.2.2.2.2.2.1, x, u.2.2.2.2.2.2.2.2.2.2.2.2.2.2.2.2.2)
def nNu (u : RS) (x : Int32) : RS := (u.1, u.2.1, u.2.2.1, u.2.2.2.1, u.2.2.2.2.1, u.2.2.2.2.2.1, u.2.2.2.2.2.2.1, u.2.2.2.2.2.2.2.1, u.2.2.2.2.2.2.2.2.1, u.2.2.2.2.2.2.2.2.2.1, u.2.2.2.2.2.2.2.2.2.2.1, u.2.2.2.2.2.2.2.2.2.2.2.1, u.2.2.2.2.2.2.2.2.2.2.2.2.1, u.2.2.2.2.2.2.2.2.2.2.2.2.2.1, u.2.2.2.2.2.2.2.2.2.2.2.2.2.2.1, u.2.2.2.2.2.2.2.2.2.2.2.2.2.2.2.1, u.2.2.2.2.2.2.2.2.2.2.2.2.2.2.2.2.1, x, u.2.2.2.2.2.2.2.2.2.2.2.2.2.2.2.2.2.2)
def nEc (u : RS) (x : Int32) : RS := (u.1, u.2.1, u.2.2.1, u.2.2.2.1, u.2.2.2.2.1, u.2.2.2.2.2.1, u.2.2.2.2.2.2.1, u.2.2.2.2.2.2.2.1, u.2.2.2.2.2.2.2.2.1, u.2.2.2.2.2.2.2.2.2.1, u.2.2.2.2.2.2.2.2.2.2.1, u.2.2.2.2.2.2.2.2.2.2.2.1, u.2.2.2.2.2.2.2.2.2.2.2.2.1, u.2.2.2.2.2.2.2.2.2.2.2.2.2.1, u.2.2.2.2.2.2.2.2.2.2.2.2.2.2.1, u.2.2.2.2.2.2.2.2.2.2.2.2.2.2.2.1, u.2.2.2.2.2.2.2.2.2.2.2.2.2.2.2.2.1, u.2.2.2.2.2.2.2.2.2.2.2.2.2.2.2.2.2.1, x, u.2.2.2.2.2.2.2.2.2.2.2.2.2.2.2.2.2.2.2)
def nEp (u : RS) (x : Int32) : RS := (u.1, u.2.1, u.2.2.1, u.2.2.2.1, u.2.2.2.2.1, u.2.2.2.2.2.1, u.2.2.2.2.2.2.1, u.2.2.2.2.2.2.2.1, u.2.2.2.2.2.2.2.2.1, u.2.2.2.2.2.2.2.2.2.1, u.2.2.2.2.2.2.2.2.2.2.1, u.2.2.2.2.2.2.2.2.2.2.2.1, u.2.2.2.2.2.2.2.2.2.2.2.2.1, u.2.2.2.2.2.2.2.2.2.2.2.2.2.1, u.2.2.2.2.2.2.2.2.2.2.2.2.2.2.1, u.2.2.2.2.2.2.2.2.2.2.2.2.2.2.2.1, u.2.2.2.2.2.2.2.2.2.2.2.2.2.2.2.2.1, u.2.2.2.2.2.2.2.2.2.2.2.2.2.2.2.2.2.1, u.2.2.2.2.2.2.2.2.2.2.2.2.2.2.2.2.2.2.1, x, u.2.2.2.2.2.2.2.2.2.2.2.2.2.2.2.2.2.2.2.2)
def nTd (u : RS) (x : Int32) : RS := (u.1, u.2.1, u.2.2.1, u.2.2.2.1, u.2.2.2.2.1, u.2.2.2.2.2.1, u.2.2.2.2.2.2.1, u.2.2.2.2.2.2.2.1, u.2.2.2.2.2.2.2.2.1, u.2.2.2.2.2.2.2.2.2.1, u.2.2.2.2.2.2.2.2.2.2.1, u.2.2.2.2.2.2.2.2.2.2.2.1, u.2.2.2.2.2.2.2.2.2.2.2.2.1, u.2.2.2.2.2.2.2.2.2.2.2.2.2.1, u.2.2.2.2.2.2.2.2.2.2.2.2.2.2.1, u.2.2.2.2.2.2.2.2.2.2.2.2.2.2.2.1, u.2.2.2.2.2.2.2.2.2.2.2.2.2.2.2.2.1, u.2.2.2.2.2.2.2.2.2.2.2.2.2.2.2.2.2.1, u.2.2.2.2.2.2.2.2.2.2.2.2.2.2.2.2.2.2.1, u.2.2.2.2.2.2.2.2.2.2.2.2.2.2.2.2.2.2.2.1, x, u.2.2.2.2.2.2.2.2.2.2.2.2.2.2.2.2.2.2.2.2.2)
def nTk (u : RS) (x : Int32) : RS := (u.1, u.2.1, u.2.2.1, u.2.2.2.1, u.2.2.2.2.1, u.2.2.2.2.2.1, u.2.2.2.2.2.2.1, u.2.2.2.2.2.2.2.1, u.2.2.2.2.2.2.2.2.1, u.2.2.2.2.2.2.2.2.2.1, u.2.2.2.2.2.2.2.2.2.2.1, u.2.2.2.2.2.2.2.2.2.2.2.1, u.2.2.2.2.2.2.2.2.2.2.2.2.1, u.2.2.2.2.2.2.2.2.2.2.2.2.2.1, u.2.2.2.2.2.2.2.2.2.2.2.2.2.2.1, u.2.2.2.2.2.2.2.2.2.2.2.2.2.2.2.1, u.2.2.2.2.2.2.2.2.2.2.2.2.2.2.2.2.1, u.2.2.2.2.2.2.2.2.2.2.2.2.2.2.2.2.2.1, u.2.2.2.2.2.2.2.2.2.2.2.2.2.2.2.2.2.2.1, u.2.2.2.2.2.2.2.2.2.2.2.2.2.2.2.2.2.2.2.1, u.2.2.2.2.2.2.2.2.2.2.2.2.2.2.2.2.2.2.2.2.1, x, u.2.2.2.2.2.2.2.2.2.2.2.2.2.2.2.2.2.2.2.2.2.2)
def nOl (u : RS) (x : Int32) : RS := (u.1, u.2.1, u.2.2.1, u.2.2.2.1, u.2.2.2.2.1, u.2.2.2.2.2.1, u.2.2.2.2.2.2.1, u.2.2.2.2.2.2.2.1, u.2.2.2.2.2.2.2.2.1, u.2.2.2.2.2.2.2.2.2.1, u.2.2.2.2.2.2.2.2.2.2.1, u.2.2.2.2.2.2.2.2.2.2.2.1, u.2.2.2.2.2.2.2.2.2.2.2.2.1, u.2.2.2.2.2.2.2.2.2.2.2.2.2.1, u.2.2.2.2.2.2.2.2.2.2.2.2.2.2.1, u.2.2.2.2.2.2.2.2.2.2.2.2.2.2.2.1, u.2.2.2.2.2.2.2.2.2.2.2.2.2.2.2.2.1, u.2.2.2.2.2.2.2.2.2.2.2.2.2.2.2.2.2.1, u.2.2.2.2.2.2.2.2.2.2.2.2.2.2.2.2.2.2.1, u.2.2.2.2.2.2.2.2.2.2.2.2.2.2.2.2.2.2.2.1, u.2.2.2.2.2.2.2.2.2.2.2.2.2.2.2.2.2.2.2.2.1, u.2.2.2.2.2.2.2.2.2.2.2.2.2.2.2.2.2.2.2.2.2.1, x)
theorem mSt_nSt (u : RS) (i : Nat) (x : Int32) : mSt (nSt u i x) = upd (mSt u) i x := rfl
theorem mAs_nSt (u : RS) (i : Nat) (x : Int32) : mAs (nSt u i x) = mAs u := rfl
theorem mTr_nSt (u : RS) (i : Nat) (x : Int32) : mTr (nSt u i x) = mTr u := rfl
theorem mPa_nSt (u : RS) (i : Nat) (x : Int32) : mPa (nSt u i x) = mPa u := rfl
theorem mSa_nSt (u : RS) (i : Nat) (x : Int32) : mSa (nSt u i x) = mSa u := rfl
theorem mIs_nSt (u : RS) (i : Nat) (x : Int32) : mIs (nSt u i x) = mIs u := rfl
theorem mAo_nSt (u : RS) (i : Nat) (x : Int32) : mAo (nSt u i x) = mAo u := rfl
theorem mTx_nSt (u : RS) (i : Nat) (x : Int32) : mTx (nSt u i x) = mTx u := rfl
theorem mCo_nSt (u : RS) (i : Nat) (x : Int32) : mCo (nSt u i x) = mCo u := rfl
theorem mOu_nSt (u : RS) (i : Nat) (x : Int32) : mOu (nSt u i x) = mOu u := rfl
theorem mAc_nSt (u : RS) (i : Nat) (x : Int32) : mAc (nSt u i x) = mAc u := rfl
theorem mTh_nSt (u : RS) (i : Nat) (x : Int32) : mTh (nSt u i x) = mTh u := rfl
theorem mCc_nSt (u : RS) (i : Nat) (x : Int32) : mCc (nSt u i x) = mCc u := rfl
theorem mTl_nSt (u : RS) (i : Nat) (x : Int32) : mTl (nSt u i x) = mTl u := rfl
theorem mPo_nSt (u : RS) (i : Nat) (x : Int32) : mPo (nSt u i x) = mPo u := rfl
theorem mTs_nSt (u : RS) (i : Nat) (x : Int32) : mTs (nSt u i x) = mTs u := rfl
theorem mTo_nSt (u : RS) (i : Nat) (x : Int32) : mTo (nSt u i x) = mTo u := rfl
theorem mNu_nSt (u : RS) (i : Nat) (x : Int32) : mNu (nSt u i x) = mNu u := rfl
theorem mEc_nSt (u : RS) (i : Nat) (x : Int32) : mEc (nSt u i x) = mEc u := rfl
theorem mEp_nSt (u : RS) (i : Nat) (x : Int32) : mEp (nSt u i x) = mEp u := rfl
theorem mTd_nSt (u : RS) (i : Nat) (x : Int32) : mTd (nSt u i x) = mTd u := rfl
theorem mTk_nSt (u : RS) (i : Nat) (x : Int32) : mTk (nSt u i x) = mTk u := rfl
theorem mOl_nSt (u : RS) (i : Nat) (x : Int32) : mOl (nSt u i x) = mOl u := rfl
theorem mSt_nAs (u : RS) (i : Nat) (x : Int32) : mSt (nAs u i x) = mSt u := rfl
theorem mAs_nAs (u : RS) (i : Nat) (x : Int32) : mAs (nAs u i x) = upd (mAs u) i x := rfl
theorem mTr_nAs (u : RS) (i : Nat) (x : Int32) : mTr (nAs u i x) = mTr u := rfl
theorem mPa_nAs (u : RS) (i : Nat) (x : Int32) : mPa (nAs u i x) = mPa u := rfl
theorem mSa_nAs (u : RS) (i : Nat) (x : Int32) : mSa (nAs u i x) = mSa u := rfl
theorem mIs_nAs (u : RS) (i : Nat) (x : Int32) : mIs (nAs u i x) = mIs u := rfl
theorem mAo_nAs (u : RS) (i : Nat) (x : Int32) : mAo (nAs u i x) = mAo u := rfl
theorem mTx_nAs (u : RS) (i : Nat) (x : Int32) : mTx (nAs u i x) = mTx u := rfl
theorem mCo_nAs (u : RS) (i : Nat) (x : Int32) : mCo (nAs u i x) = mCo u := rfl
theorem mOu_nAs (u : RS) (i : Nat) (x : Int32) : mOu (nAs u i x) = mOu u := rfl
theorem mAc_nAs (u : RS) (i : Nat) (x : Int32) : mAc (nAs u i x) = mAc u := rfl
theorem mTh_nAs (u : RS) (i : Nat) (x : Int32) : mTh (nAs u i x) = mTh u := rfl
theorem mCc_nAs (u : RS) (i : Nat) (x : Int32) : mCc (nAs u i x) = mCc u := rfl
theorem mTl_nAs (u : RS) (i : Nat) (x : Int32) : mTl (nAs u i x) = mTl u := rfl
theorem mPo_nAs (u : RS) (i : Nat) (x : Int32) : mPo (nAs u i x) = mPo u := rfl
theorem mTs_nAs (u : RS) (i : Nat) (x : Int32) : mTs (nAs u i x) = mTs u := rfl
theorem mTo_nAs (u : RS) (i : Nat) (x : Int32) : mTo (nAs u i x) = mTo u := rfl
theorem mNu_nAs (u : RS) (i : Nat) (x : Int32) : mNu (nAs u i x) = mNu u := rfl
theorem mEc_nAs (u : RS) (i : Nat) (x : Int32) : mEc (nAs u i x) = mEc u := rfl
theorem mEp_nAs (u : RS) (i : Nat) (x : Int32) : mEp (nAs u i x) = mEp u := rfl
theorem mTd_nAs (u : RS) (i : Nat) (x : Int32) : mTd (nAs u i x) = mTd u := rfl
theorem mTk_nAs (u : RS) (i : Nat) (x : Int32) : mTk (nAs u i x) = mTk u := rfl
theorem mOl_nAs (u : RS) (i : Nat) (x : Int32) : mOl (nAs u i x) = mOl u := rfl
theorem mSt_nTr (u : RS) (i : Nat) (x : Int32) : mSt (nTr u i x) = mSt u := rfl
theorem mAs_nTr (u : RS) (i : Nat) (x : Int32) : mAs (nTr u i x) = mAs u := rfl
theorem mTr_nTr (u : RS) (i : Nat) (x : Int32) : mTr (nTr u i x) = upd (mTr u) i x := rfl
theorem mPa_nTr (u : RS) (i : Nat) (x : Int32) : mPa (nTr u i x) = mPa u := rfl
theorem mSa_nTr (u : RS) (i : Nat) (x : Int32) : mSa (nTr u i x) = mSa u := rfl
theorem mIs_nTr (u : RS) (i : Nat) (x : Int32) : mIs (nTr u i x) = mIs u := rfl
theorem mAo_nTr (u : RS) (i : Nat) (x : Int32) : mAo (nTr u i x) = mAo u := rfl
theorem mTx_nTr (u : RS) (i : Nat) (x : Int32) : mTx (nTr u i x) = mTx u := rfl
theorem mCo_nTr (u : RS) (i : Nat) (x : Int32) : mCo (nTr u i x) = mCo u := rfl
theorem mOu_nTr (u : RS) (i : Nat) (x : Int32) : mOu (nTr u i x) = mOu u := rfl
theorem mAc_nTr (u : RS) (i : Nat) (x : Int32) : mAc (nTr u i x) = mAc u := rfl
theorem mTh_nTr (u : RS) (i : Nat) (x : Int32) : mTh (nTr u i x) = mTh u := rfl
theorem mCc_nTr (u : RS) (i : Nat) (x : Int32) : mCc (nTr u i x) = mCc u := rfl
theorem mTl_nTr (u : RS) (i : Nat) (x : Int32) : mTl (nTr u i x) = mTl u := rfl
theorem mPo_nTr (u : RS) (i : Nat) (x : Int32) : mPo (nTr u i x) = mPo u := rfl
theorem mTs_nTr (u : RS) (i : Nat) (x : Int32) : mTs (nTr u i x) = mTs u := rfl
theorem mTo_nTr (u : RS) (i : Nat) (x : Int32) : mTo (nTr u i x) = mTo u := rfl
theorem mNu_nTr (u : RS) (i : Nat) (x : Int32) : mNu (nTr u i x) = mNu u := rfl
theorem mEc_nTr (u : RS) (i : Nat) (x : Int32) : mEc (nTr u i x) = mEc u := rfl
theorem mEp_nTr (u : RS) (i : Nat) (x : Int32) : mEp (nTr u i x) = mEp u := rfl
theorem mTd_nTr (u : RS) (i : Nat) (x : Int32) : mTd (nTr u i x) = mTd u := rfl
theorem mTk_nTr (u : RS) (i : Nat) (x : Int32) : mTk (nTr u i x) = mTk u := rfl
theorem mOl_nTr (u : RS) (i : Nat) (x : Int32) : mOl (nTr u i x) = mOl u := rfl
theorem mSt_nPa (u : RS) (i : Nat) (x : Int32) : mSt (nPa u i x) = mSt u := rfl
theorem mAs_nPa (u : RS) (i : Nat) (x : Int32) : mAs (nPa u i x) = mAs u := rfl
theorem mTr_nPa (u : RS) (i : Nat) (x : Int32) : mTr (nPa u i x) = mTr u := rfl
theorem mPa_nPa (u : RS) (i : Nat) (x : Int32) : mPa (nPa u i x) = upd (mPa u) i x := rfl
theorem mSa_nPa (u : RS) (i : Nat) (x : Int32) : mSa (nPa u i x) = mSa u := rfl
theorem mIs_nPa (u : RS) (i : Nat) (x : Int32) : mIs (nPa u i x) = mIs u := rfl
theorem mAo_nPa (u : RS) (i : Nat) (x : Int32) : mAo (nPa u i x) = mAo u := rfl
theorem mTx_nPa (u : RS) (i : Nat) (x : Int32) : mTx (nPa u i x) = mTx u := rfl
theorem mCo_nPa (u : RS) (i : Nat) (x : Int32) : mCo (nPa u i x) = mCo u := rfl
theorem mOu_nPa (u : RS) (i : Nat) (x : Int32) : mOu (nPa u i x) = mOu u := rfl
theorem mAc_nPa (u : RS) (i : Nat) (x : Int32) : mAc (nPa u i x) = mAc u := rfl
theorem mTh_nPa (u : RS) (i : Nat) (x : Int32) : mTh (nPa u i x) = mTh u := rfl
theorem mCc_nPa (u : RS) (i : Nat) (x : Int32) : mCc (nPa u i x) = mCc u := rfl
theorem mTl_nPa (u : RS) (i : Nat) (x : Int32) : mTl (nPa u i x) = mTl u := rfl
theorem mPo_nPa (u : RS) (i : Nat) (x : Int32) : mPo (nPa u i x) = mPo u := rfl
theorem mTs_nPa (u : RS) (i : Nat) (x : Int32) : mTs (nPa u i x) = mTs u := rfl
theorem mTo_nPa (u : RS) (i : Nat) (x : Int32) : mTo (nPa u i x) = mTo u := rfl
theorem mNu_nPa (u : RS) (i : Nat) (x : Int32) : mNu (nPa u i x) = mNu u := rfl
theorem mEc_nPa (u : RS) (i : Nat) (x : Int32) : mEc (nPa u i x) = mEc u := rfl
theorem mEp_nPa (u : RS) (i : Nat) (x : Int32) : mEp (nPa u i x) = mEp u := rfl
theorem mTd_nPa (u : RS) (i : Nat) (x : Int32) : mTd (nPa u i x) = mTd u := rfl
theorem mTk_nPa (u : RS) (i : Nat) (x : Int32) : mTk (nPa u i x) = mTk u := rfl
theorem mOl_nPa (u : RS) (i : Nat) (x : Int32) : mOl (nPa u i x) = mOl u := rfl
theorem mSt_nSa (u : RS) (i : Nat) (x : Int32) : mSt (nSa u i x) = mSt u := rfl
theorem mAs_nSa (u : RS) (i : Nat) (x : Int32) : mAs (nSa u i x) = mAs u := rfl
theorem mTr_nSa (u : RS) (i : Nat) (x : Int32) : mTr (nSa u i x) = mTr u := rfl
theorem mPa_nSa (u : RS) (i : Nat) (x : Int32) : mPa (nSa u i x) = mPa u := rfl
theorem mSa_nSa (u : RS) (i : Nat) (x : Int32) : mSa (nSa u i x) = upd (mSa u) i x := rfl
theorem mIs_nSa (u : RS) (i : Nat) (x : Int32) : mIs (nSa u i x) = mIs u := rfl
theorem mAo_nSa (u : RS) (i : Nat) (x : Int32) : mAo (nSa u i x) = mAo u := rfl
theorem mTx_nSa (u : RS) (i : Nat) (x : Int32) : mTx (nSa u i x) = mTx u := rfl
theorem mCo_nSa (u : RS) (i : Nat) (x : Int32) : mCo (nSa u i x) = mCo u := rfl
theorem mOu_nSa (u : RS) (i : Nat) (x : Int32) : mOu (nSa u i x) = mOu u := rfl
theorem mAc_nSa (u : RS) (i : Nat) (x : Int32) : mAc (nSa u i x) = mAc u := rfl
theorem mTh_nSa (u : RS) (i : Nat) (x : Int32) : mTh (nSa u i x) = mTh u := rfl
theorem mCc_nSa (u : RS) (i : Nat) (x : Int32) : mCc (nSa u i x) = mCc u := rfl
theorem mTl_nSa (u : RS) (i : Nat) (x : Int32) : mTl (nSa u i x) = mTl u := rfl
theorem mPo_nSa (u : RS) (i : Nat) (x : Int32) : mPo (nSa u i x) = mPo u := rfl
theorem mTs_nSa (u : RS) (i : Nat) (x : Int32) : mTs (nSa u i x) = mTs u := rfl
theorem mTo_nSa (u : RS) (i : Nat) (x : Int32) : mTo (nSa u i x) = mTo u := rfl
theorem mNu_nSa (u : RS) (i : Nat) (x : Int32) : mNu (nSa u i x) = mNu u := rfl
theorem mEc_nSa (u : RS) (i : Nat) (x : Int32) : mEc (nSa u i x) = mEc u := rfl
theorem mEp_nSa (u : RS) (i : Nat) (x : Int32) : mEp (nSa u i x) = mEp u := rfl
theorem mTd_nSa (u : RS) (i : Nat) (x : Int32) : mTd (nSa u i x) = mTd u := rfl
theorem mTk_nSa (u : RS) (i : Nat) (x : Int32) : mTk (nSa u i x) = mTk u := rfl
theorem mOl_nSa (u : RS) (i : Nat) (x : Int32) : mOl (nSa u i x) = mOl u := rfl
theorem mSt_nIs (u : RS) (i : Nat) (x : Int32) : mSt (nIs u i x) = mSt u := rfl
theorem mAs_nIs (u : RS) (i : Nat) (x : Int32) : mAs (nIs u i x) = mAs u := rfl
theorem mTr_nIs (u : RS) (i : Nat) (x : Int32) : mTr (nIs u i x) = mTr u := rfl
theorem mPa_nIs (u : RS) (i : Nat) (x : Int32) : mPa (nIs u i x) = mPa u := rfl
theorem mSa_nIs (u : RS) (i : Nat) (x : Int32) : mSa (nIs u i x) = mSa u := rfl
theorem mIs_nIs (u : RS) (i : Nat) (x : Int32) : mIs (nIs u i x) = upd (mIs u) i x := rfl
theorem mAo_nIs (u : RS) (i : Nat) (x : Int32) : mAo (nIs u i x) = mAo u := rfl
theorem mTx_nIs (u : RS) (i : Nat) (x : Int32) : mTx (nIs u i x) = mTx u := rfl
theorem mCo_nIs (u : RS) (i : Nat) (x : Int32) : mCo (nIs u i x) = mCo u := rfl
theorem mOu_nIs (u : RS) (i : Nat) (x : Int32) : mOu (nIs u i x) = mOu u := rfl
theorem mAc_nIs (u : RS) (i : Nat) (x : Int32) : mAc (nIs u i x) = mAc u := rfl
theorem mTh_nIs (u : RS) (i : Nat) (x : Int32) : mTh (nIs u i x) = mTh u := rfl
theorem mCc_nIs (u : RS) (i : Nat) (x : Int32) : mCc (nIs u i x) = mCc u := rfl
theorem mTl_nIs (u : RS) (i : Nat) (x : Int32) : mTl (nIs u i x) = mTl u := rfl
theorem mPo_nIs (u : RS) (i : Nat) (x : Int32) : mPo (nIs u i x) = mPo u := rfl
theorem mTs_nIs (u : RS) (i : Nat) (x : Int32) : mTs (nIs u i x) = mTs u := rfl
theorem mTo_nIs (u : RS) (i : Nat) (x : Int32) : mTo (nIs u i x) = mTo u := rfl
theorem mNu_nIs (u : RS) (i : Nat) (x : Int32) : mNu (nIs u i x) = mNu u := rfl
theorem mEc_nIs (u : RS) (i : Nat) (x : Int32) : mEc (nIs u i x) = mEc u := rfl
theorem mEp_nIs (u : RS) (i : Nat) (x : Int32) : mEp (nIs u i x) = mEp u := rfl
theorem mTd_nIs (u : RS) (i : Nat) (x : Int32) : mTd (nIs u i x) = mTd u := rfl
theorem mTk_nIs (u : RS) (i : Nat) (x : Int32) : mTk (nIs u i x) = mTk u := rfl
theorem mOl_nIs (u : RS) (i : Nat) (x : Int32) : mOl (nIs u i x) = mOl u := rfl
theorem mSt_nAo (u : RS) (i : Nat) (x : Int32) : mSt (nAo u i x) = mSt u := rfl
theorem mAs_nAo (u : RS) (i : Nat) (x : Int32) : mAs (nAo u i x) = mAs u := rfl
theorem mTr_nAo (u : RS) (i : Nat) (x : Int32) : mTr (nAo u i x) = mTr u := rfl
theorem mPa_nAo (u : RS) (i : Nat) (x : Int32) : mPa (nAo u i x) = mPa u := rfl
theorem mSa_nAo (u : RS) (i : Nat) (x : Int32) : mSa (nAo u i x) = mSa u := rfl
theorem mIs_nAo (u : RS) (i : Nat) (x : Int32) : mIs (nAo u i x) = mIs u := rfl
theorem mAo_nAo (u : RS) (i : Nat) (x : Int32) : mAo (nAo u i x) = upd (mAo u) i x := rfl
theorem mTx_nAo (u : RS) (i : Nat) (x : Int32) : mTx (nAo u i x) = mTx u := rfl
theorem mCo_nAo (u : RS) (i : Nat) (x : Int32) : mCo (nAo u i x) = mCo u := rfl
theorem mOu_nAo (u : RS) (i : Nat) (x : Int32) : mOu (nAo u i x) = mOu u := rfl
theorem mAc_nAo (u : RS) (i : Nat) (x : Int32) : mAc (nAo u i x) = mAc u := rfl
theorem mTh_nAo (u : RS) (i : Nat) (x : Int32) : mTh (nAo u i x) = mTh u := rfl
theorem mCc_nAo (u : RS) (i : Nat) (x : Int32) : mCc (nAo u i x) = mCc u := rfl
theorem mTl_nAo (u : RS) (i : Nat) (x : Int32) : mTl (nAo u i x) = mTl u := rfl
theorem mPo_nAo (u : RS) (i : Nat) (x : Int32) : mPo (nAo u i x) = mPo u := rfl
theorem mTs_nAo (u : RS) (i : Nat) (x : Int32) : mTs (nAo u i x) = mTs u := rfl
theorem mTo_nAo (u : RS) (i : Nat) (x : Int32) : mTo (nAo u i x) = mTo u := rfl
theorem mNu_nAo (u : RS) (i : Nat) (x : Int32) : mNu (nAo u i x) = mNu u := rfl
theorem mEc_nAo (u : RS) (i : Nat) (x : Int32) : mEc (nAo u i x) = mEc u := rfl
theorem mEp_nAo (u : RS) (i : Nat) (x : Int32) : mEp (nAo u i x) = mEp u := rfl
theorem mTd_nAo (u : RS) (i : Nat) (x : Int32) : mTd (nAo u i x) = mTd u := rfl
theorem mTk_nAo (u : RS) (i : Nat) (x : Int32) : mTk (nAo u i x) = mTk u := rfl
theorem mOl_nAo (u : RS) (i : Nat) (x : Int32) : mOl (nAo u i x) = mOl u := rfl
theorem mSt_nTx (u : RS) (i : Nat) (x : Int32) : mSt (nTx u i x) = mSt u := rfl
theorem mAs_nTx (u : RS) (i : Nat) (x : Int32) : mAs (nTx u i x) = mAs u := rfl
theorem mTr_nTx (u : RS) (i : Nat) (x : Int32) : mTr (nTx u i x) = mTr u := rfl
theorem mPa_nTx (u : RS) (i : Nat) (x : Int32) : mPa (nTx u i x) = mPa u := rfl
theorem mSa_nTx (u : RS) (i : Nat) (x : Int32) : mSa (nTx u i x) = mSa u := rfl
theorem mIs_nTx (u : RS) (i : Nat) (x : Int32) : mIs (nTx u i x) = mIs u := rfl
theorem mAo_nTx (u : RS) (i : Nat) (x : Int32) : mAo (nTx u i x) = mAo u := rfl
theorem mTx_nTx (u : RS) (i : Nat) (x : Int32) : mTx (nTx u i x) = upd (mTx u) i x := rfl
theorem mCo_nTx (u : RS) (i : Nat) (x : Int32) : mCo (nTx u i x) = mCo u := rfl
theorem mOu_nTx (u : RS) (i : Nat) (x : Int32) : mOu (nTx u i x) = mOu u := rfl
theorem mAc_nTx (u : RS) (i : Nat) (x : Int32) : mAc (nTx u i x) = mAc u := rfl
theorem mTh_nTx (u : RS) (i : Nat) (x : Int32) : mTh (nTx u i x) = mTh u := rfl
theorem mCc_nTx (u : RS) (i : Nat) (x : Int32) : mCc (nTx u i x) = mCc u := rfl
theorem mTl_nTx (u : RS) (i : Nat) (x : Int32) : mTl (nTx u i x) = mTl u := rfl
theorem mPo_nTx (u : RS) (i : Nat) (x : Int32) : mPo (nTx u i x) = mPo u := rfl
theorem mTs_nTx (u : RS) (i : Nat) (x : Int32) : mTs (nTx u i x) = mTs u := rfl
theorem mTo_nTx (u : RS) (i : Nat) (x : Int32) : mTo (nTx u i x) = mTo u := rfl
theorem mNu_nTx (u : RS) (i : Nat) (x : Int32) : mNu (nTx u i x) = mNu u := rfl
theorem mEc_nTx (u : RS) (i : Nat) (x : Int32) : mEc (nTx u i x) = mEc u := rfl
theorem mEp_nTx (u : RS) (i : Nat) (x : Int32) : mEp (nTx u i x) = mEp u := rfl
theorem mTd_nTx (u : RS) (i : Nat) (x : Int32) : mTd (nTx u i x) = mTd u := rfl
theorem mTk_nTx (u : RS) (i : Nat) (x : Int32) : mTk (nTx u i x) = mTk u := rfl
theorem mOl_nTx (u : RS) (i : Nat) (x : Int32) : mOl (nTx u i x) = mOl u := rfl
theorem mSt_nCo (u : RS) (i : Nat) (x : Int32) : mSt (nCo u i x) = mSt u := rfl
theorem mAs_nCo (u : RS) (i : Nat) (x : Int32) : mAs (nCo u i x) = mAs u := rfl
theorem mTr_nCo (u : RS) (i : Nat) (x : Int32) : mTr (nCo u i x) = mTr u := rfl
theorem mPa_nCo (u : RS) (i : Nat) (x : Int32) : mPa (nCo u i x) = mPa u := rfl
theorem mSa_nCo (u : RS) (i : Nat) (x : Int32) : mSa (nCo u i x) = mSa u := rfl
theorem mIs_nCo (u : RS) (i : Nat) (x : Int32) : mIs (nCo u i x) = mIs u := rfl
theorem mAo_nCo (u : RS) (i : Nat) (x : Int32) : mAo (nCo u i x) = mAo u := rfl
theorem mTx_nCo (u : RS) (i : Nat) (x : Int32) : mTx (nCo u i x) = mTx u := rfl
theorem mCo_nCo (u : RS) (i : Nat) (x : Int32) : mCo (nCo u i x) = upd (mCo u) i x := rfl
theorem mOu_nCo (u : RS) (i : Nat) (x : Int32) : mOu (nCo u i x) = mOu u := rfl
theorem mAc_nCo (u : RS) (i : Nat) (x : Int32) : mAc (nCo u i x) = mAc u := rfl
theorem mTh_nCo (u : RS) (i : Nat) (x : Int32) : mTh (nCo u i x) = mTh u := rfl
theorem mCc_nCo (u : RS) (i : Nat) (x : Int32) : mCc (nCo u i x) = mCc u := rfl
theorem mTl_nCo (u : RS) (i : Nat) (x : Int32) : mTl (nCo u i x) = mTl u := rfl
theorem mPo_nCo (u : RS) (i : Nat) (x : Int32) : mPo (nCo u i x) = mPo u := rfl
theorem mTs_nCo (u : RS) (i : Nat) (x : Int32) : mTs (nCo u i x) = mTs u := rfl
theorem mTo_nCo (u : RS) (i : Nat) (x : Int32) : mTo (nCo u i x) = mTo u := rfl
theorem mNu_nCo (u : RS) (i : Nat) (x : Int32) : mNu (nCo u i x) = mNu u := rfl
theorem mEc_nCo (u : RS) (i : Nat) (x : Int32) : mEc (nCo u i x) = mEc u := rfl
theorem mEp_nCo (u : RS) (i : Nat) (x : Int32) : mEp (nCo u i x) = mEp u := rfl
theorem mTd_nCo (u : RS) (i : Nat) (x : Int32) : mTd (nCo u i x) = mTd u := rfl
theorem mTk_nCo (u : RS) (i : Nat) (x : Int32) : mTk (nCo u i x) = mTk u := rfl
theorem mOl_nCo (u : RS) (i : Nat) (x : Int32) : mOl (nCo u i x) = mOl u := rfl
theorem mSt_nOu (u : RS) (i : Nat) (x : Int32) : mSt (nOu u i x) = mSt u := rfl
theorem mAs_nOu (u : RS) (i : Nat) (x : Int32) : mAs (nOu u i x) = mAs u := rfl
theorem mTr_nOu (u : RS) (i : Nat) (x : Int32) : mTr (nOu u i x) = mTr u := rfl
theorem mPa_nOu (u : RS) (i : Nat) (x : Int32) : mPa (nOu u i x) = mPa u := rfl
theorem mSa_nOu (u : RS) (i : Nat) (x : Int32) : mSa (nOu u i x) = mSa u := rfl
theorem mIs_nOu (u : RS) (i : Nat) (x : Int32) : mIs (nOu u i x) = mIs u := rfl
theorem mAo_nOu (u : RS) (i : Nat) (x : Int32) : mAo (nOu u i x) = mAo u := rfl
theorem mTx_nOu (u : RS) (i : Nat) (x : Int32) : mTx (nOu u i x) = mTx u := rfl
theorem mCo_nOu (u : RS) (i : Nat) (x : Int32) : mCo (nOu u i x) = mCo u := rfl
theorem mOu_nOu (u : RS) (i : Nat) (x : Int32) : mOu (nOu u i x) = upd (mOu u) i x := rfl
theorem mAc_nOu (u : RS) (i : Nat) (x : Int32) : mAc (nOu u i x) = mAc u := rfl
theorem mTh_nOu (u : RS) (i : Nat) (x : Int32) : mTh (nOu u i x) = mTh u := rfl
theorem mCc_nOu (u : RS) (i : Nat) (x : Int32) : mCc (nOu u i x) = mCc u := rfl
theorem mTl_nOu (u : RS) (i : Nat) (x : Int32) : mTl (nOu u i x) = mTl u := rfl
theorem mPo_nOu (u : RS) (i : Nat) (x : Int32) : mPo (nOu u i x) = mPo u := rfl
theorem mTs_nOu (u : RS) (i : Nat) (x : Int32) : mTs (nOu u i x) = mTs u := rfl
theorem mTo_nOu (u : RS) (i : Nat) (x : Int32) : mTo (nOu u i x) = mTo u := rfl
theorem mNu_nOu (u : RS) (i : Nat) (x : Int32) : mNu (nOu u i x) = mNu u := rfl
theorem mEc_nOu (u : RS) (i : Nat) (x : Int32) : mEc (nOu u i x) = mEc u := rfl
theorem mEp_nOu (u : RS) (i : Nat) (x : Int32) : mEp (nOu u i x) = mEp u := rfl
theorem mTd_nOu (u : RS) (i : Nat) (x : Int32) : mTd (nOu u i x) = mTd u := rfl
theorem mTk_nOu (u : RS) (i : Nat) (x : Int32) : mTk (nOu u i x) = mTk u := rfl
theorem mOl_nOu (u : RS) (i : Nat) (x : Int32) : mOl (nOu u i x) = mOl u := rfl
theorem mSt_nAc (u : RS) (x : Int32) : mSt (nAc u x) = mSt u := rfl
theorem mAs_nAc (u : RS) (x : Int32) : mAs (nAc u x) = mAs u := rfl
theorem mTr_nAc (u : RS) (x : Int32) : mTr (nAc u x) = mTr u := rfl
theorem mPa_nAc (u : RS) (x : Int32) : mPa (nAc u x) = mPa u := rfl
theorem mSa_nAc (u : RS) (x : Int32) : mSa (nAc u x) = mSa u := rfl
theorem mIs_nAc (u : RS) (x : Int32) : mIs (nAc u x) = mIs u := rfl
theorem mAo_nAc (u : RS) (x : Int32) : mAo (nAc u x) = mAo u := rfl
theorem mTx_nAc (u : RS) (x : Int32) : mTx (nAc u x) = mTx u := rfl
theorem mCo_nAc (u : RS) (x : Int32) : mCo (nAc u x) = mCo u := rfl
theorem mOu_nAc (u : RS) (x : Int32) : mOu (nAc u x) = mOu u := rfl
theorem mAc_nAc (u : RS) (x : Int32) : mAc (nAc u x) = x := rfl
theorem mTh_nAc (u : RS) (x : Int32) : mTh (nAc u x) = mTh u := rfl
theorem mCc_nAc (u : RS) (x : Int32) : mCc (nAc u x) = mCc u := rfl
theorem mTl_nAc (u : RS) (x : Int32) : mTl (nAc u x) = mTl u := rfl
theorem mPo_nAc (u : RS) (x : Int32) : mPo (nAc u x) = mPo u := rfl
theorem mTs_nAc (u : RS) (x : Int32) : mTs (nAc u x) = mTs u := rfl
theorem mTo_nAc (u : RS) (x : Int32) : mTo (nAc u x) = mTo u := rfl
theorem mNu_nAc (u : RS) (x : Int32) : mNu (nAc u x) = mNu u := rfl
theorem mEc_nAc (u : RS) (x : Int32) : mEc (nAc u x) = mEc u := rfl
theorem mEp_nAc (u : RS) (x : Int32) : mEp (nAc u x) = mEp u := rfl
theorem mTd_nAc (u : RS) (x : Int32) : mTd (nAc u x) = mTd u := rfl
theorem mTk_nAc (u : RS) (x : Int32) : mTk (nAc u x) = mTk u := rfl
theorem mOl_nAc (u : RS) (x : Int32) : mOl (nAc u x) = mOl u := rfl
theorem mSt_nTh (u : RS) (x : Int32) : mSt (nTh u x) = mSt u := rfl
theorem mAs_nTh (u : RS) (x : Int32) : mAs (nTh u x) = mAs u := rfl
theorem mTr_nTh (u : RS) (x : Int32) : mTr (nTh u x) = mTr u := rfl
theorem mPa_nTh (u : RS) (x : Int32) : mPa (nTh u x) = mPa u := rfl
theorem mSa_nTh (u : RS) (x : Int32) : mSa (nTh u x) = mSa u := rfl
theorem mIs_nTh (u : RS) (x : Int32) : mIs (nTh u x) = mIs u := rfl
theorem mAo_nTh (u : RS) (x : Int32) : mAo (nTh u x) = mAo u := rfl
theorem mTx_nTh (u : RS) (x : Int32) : mTx (nTh u x) = mTx u := rfl
theorem mCo_nTh (u : RS) (x : Int32) : mCo (nTh u x) = mCo u := rfl
theorem mOu_nTh (u : RS) (x : Int32) : mOu (nTh u x) = mOu u := rfl
theorem mAc_nTh (u : RS) (x : Int32) : mAc (nTh u x) = mAc u := rfl
theorem mTh_nTh (u : RS) (x : Int32) : mTh (nTh u x) = x := rfl
theorem mCc_nTh (u : RS) (x : Int32) : mCc (nTh u x) = mCc u := rfl
theorem mTl_nTh (u : RS) (x : Int32) : mTl (nTh u x) = mTl u := rfl
theorem mPo_nTh (u : RS) (x : Int32) : mPo (nTh u x) = mPo u := rfl
theorem mTs_nTh (u : RS) (x : Int32) : mTs (nTh u x) = mTs u := rfl
theorem mTo_nTh (u : RS) (x : Int32) : mTo (nTh u x) = mTo u := rfl
theorem mNu_nTh (u : RS) (x : Int32) : mNu (nTh u x) = mNu u := rfl
theorem mEc_nTh (u : RS) (x : Int32) : mEc (nTh u x) = mEc u := rfl
theorem mEp_nTh (u : RS) (x : Int32) : mEp (nTh u x) = mEp u := rfl
theorem mTd_nTh (u : RS) (x : Int32) : mTd (nTh u x) = mTd u := rfl
theorem mTk_nTh (u : RS) (x : Int32) : mTk (nTh u x) = mTk u := rfl
theorem mOl_nTh (u : RS) (x : Int32) : mOl (nTh u x) = mOl u := rfl
theorem mSt_nCc (u : RS) (x : Int32) : mSt (nCc u x) = mSt u := rfl
theorem mAs_nCc (u : RS) (x : Int32) : mAs (nCc u x) = mAs u := rfl
theorem mTr_nCc (u : RS) (x : Int32) : mTr (nCc u x) = mTr u := rfl
theorem mPa_nCc (u : RS) (x : Int32) : mPa (nCc u x) = mPa u := rfl
theorem mSa_nCc (u : RS) (x : Int32) : mSa (nCc u x) = mSa u := rfl
theorem mIs_nCc (u : RS) (x : Int32) : mIs (nCc u x) = mIs u := rfl
theorem mAo_nCc (u : RS) (x : Int32) : mAo (nCc u x) = mAo u := rfl
theorem mTx_nCc (u : RS) (x : Int32) : mTx (nCc u x) = mTx u := rfl
theorem mCo_nCc (u : RS) (x : Int32) : mCo (nCc u x) = mCo u := rfl
theorem mOu_nCc (u : RS) (x : Int32) : mOu (nCc u x) = mOu u := rfl
theorem mAc_nCc (u : RS) (x : Int32) : mAc (nCc u x) = mAc u := rfl
theorem mTh_nCc (u : RS) (x : Int32) : mTh (nCc u x) = mTh u := rfl
theorem mCc_nCc (u : RS) (x : Int32) : mCc (nCc u x) = x := rfl
theorem mTl_nCc (u : RS) (x : Int32) : mTl (nCc u x) = mTl u := rfl
theorem mPo_nCc (u : RS) (x : Int32) : mPo (nCc u x) = mPo u := rfl
theorem mTs_nCc (u : RS) (x : Int32) : mTs (nCc u x) = mTs u := rfl
theorem mTo_nCc (u : RS) (x : Int32) : mTo (nCc u x) = mTo u := rfl
theorem mNu_nCc (u : RS) (x : Int32) : mNu (nCc u x) = mNu u := rfl
theorem mEc_nCc (u : RS) (x : Int32) : mEc (nCc u x) = mEc u := rfl
theorem mEp_nCc (u : RS) (x : Int32) : mEp (nCc u x) = mEp u := rfl
theorem mTd_nCc (u : RS) (x : Int32) : mTd (nCc u x) = mTd u := rfl
theorem mTk_nCc (u : RS) (x : Int32) : mTk (nCc u x) = mTk u := rfl
theorem mOl_nCc (u : RS) (x : Int32) : mOl (nCc u x) = mOl u := rfl
theorem mSt_nTl (u : RS) (x : Int32) : mSt (nTl u x) = mSt u := rfl
theorem mAs_nTl (u : RS) (x : Int32) : mAs (nTl u x) = mAs u := rfl
theorem mTr_nTl (u : RS) (x : Int32) : mTr (nTl u x) = mTr u := rfl
theorem mPa_nTl (u : RS) (x : Int32) : mPa (nTl u x) = mPa u := rfl
theorem mSa_nTl (u : RS) (x : Int32) : mSa (nTl u x) = mSa u := rfl
theorem mIs_nTl (u : RS) (x : Int32) : mIs (nTl u x) = mIs u := rfl
theorem mAo_nTl (u : RS) (x : Int32) : mAo (nTl u x) = mAo u := rfl
theorem mTx_nTl (u : RS) (x : Int32) : mTx (nTl u x) = mTx u := rfl
theorem mCo_nTl (u : RS) (x : Int32) : mCo (nTl u x) = mCo u := rfl
theorem mOu_nTl (u : RS) (x : Int32) : mOu (nTl u x) = mOu u := rfl
theorem mAc_nTl (u : RS) (x : Int32) : mAc (nTl u x) = mAc u := rfl
theorem mTh_nTl (u : RS) (x : Int32) : mTh (nTl u x) = mTh u := rfl
theorem mCc_nTl (u : RS) (x : Int32) : mCc (nTl u x) = mCc u := rfl
theorem mTl_nTl (u : RS) (x : Int32) : mTl (nTl u x) = x := rfl
theorem mPo_nTl (u : RS) (x : Int32) : mPo (nTl u x) = mPo u := rfl
theorem mTs_nTl (u : RS) (x : Int32) : mTs (nTl u x) = mTs u := rfl
theorem mTo_nTl (u : RS) (x : Int32) : mTo (nTl u x) = mTo u := rfl
theorem mNu_nTl (u : RS) (x : Int32) : mNu (nTl u x) = mNu u := rfl
theorem mEc_nTl (u : RS) (x : Int32) : mEc (nTl u x) = mEc u := rfl
theorem mEp_nTl (u : RS) (x : Int32) : mEp (nTl u x) = mEp u := rfl
theorem mTd_nTl (u : RS) (x : Int32) : mTd (nTl u x) = mTd u := rfl
theorem mTk_nTl (u : RS) (x : Int32) : mTk (nTl u x) = mTk u := rfl
theorem mOl_nTl (u : RS) (x : Int32) : mOl (nTl u x) = mOl u := rfl
theorem mSt_nPo (u : RS) (x : Int32) : mSt (nPo u x) = mSt u := rfl
theorem mAs_nPo (u : RS) (x : Int32) : mAs (nPo u x) = mAs u := rfl
theorem mTr_nPo (u : RS) (x : Int32) : mTr (nPo u x) = mTr u := rfl
theorem mPa_nPo (u : RS) (x : Int32) : mPa (nPo u x) = mPa u := rfl
theorem mSa_nPo (u : RS) (x : Int32) : mSa (nPo u x) = mSa u := rfl
theorem mIs_nPo (u : RS) (x : Int32) : mIs (nPo u x) = mIs u := rfl
theorem mAo_nPo (u : RS) (x : Int32) : mAo (nPo u x) = mAo u := rfl
theorem mTx_nPo (u : RS) (x : Int32) : mTx (nPo u x) = mTx u := rfl
theorem mCo_nPo (u : RS) (x : Int32) : mCo (nPo u x) = mCo u := rfl
theorem mOu_nPo (u : RS) (x : Int32) : mOu (nPo u x) = mOu u := rfl
theorem mAc_nPo (u : RS) (x : Int32) : mAc (nPo u x) = mAc u := rfl
theorem mTh_nPo (u : RS) (x : Int32) : mTh (nPo u x) = mTh u := rfl
theorem mCc_nPo (u : RS) (x : Int32) : mCc (nPo u x) = mCc u := rfl
theorem mTl_nPo (u : RS) (x : Int32) : mTl (nPo u x) = mTl u := rfl
theorem mPo_nPo (u : RS) (x : Int32) : mPo (nPo u x) = x := rfl
theorem mTs_nPo (u : RS) (x : Int32) : mTs (nPo u x) = mTs u := rfl
theorem mTo_nPo (u : RS) (x : Int32) : mTo (nPo u x) = mTo u := rfl
theorem mNu_nPo (u : RS) (x : Int32) : mNu (nPo u x) = mNu u := rfl
theorem mEc_nPo (u : RS) (x : Int32) : mEc (nPo u x) = mEc u := rfl
theorem mEp_nPo (u : RS) (x : Int32) : mEp (nPo u x) = mEp u := rfl
theorem mTd_nPo (u : RS) (x : Int32) : mTd (nPo u x) = mTd u := rfl
theorem mTk_nPo (u : RS) (x : Int32) : mTk (nPo u x) = mTk u := rfl
theorem mOl_nPo (u : RS) (x : Int32) : mOl (nPo u x) = mOl u := rfl
theorem mSt_nTs (u : RS) (x : Int32) : mSt (nTs u x) = mSt u := rfl
theorem mAs_nTs (u : RS) (x : Int32) : mAs (nTs u x) = mAs u := rfl
theorem mTr_nTs (u : RS) (x : Int32) : mTr (nTs u x) = mTr u := rfl
theorem mPa_nTs (u : RS) (x : Int32) : mPa (nTs u x) = mPa u := rfl
theorem mSa_nTs (u : RS) (x : Int32) : mSa (nTs u x) = mSa u := rfl
theorem mIs_nTs (u : RS) (x : Int32) : mIs (nTs u x) = mIs u := rfl
theorem mAo_nTs (u : RS) (x : Int32) : mAo (nTs u x) = mAo u := rfl
theorem mTx_nTs (u : RS) (x : Int32) : mTx (nTs u x) = mTx u := rfl
theorem mCo_nTs (u : RS) (x : Int32) : mCo (nTs u x) = mCo u := rfl
theorem mOu_nTs (u : RS) (x : Int32) : mOu (nTs u x) = mOu u := rfl
theorem mAc_nTs (u : RS) (x : Int32) : mAc (nTs u x) = mAc u := rfl
theorem mTh_nTs (u : RS) (x : Int32) : mTh (nTs u x) = mTh u := rfl
theorem mCc_nTs (u : RS) (x : Int32) : mCc (nTs u x) = mCc u := rfl
theorem mTl_nTs (u : RS) (x : Int32) : mTl (nTs u x) = mTl u := rfl
theorem mPo_nTs (u : RS) (x : Int32) : mPo (nTs u x) = mPo u := rfl
theorem mTs_nTs (u : RS) (x : Int32) : mTs (nTs u x) = x := rfl
theorem mTo_nTs (u : RS) (x : Int32) : mTo (nTs u x) = mTo u := rfl
theorem mNu_nTs (u : RS) (x : Int32) : mNu (nTs u x) = mNu u := rfl
theorem mEc_nTs (u : RS) (x : Int32) : mEc (nTs u x) = mEc u := rfl
theorem mEp_nTs (u : RS) (x : Int32) : mEp (nTs u x) = mEp u := rfl
theorem mTd_nTs (u : RS) (x : Int32) : mTd (nTs u x) = mTd u := rfl
theorem mTk_nTs (u : RS) (x : Int32) : mTk (nTs u x) = mTk u := rfl
theorem mOl_nTs (u : RS) (x : Int32) : mOl (nTs u x) = mOl u := rfl
theorem mSt_nTo (u : RS) (x : Int32) : mSt (nTo u x) = mSt u := rfl
theorem mAs_nTo (u : RS) (x : Int32) : mAs (nTo u x) = mAs u := rfl
theorem mTr_nTo (u : RS) (x : Int32) : mTr (nTo u x) = mTr u := rfl
theorem mPa_nTo (u : RS) (x : Int32) : mPa (nTo u x) = mPa u := rfl
theorem mSa_nTo (u : RS) (x : Int32) : mSa (nTo u x) = mSa u := rfl
theorem mIs_nTo (u : RS) (x : Int32) : mIs (nTo u x) = mIs u := rfl
theorem mAo_nTo (u : RS) (x : Int32) : mAo (nTo u x) = mAo u := rfl
theorem mTx_nTo (u : RS) (x : Int32) : mTx (nTo u x) = mTx u := rfl
theorem mCo_nTo (u : RS) (x : Int32) : mCo (nTo u x) = mCo u := rfl
theorem mOu_nTo (u : RS) (x : Int32) : mOu (nTo u x) = mOu u := rfl
theorem mAc_nTo (u : RS) (x : Int32) : mAc (nTo u x) = mAc u := rfl
theorem mTh_nTo (u : RS) (x : Int32) : mTh (nTo u x) = mTh u := rfl
theorem mCc_nTo (u : RS) (x : Int32) : mCc (nTo u x) = mCc u := rfl
theorem mTl_nTo (u : RS) (x : Int32) : mTl (nTo u x) = mTl u := rfl
theorem mPo_nTo (u : RS) (x : Int32) : mPo (nTo u x) = mPo u := rfl
theorem mTs_nTo (u : RS) (x : Int32) : mTs (nTo u x) = mTs u := rfl
theorem mTo_nTo (u : RS) (x : Int32) : mTo (nTo u x) = x := rfl
theorem mNu_nTo (u : RS) (x : Int32) : mNu (nTo u x) = mNu u := rfl
theorem mEc_nTo (u : RS) (x : Int32) : mEc (nTo u x) = mEc u := rfl
theorem mEp_nTo (u : RS) (x : Int32) : mEp (nTo u x) = mEp u := rfl
theorem mTd_nTo (u : RS) (x : Int32) : mTd (nTo u x) = mTd u := rfl
theorem mTk_nTo (u : RS) (x : Int32) : mTk (nTo u x) = mTk u := rfl
theorem mOl_nTo (u : RS) (x : Int32) : mOl (nTo u x) = mOl u := rfl
theorem mSt_nNu (u : RS) (x : Int32) : mSt (nNu u x) = mSt u := rfl
theorem mAs_nNu (u : RS) (x : Int32) : mAs (nNu u x) = mAs u := rfl
theorem mTr_nNu (u : RS) (x : Int32) : mTr (nNu u x) = mTr u := rfl
theorem mPa_nNu (u : RS) (x : Int32) : mPa (nNu u x) = mPa u := rfl
theorem mSa_nNu (u : RS) (x : Int32) : mSa (nNu u x) = mSa u := rfl
theorem mIs_nNu (u : RS) (x : Int32) : mIs (nNu u x) = mIs u := rfl
theorem mAo_nNu (u : RS) (x : Int32) : mAo (nNu u x) = mAo u := rfl
theorem mTx_nNu (u : RS) (x : Int32) : mTx (nNu u x) = mTx u := rfl
theorem mCo_nNu (u : RS) (x : Int32) : mCo (nNu u x) = mCo u := rfl
theorem mOu_nNu (u : RS) (x : Int32) : mOu (nNu u x) = mOu u := rfl
theorem mAc_nNu (u : RS) (x : Int32) : mAc (nNu u x) = mAc u := rfl
theorem mTh_nNu (u : RS) (x : Int32) : mTh (nNu u x) = mTh u := rfl
theorem mCc_nNu (u : RS) (x : Int32) : mCc (nNu u x) = mCc u := rfl
theorem mTl_nNu (u : RS) (x : Int32) : mTl (nNu u x) = mTl u := rfl
theorem mPo_nNu (u : RS) (x : Int32) : mPo (nNu u x) = mPo u := rfl
theorem mTs_nNu (u : RS) (x : Int32) : mTs (nNu u x) = mTs u := rfl
theorem mTo_nNu (u : RS) (x : Int32) : mTo (nNu u x) = mTo u := rfl
theorem mNu_nNu (u : RS) (x : Int32) : mNu (nNu u x) = x := rfl
theorem mEc_nNu (u : RS) (x : Int32) : mEc (nNu u x) = mEc u := rfl
theorem mEp_nNu (u : RS) (x : Int32) : mEp (nNu u x) = mEp u := rfl
theorem mTd_nNu (u : RS) (x : Int32) : mTd (nNu u x) = mTd u := rfl
theorem mTk_nNu (u : RS) (x : Int32) : mTk (nNu u x) = mTk u := rfl
theorem mOl_nNu (u : RS) (x : Int32) : mOl (nNu u x) = mOl u := rfl
theorem mSt_nEc (u : RS) (x : Int32) : mSt (nEc u x) = mSt u := rfl
theorem mAs_nEc (u : RS) (x : Int32) : mAs (nEc u x) = mAs u := rfl
theorem mTr_nEc (u : RS) (x : Int32) : mTr (nEc u x) = mTr u := rfl
theorem mPa_nEc (u : RS) (x : Int32) : mPa (nEc u x) = mPa u := rfl
theorem mSa_nEc (u : RS) (x : Int32) : mSa (nEc u x) = mSa u := rfl
theorem mIs_nEc (u : RS) (x : Int32) : mIs (nEc u x) = mIs u := rfl
theorem mAo_nEc (u : RS) (x : Int32) : mAo (nEc u x) = mAo u := rfl
theorem mTx_nEc (u : RS) (x : Int32) : mTx (nEc u x) = mTx u := rfl
theorem mCo_nEc (u : RS) (x : Int32) : mCo (nEc u x) = mCo u := rfl
theorem mOu_nEc (u : RS) (x : Int32) : mOu (nEc u x) = mOu u := rfl
theorem mAc_nEc (u : RS) (x : Int32) : mAc (nEc u x) = mAc u := rfl
theorem mTh_nEc (u : RS) (x : Int32) : mTh (nEc u x) = mTh u := rfl
theorem mCc_nEc (u : RS) (x : Int32) : mCc (nEc u x) = mCc u := rfl
theorem mTl_nEc (u : RS) (x : Int32) : mTl (nEc u x) = mTl u := rfl
theorem mPo_nEc (u : RS) (x : Int32) : mPo (nEc u x) = mPo u := rfl
theorem mTs_nEc (u : RS) (x : Int32) : mTs (nEc u x) = mTs u := rfl
theorem mTo_nEc (u : RS) (x : Int32) : mTo (nEc u x) = mTo u := rfl
theorem mNu_nEc (u : RS) (x : Int32) : mNu (nEc u x) = mNu u := rfl
theorem mEc_nEc (u : RS) (x : Int32) : mEc (nEc u x) = x := rfl
theorem mEp_nEc (u : RS) (x : Int32) : mEp (nEc u x) = mEp u := rfl
theorem mTd_nEc (u : RS) (x : Int32) : mTd (nEc u x) = mTd u := rfl
theorem mTk_nEc (u : RS) (x : Int32) : mTk (nEc u x) = mTk u := rfl
theorem mOl_nEc (u : RS) (x : Int32) : mOl (nEc u x) = mOl u := rfl
theorem mSt_nEp (u : RS) (x : Int32) : mSt (nEp u x) = mSt u := rfl
theorem mAs_nEp (u : RS) (x : Int32) : mAs (nEp u x) = mAs u := rfl
theorem mTr_nEp (u : RS) (x : Int32) : mTr (nEp u x) = mTr u := rfl
theorem mPa_nEp (u : RS) (x : Int32) : mPa (nEp u x) = mPa u := rfl
theorem mSa_nEp (u : RS) (x : Int32) : mSa (nEp u x) = mSa u := rfl
theorem mIs_nEp (u : RS) (x : Int32) : mIs (nEp u x) = mIs u := rfl
theorem mAo_nEp (u : RS) (x : Int32) : mAo (nEp u x) = mAo u := rfl
theorem mTx_nEp (u : RS) (x : Int32) : mTx (nEp u x) = mTx u := rfl
theorem mCo_nEp (u : RS) (x : Int32) : mCo (nEp u x) = mCo u := rfl
theorem mOu_nEp (u : RS) (x : Int32) : mOu (nEp u x) = mOu u := rfl
theorem mAc_nEp (u : RS) (x : Int32) : mAc (nEp u x) = mAc u := rfl
theorem mTh_nEp (u : RS) (x : Int32) : mTh (nEp u x) = mTh u := rfl
theorem mCc_nEp (u : RS) (x : Int32) : mCc (nEp u x) = mCc u := rfl
theorem mTl_nEp (u : RS) (x : Int32) : mTl (nEp u x) = mTl u := rfl
theorem mPo_nEp (u : RS) (x : Int32) : mPo (nEp u x) = mPo u := rfl
theorem mTs_nEp (u : RS) (x : Int32) : mTs (nEp u x) = mTs u := rfl
theorem mTo_nEp (u : RS) (x : Int32) : mTo (nEp u x) = mTo u := rfl
theorem mNu_nEp (u : RS) (x : Int32) : mNu (nEp u x) = mNu u := rfl
theorem mEc_nEp (u : RS) (x : Int32) : mEc (nEp u x) = mEc u := rfl
theorem mEp_nEp (u : RS) (x : Int32) : mEp (nEp u x) = x := rfl
theorem mTd_nEp (u : RS) (x : Int32) : mTd (nEp u x) = mTd u := rfl
theorem mTk_nEp (u : RS) (x : Int32) : mTk (nEp u x) = mTk u := rfl
theorem mOl_nEp (u : RS) (x : Int32) : mOl (nEp u x) = mOl u := rfl
theorem mSt_nTd (u : RS) (x : Int32) : mSt (nTd u x) = mSt u := rfl
theorem mAs_nTd (u : RS) (x : Int32) : mAs (nTd u x) = mAs u := rfl
theorem mTr_nTd (u : RS) (x : Int32) : mTr (nTd u x) = mTr u := rfl
theorem mPa_nTd (u : RS) (x : Int32) : mPa (nTd u x) = mPa u := rfl
theorem mSa_nTd (u : RS) (x : Int32) : mSa (nTd u x) = mSa u := rfl
theorem mIs_nTd (u : RS) (x : Int32) : mIs (nTd u x) = mIs u := rfl
theorem mAo_nTd (u : RS) (x : Int32) : mAo (nTd u x) = mAo u := rfl
theorem mTx_nTd (u : RS) (x : Int32) : mTx (nTd u x) = mTx u := rfl
theorem mCo_nTd (u : RS) (x : Int32) : mCo (nTd u x) = mCo u := rfl
theorem mOu_nTd (u : RS) (x : Int32) : mOu (nTd u x) = mOu u := rfl
theorem mAc_nTd (u : RS) (x : Int32) : mAc (nTd u x) = mAc u := rfl
theorem mTh_nTd (u : RS) (x : Int32) : mTh (nTd u x) = mTh u := rfl
theorem mCc_nTd (u : RS) (x : Int32) : mCc (nTd u x) = mCc u := rfl
theorem mTl_nTd (u : RS) (x : Int32) : mTl (nTd u x) = mTl u := rfl
theorem mPo_nTd (u : RS) (x : Int32) : mPo (nTd u x) = mPo u := rfl
theorem mTs_nTd (u : RS) (x : Int32) : mTs (nTd u x) = mTs u := rfl
theorem mTo_nTd (u : RS) (x : Int32) : mTo (nTd u x) = mTo u := rfl
theorem mNu_nTd (u : RS) (x : Int32) : mNu (nTd u x) = mNu u := rfl
theorem mEc_nTd (u : RS) (x : Int32) : mEc (nTd u x) = mEc u := rfl
theorem mEp_nTd (u : RS) (x : Int32) : mEp (nTd u x) = mEp u := rfl
theorem mTd_nTd (u : RS) (x : Int32) : mTd (nTd u x) = x := rfl
theorem mTk_nTd (u : RS) (x : Int32) : mTk (nTd u x) = mTk u := rfl
theorem mOl_nTd (u : RS) (x : Int32) : mOl (nTd u x) = mOl u := rfl
theorem mSt_nTk (u : RS) (x : Int32) : mSt (nTk u x) = mSt u := rfl
theorem mAs_nTk (u : RS) (x : Int32) : mAs (nTk u x) = mAs u := rfl
theorem mTr_nTk (u : RS) (x : Int32) : mTr (nTk u x) = mTr u := rfl
theorem mPa_nTk (u : RS) (x : Int32) : mPa (nTk u x) = mPa u := rfl
theorem mSa_nTk (u : RS) (x : Int32) : mSa (nTk u x) = mSa u := rfl
theorem mIs_nTk (u : RS) (x : Int32) : mIs (nTk u x) = mIs u := rfl
theorem mAo_nTk (u : RS) (x : Int32) : mAo (nTk u x) = mAo u := rfl
theorem mTx_nTk (u : RS) (x : Int32) : mTx (nTk u x) = mTx u := rfl
theorem mCo_nTk (u : RS) (x : Int32) : mCo (nTk u x) = mCo u := rfl
theorem mOu_nTk (u : RS) (x : Int32) : mOu (nTk u x) = mOu u := rfl
theorem mAc_nTk (u : RS) (x : Int32) : mAc (nTk u x) = mAc u := rfl
theorem mTh_nTk (u : RS) (x : Int32) : mTh (nTk u x) = mTh u := rfl
theorem mCc_nTk (u : RS) (x : Int32) : mCc (nTk u x) = mCc u := rfl
theorem mTl_nTk (u : RS) (x : Int32) : mTl (nTk u x) = mTl u := rfl
theorem mPo_nTk (u : RS) (x : Int32) : mPo (nTk u x) = mPo u := rfl
theorem mTs_nTk (u : RS) (x : Int32) : mTs (nTk u x) = mTs u := rfl
theorem mTo_nTk (u : RS) (x : Int32) : mTo (nTk u x) = mTo u := rfl
theorem mNu_nTk (u : RS) (x : Int32) : mNu (nTk u x) = mNu u := rfl
theorem mEc_nTk (u : RS) (x : Int32) : mEc (nTk u x) = mEc u := rfl
theorem mEp_nTk (u : RS) (x : Int32) : mEp (nTk u x) = mEp u := rfl
theorem mTd_nTk (u : RS) (x : Int32) : mTd (nTk u x) = mTd u := rfl
theorem mTk_nTk (u : RS) (x : Int32) : mTk (nTk u x) = x := rfl
theorem mOl_nTk (u : RS) (x : Int32) : mOl (nTk u x) = mOl u := rfl
theorem mSt_nOl (u : RS) (x : Int32) : mSt (nOl u x) = mSt u := rfl
theorem mAs_nOl (u : RS) (x : Int32) : mAs (nOl u x) = mAs u := rfl
theorem mTr_nOl (u : RS) (x : Int32) : mTr (nOl u x) = mTr u := rfl
theorem mPa_nOl (u : RS) (x : Int32) : mPa (nOl u x) = mPa u := rfl
theorem mSa_nOl (u : RS) (x : Int32) : mSa (nOl u x) = mSa u := rfl
theorem mIs_nOl (u : RS) (x : Int32) : mIs (nOl u x) = mIs u := rfl
theorem mAo_nOl (u : RS) (x : Int32) : mAo (nOl u x) = mAo u := rfl
theorem mTx_nOl (u : RS) (x : Int32) : mTx (nOl u x) = mTx u := rfl
theorem mCo_nOl (u : RS) (x : Int32) : mCo (nOl u x) = mCo u := rfl
theorem mOu_nOl (u : RS) (x : Int32) : mOu (nOl u x) = mOu u := rfl
theorem mAc_nOl (u : RS) (x : Int32) : mAc (nOl u x) = mAc u := rfl
theorem mTh_nOl (u : RS) (x : Int32) : mTh (nOl u x) = mTh u := rfl
theorem mCc_nOl (u : RS) (x : Int32) : mCc (nOl u x) = mCc u := rfl
theorem mTl_nOl (u : RS) (x : Int32) : mTl (nOl u x) = mTl u := rfl
theorem mPo_nOl (u : RS) (x : Int32) : mPo (nOl u x) = mPo u := rfl
theorem mTs_nOl (u : RS) (x : Int32) : mTs (nOl u x) = mTs u := rfl
theorem mTo_nOl (u : RS) (x : Int32) : mTo (nOl u x) = mTo u := rfl
theorem mNu_nOl (u : RS) (x : Int32) : mNu (nOl u x) = mNu u := rfl
theorem mEc_nOl (u : RS) (x : Int32) : mEc (nOl u x) = mEc u := rfl
theorem mEp_nOl (u : RS) (x : Int32) : mEp (nOl u x) = mEp u := rfl
theorem mTd_nOl (u : RS) (x : Int32) : mTd (nOl u x) = mTd u := rfl
theorem mTk_nOl (u : RS) (x : Int32) : mTk (nOl u x) = mTk u := rfl
theorem mOl_nOl (u : RS) (x : Int32) : mOl (nOl u x) = x := rfl
theorem RS_ext {u v : RS} (h0 : mSt u = mSt v) (h1 : mAs u = mAs v) (h2 : mTr u = mTr v) (h3 : mPa u = mPa v) (h4 : mSa u = mSa v) (h5 : mIs u = mIs v) (h6 : mAo u = mAo v) (h7 : mTx u = mTx v) (h8 : mCo u = mCo v) (h9 : mOu u = mOu v) (h10 : mAc u = mAc v) (h11 : mTh u = mTh v) (h12 : mCc u = mCc v) (h13 : mTl u = mTl v) (h14 : mPo u = mPo v) (h15 : mTs u = mTs v) (h16 : mTo u = mTo v) (h17 : mNu u = mNu v) (h18 : mEc u = mEc v) (h19 : mEp u = mEp v) (h20 : mTd u = mTd v) (h21 : mTk u = mTk v) (h22 : mOl u = mOl v) : u = v := by
  obtain ⟨a0, a1, a2, a3, a4, a5, a6, a7, a8, a9, a10, a11, a12, a13, a14, a15, a16, a17, a18, a19, a20, a21, a22⟩ := u
  obtain ⟨b0, b1, b2, b3, b4, b5, b6, b7, b8, b9, b10, b11, b12, b13, b14, b15, b16, b17, b18, b19, b20, b21, b22⟩ := v
  cases h0
  cases h1
  cases h2
  cases h3
  cases h4
  cases h5
  cases h6
  cases h7
  cases h8
  cases h9
  cases h10
  cases h11
  cases h12
  cases h13
  cases h14
  cases h15
  cases h16
  cases h17
  cases h18
  cases h19
  cases h20
  cases h21
  cases h22
  rfl
def nStA (u : RS) (f : Nat → Int32) : RS := (f, u.2)
theorem mSt_nStA (u : RS) (f : Nat → Int32) : mSt (nStA u f) = f := rfl
theorem mAs_nStA (u : RS) (f : Nat → Int32) : mAs (nStA u f) = mAs u := rfl
theorem mTr_nStA (u : RS) (f : Nat → Int32) : mTr (nStA u f) = mTr u := rfl
theorem mPa_nStA (u : RS) (f : Nat → Int32) : mPa (nStA u f) = mPa u := rfl
theorem mSa_nStA (u : RS) (f : Nat → Int32) : mSa (nStA u f) = mSa u := rfl
theorem mIs_nStA (u : RS) (f : Nat → Int32) : mIs (nStA u f) = mIs u := rfl
theorem mAo_nStA (u : RS) (f : Nat → Int32) : mAo (nStA u f) = mAo u := rfl
theorem mTx_nStA (u : RS) (f : Nat → Int32) : mTx (nStA u f) = mTx u := rfl
theorem mCo_nStA (u : RS) (f : Nat → Int32) : mCo (nStA u f) = mCo u := rfl
theorem mOu_nStA (u : RS) (f : Nat → Int32) : mOu (nStA u f) = mOu u := rfl
theorem mAc_nStA (u : RS) (f : Nat → Int32) : mAc (nStA u f) = mAc u := rfl
theorem mTh_nStA (u : RS) (f : Nat → Int32) : mTh (nStA u f) = mTh u := rfl
theorem mCc_nStA (u : RS) (f : Nat → Int32) : mCc (nStA u f) = mCc u := rfl
theorem mTl_nStA (u : RS) (f : Nat → Int32) : mTl (nStA u f) = mTl u := rfl
theorem mPo_nStA (u : RS) (f : Nat → Int32) : mPo (nStA u f) = mPo u := rfl
theorem mTs_nStA (u : RS) (f : Nat → Int32) : mTs (nStA u f) = mTs u := rfl
theorem mTo_nStA (u : RS) (f : Nat → Int32) : mTo (nStA u f) = mTo u := rfl
theorem mNu_nStA (u : RS) (f : Nat → Int32) : mNu (nStA u f) = mNu u := rfl
theorem mEc_nStA (u : RS) (f : Nat → Int32) : mEc (nStA u f) = mEc u := rfl
theorem mEp_nStA (u : RS) (f : Nat → Int32) : mEp (nStA u f) = mEp u := rfl
theorem mTd_nStA (u : RS) (f : Nat → Int32) : mTd (nStA u f) = mTd u := rfl
theorem mTk_nStA (u : RS) (f : Nat → Int32) : mTk (nStA u f) = mTk u := rfl
theorem mOl_nStA (u : RS) (f : Nat → Int32) : mOl (nStA u f) = mOl u := rfl
def nAsA (u : RS) (f : Nat → Int32) : RS := (u.1, f, u.2.2)
theorem mSt_nAsA (u : RS) (f : Nat → Int32) : mSt (nAsA u f) = mSt u := rfl
theorem mAs_nAsA (u : RS) (f : Nat → Int32) : mAs (nAsA u f) = f := rfl
theorem mTr_nAsA (u : RS) (f : Nat → Int32) : mTr (nAsA u f) = mTr u := rfl
theorem mPa_nAsA (u : RS) (f : Nat → Int32) : mPa (nAsA u f) = mPa u := rfl
theorem mSa_nAsA (u : RS) (f : Nat → Int32) : mSa (nAsA u f) = mSa u := rfl
theorem mIs_nAsA (u : RS) (f : Nat → Int32) : mIs (nAsA u f) = mIs u := rfl
theorem mAo_nAsA (u : RS) (f : Nat → Int32) : mAo (nAsA u f) = mAo u := rfl
theorem mTx_nAsA (u : RS) (f : Nat → Int32) : mTx (nAsA u f) = mTx u := rfl
theorem mCo_nAsA (u : RS) (f : Nat → Int32) : mCo (nAsA u f) = mCo u := rfl
theorem mOu_nAsA (u : RS) (f : Nat → Int32) : mOu (nAsA u f) = mOu u := rfl
theorem mAc_nAsA (u : RS) (f : Nat → Int32) : mAc (nAsA u f) = mAc u := rfl
theorem mTh_nAsA (u : RS) (f : Nat → Int32) : mTh (nAsA u f) = mTh u := rfl
theorem mCc_nAsA (u : RS) (f : Nat → Int32) : mCc (nAsA u f) = mCc u := rfl
theorem mTl_nAsA (u : RS) (f : Nat → Int32) : mTl (nAsA u f) = mTl u := rfl
theorem mPo_nAsA (u : RS) (f : Nat → Int32) : mPo (nAsA u f) = mPo u := rfl
theorem mTs_nAsA (u : RS) (f : Nat → Int32) : mTs (nAsA u f) = mTs u := rfl
theorem mTo_nAsA (u : RS) (f : Nat → Int32) : mTo (nAsA u f) = mTo u := rfl
theorem mNu_nAsA (u : RS) (f : Nat → Int32) : mNu (nAsA u f) = mNu u := rfl
theorem mEc_nAsA (u : RS) (f : Nat → Int32) : mEc (nAsA u f) = mEc u := rfl
theorem mEp_nAsA (u : RS) (f : Nat → Int32) : mEp (nAsA u f) = mEp u := rfl
theorem mTd_nAsA (u : RS) (f : Nat → Int32) : mTd (nAsA u f) = mTd u := rfl
theorem mTk_nAsA (u : RS) (f : Nat → Int32) : mTk (nAsA u f) = mTk u := rfl
theorem mOl_nAsA (u : RS) (f : Nat → Int32) : mOl (nAsA u f) = mOl u := rfl
def nTrA (u : RS) (f : Nat → Int32) : RS := (u.1, u.2.1, f, u.2.2.2)
theorem mSt_nTrA (u : RS) (f : Nat → Int32) : mSt (nTrA u f) = mSt u := rfl
theorem mAs_nTrA (u : RS) (f : Nat → Int32) : mAs (nTrA u f) = mAs u := rfl
theorem mTr_nTrA (u : RS) (f : Nat → Int32) : mTr (nTrA u f) = f := rfl
theorem mPa_nTrA (u : RS) (f : Nat → Int32) : mPa (nTrA u f) = mPa u := rfl
theorem mSa_nTrA (u : RS) (f : Nat → Int32) : mSa (nTrA u f) = mSa u := rfl
theorem mIs_nTrA (u : RS) (f : Nat → Int32) : mIs (nTrA u f) = mIs u := rfl
theorem mAo_nTrA (u : RS) (f : Nat → Int32) : mAo (nTrA u f) = mAo u := rfl
theorem mTx_nTrA (u : RS) (f : Nat → Int32) : mTx (nTrA u f) = mTx u := rfl
theorem mCo_nTrA (u : RS) (f : Nat → Int32) : mCo (nTrA u f) = mCo u := rfl
theorem mOu_nTrA (u : RS) (f : Nat → Int32) : mOu (nTrA u f) = mOu u := rfl
theorem mAc_nTrA (u : RS) (f : Nat → Int32) : mAc (nTrA u f) = mAc u := rfl
theorem mTh_nTrA (u : RS) (f : Nat → Int32) : mTh (nTrA u f) = mTh u := rfl
theorem mCc_nTrA (u : RS) (f : Nat → Int32) : mCc (nTrA u f) = mCc u := rfl
theorem mTl_nTrA (u : RS) (f : Nat → Int32) : mTl (nTrA u f) = mTl u := rfl
theorem mPo_nTrA (u : RS) (f : Nat → Int32) : mPo (nTrA u f) = mPo u := rfl
theorem mTs_nTrA (u : RS) (f : Nat → Int32) : mTs (nTrA u f) = mTs u := rfl
theorem mTo_nTrA (u : RS) (f : Nat → Int32) : mTo (nTrA u f) = mTo u := rfl
theorem mNu_nTrA (u : RS) (f : Nat → Int32) : mNu (nTrA u f) = mNu u := rfl
theorem mEc_nTrA (u : RS) (f : Nat → Int32) : mEc (nTrA u f) = mEc u := rfl
theorem mEp_nTrA (u : RS) (f : Nat → Int32) : mEp (nTrA u f) = mEp u := rfl
theorem mTd_nTrA (u : RS) (f : Nat → Int32) : mTd (nTrA u f) = mTd u := rfl
theorem mTk_nTrA (u : RS) (f : Nat → Int32) : mTk (nTrA u f) = mTk u := rfl
theorem mOl_nTrA (u : RS) (f : Nat → Int32) : mOl (nTrA u f) = mOl u := rfl
def nPaA (u : RS) (f : Nat → Int32) : RS := (u.1, u.2.1, u.2.2.1, f, u.2.2.2.2)
theorem mSt_nPaA (u : RS) (f : Nat → Int32) : mSt (nPaA u f) = mSt u := rfl
theorem mAs_nPaA (u : RS) (f : Nat → Int32) : mAs (nPaA u f) = mAs u := rfl
theorem mTr_nPaA (u : RS) (f : Nat → Int32) : mTr (nPaA u f) = mTr u := rfl
theorem mPa_nPaA (u : RS) (f : Nat → Int32) : mPa (nPaA u f) = f := rfl
theorem mSa_nPaA (u : RS) (f : Nat → Int32) : mSa (nPaA u f) = mSa u := rfl
theorem mIs_nPaA (u : RS) (f : Nat → Int32) : mIs (nPaA u f) = mIs u := rfl
theorem mAo_nPaA (u : RS) (f : Nat → Int32) : mAo (nPaA u f) = mAo u := rfl
theorem mTx_nPaA (u : RS) (f : Nat → Int32) : mTx (nPaA u f) = mTx u := rfl
theorem mCo_nPaA (u : RS) (f : Nat → Int32) : mCo (nPaA u f) = mCo u := rfl
theorem mOu_nPaA (u : RS) (f : Nat → Int32) : mOu (nPaA u f) = mOu u := rfl
theorem mAc_nPaA (u : RS) (f : Nat → Int32) : mAc (nPaA u f) = mAc u := rfl
theorem mTh_nPaA (u : RS) (f : Nat → Int32) : mTh (nPaA u f) = mTh u := rfl
theorem mCc_nPaA (u : RS) (f : Nat → Int32) : mCc (nPaA u f) = mCc u := rfl
theorem mTl_nPaA (u : RS) (f : Nat → Int32) : mTl (nPaA u f) = mTl u := rfl
theorem mPo_nPaA (u : RS) (f : Nat → Int32) : mPo (nPaA u f) = mPo u := rfl
theorem mTs_nPaA (u : RS) (f : Nat → Int32) : mTs (nPaA u f) = mTs u := rfl
theorem mTo_nPaA (u : RS) (f : Nat → Int32) : mTo (nPaA u f) = mTo u := rfl
theorem mNu_nPaA (u : RS) (f : Nat → Int32) : mNu (nPaA u f) = mNu u := rfl
theorem mEc_nPaA (u : RS) (f : Nat → Int32) : mEc (nPaA u f) = mEc u := rfl
theorem mEp_nPaA (u : RS) (f : Nat → Int32) : mEp (nPaA u f) = mEp u := rfl
theorem mTd_nPaA (u : RS) (f : Nat → Int32) : mTd (nPaA u f) = mTd u := rfl
theorem mTk_nPaA (u : RS) (f : Nat → Int32) : mTk (nPaA u f) = mTk u := rfl
theorem mOl_nPaA (u : RS) (f : Nat → Int32) : mOl (nPaA u f) = mOl u := rfl
def nSaA (u : RS) (f : Nat → Int32) : RS := (u.1, u.2.1, u.2.2.1, u.2.2.2.1, f, u.2.2.2.2.2)
theorem mSt_nSaA (u : RS) (f : Nat → Int32) : mSt (nSaA u f) = mSt u := rfl
theorem mAs_nSaA (u : RS) (f : Nat → Int32) : mAs (nSaA u f) = mAs u := rfl
theorem mTr_nSaA (u : RS) (f : Nat → Int32) : mTr (nSaA u f) = mTr u := rfl
theorem mPa_nSaA (u : RS) (f : Nat → Int32) : mPa (nSaA u f) = mPa u := rfl
theorem mSa_nSaA (u : RS) (f : Nat → Int32) : mSa (nSaA u f) = f := rfl
theorem mIs_nSaA (u : RS) (f : Nat → Int32) : mIs (nSaA u f) = mIs u := rfl
theorem mAo_nSaA (u : RS) (f : Nat → Int32) : mAo (nSaA u f) = mAo u := rfl
theorem mTx_nSaA (u : RS) (f : Nat → Int32) : mTx (nSaA u f) = mTx u := rfl
theorem mCo_nSaA (u : RS) (f : Nat → Int32) : mCo (nSaA u f) = mCo u := rfl
theorem mOu_nSaA (u : RS) (f : Nat → Int32) : mOu (nSaA u f) = mOu u := rfl
theorem mAc_nSaA (u : RS) (f : Nat → Int32) : mAc (nSaA u f) = mAc u := rfl
theorem mTh_nSaA (u : RS) (f : Nat → Int32) : mTh (nSaA u f) = mTh u := rfl
theorem mCc_nSaA (u : RS) (f : Nat → Int32) : mCc (nSaA u f) = mCc u := rfl
theorem mTl_nSaA (u : RS) (f : Nat → Int32) : mTl (nSaA u f) = mTl u := rfl
theorem mPo_nSaA (u : RS) (f : Nat → Int32) : mPo (nSaA u f) = mPo u := rfl
theorem mTs_nSaA (u : RS) (f : Nat → Int32) : mTs (nSaA u f) = mTs u := rfl
theorem mTo_nSaA (u : RS) (f : Nat → Int32) : mTo (nSaA u f) = mTo u := rfl
theorem mNu_nSaA (u : RS) (f : Nat → Int32) : mNu (nSaA u f) = mNu u := rfl
theorem mEc_nSaA (u : RS) (f : Nat → Int32) : mEc (nSaA u f) = mEc u := rfl
theorem mEp_nSaA (u : RS) (f : Nat → Int32) : mEp (nSaA u f) = mEp u := rfl
theorem mTd_nSaA (u : RS) (f : Nat → Int32) : mTd (nSaA u f) = mTd u := rfl
theorem mTk_nSaA (u : RS) (f : Nat → Int32) : mTk (nSaA u f) = mTk u := rfl
theorem mOl_nSaA (u : RS) (f : Nat → Int32) : mOl (nSaA u f) = mOl u := rfl
def nIsA (u : RS) (f : Nat → Int32) : RS := (u.1, u.2.1, u.2.2.1, u.2.2.2.1, u.2.2.2.2.1, f, u.2.2.2.2.2.2)
theorem mSt_nIsA (u : RS) (f : Nat → Int32) : mSt (nIsA u f) = mSt u := rfl
theorem mAs_nIsA (u : RS) (f : Nat → Int32) : mAs (nIsA u f) = mAs u := rfl
theorem mTr_nIsA (u : RS) (f : Nat → Int32) : mTr (nIsA u f) = mTr u := rfl
theorem mPa_nIsA (u : RS) (f : Nat → Int32) : mPa (nIsA u f) = mPa u := rfl
theorem mSa_nIsA (u : RS) (f : Nat → Int32) : mSa (nIsA u f) = mSa u := rfl
theorem mIs_nIsA (u : RS) (f : Nat → Int32) : mIs (nIsA u f) = f := rfl
theorem mAo_nIsA (u : RS) (f : Nat → Int32) : mAo (nIsA u f) = mAo u := rfl
theorem mTx_nIsA (u : RS) (f : Nat → Int32) : mTx (nIsA u f) = mTx u := rfl
theorem mCo_nIsA (u : RS) (f : Nat → Int32) : mCo (nIsA u f) = mCo u := rfl
theorem mOu_nIsA (u : RS) (f : Nat → Int32) : mOu (nIsA u f) = mOu u := rfl
theorem mAc_nIsA (u : RS) (f : Nat → Int32) : mAc (nIsA u f) = mAc u := rfl
theorem mTh_nIsA (u : RS) (f : Nat → Int32) : mTh (nIsA u f) = mTh u := rfl
theorem mCc_nIsA (u : RS) (f : Nat → Int32) : mCc (nIsA u f) = mCc u := rfl
theorem mTl_nIsA (u : RS) (f : Nat → Int32) : mTl (nIsA u f) = mTl u := rfl
theorem mPo_nIsA (u : RS) (f : Nat → Int32) : mPo (nIsA u f) = mPo u := rfl
theorem mTs_nIsA (u : RS) (f : Nat → Int32) : mTs (nIsA u f) = mTs u := rfl
theorem mTo_nIsA (u : RS) (f : Nat → Int32) : mTo (nIsA u f) = mTo u := rfl
theorem mNu_nIsA (u : RS) (f : Nat → Int32) : mNu (nIsA u f) = mNu u := rfl
theorem mEc_nIsA (u : RS) (f : Nat → Int32) : mEc (nIsA u f) = mEc u := rfl
theorem mEp_nIsA (u : RS) (f : Nat → Int32) : mEp (nIsA u f) = mEp u := rfl
theorem mTd_nIsA (u : RS) (f : Nat → Int32) : mTd (nIsA u f) = mTd u := rfl
theorem mTk_nIsA (u : RS) (f : Nat → Int32) : mTk (nIsA u f) = mTk u := rfl
theorem mOl_nIsA (u : RS) (f : Nat → Int32) : mOl (nIsA u f) = mOl u := rfl
def nAoA (u : RS) (f : Nat → Int32) : RS := (u.1, u.2.1, u.2.2.1, u.2.2.2.1, u.2.2.2.2.1, u.2.2.2.2.2.1, f, u.2.2.2.2.2.2.2)
theorem mSt_nAoA (u : RS) (f : Nat → Int32) : mSt (nAoA u f) = mSt u := rfl
theorem mAs_nAoA (u : RS) (f : Nat → Int32) : mAs (nAoA u f) = mAs u := rfl
theorem mTr_nAoA (u : RS) (f : Nat → Int32) : mTr (nAoA u f) = mTr u := rfl
theorem mPa_nAoA (u : RS) (f : Nat → Int32) : mPa (nAoA u f) = mPa u := rfl
theorem mSa_nAoA (u : RS) (f : Nat → Int32) : mSa (nAoA u f) = mSa u := rfl
theorem mIs_nAoA (u : RS) (f : Nat → Int32) : mIs (nAoA u f) = mIs u := rfl
theorem mAo_nAoA (u : RS) (f : Nat → Int32) : mAo (nAoA u f) = f := rfl
theorem mTx_nAoA (u : RS) (f : Nat → Int32) : mTx (nAoA u f) = mTx u := rfl
theorem mCo_nAoA (u : RS) (f : Nat → Int32) : mCo (nAoA u f) = mCo u := rfl
theorem mOu_nAoA (u : RS) (f : Nat → Int32) : mOu (nAoA u f) = mOu u := rfl
theorem mAc_nAoA (u : RS) (f : Nat → Int32) : mAc (nAoA u f) = mAc u := rfl
theorem mTh_nAoA (u : RS) (f : Nat → Int32) : mTh (nAoA u f) = mTh u := rfl
theorem mCc_nAoA (u : RS) (f : Nat → Int32) : mCc (nAoA u f) = mCc u := rfl
theorem mTl_nAoA (u : RS) (f : Nat → Int32) : mTl (nAoA u f) = mTl u := rfl
theorem mPo_nAoA (u : RS) (f : Nat → Int32) : mPo (nAoA u f) = mPo u := rfl
theorem mTs_nAoA (u : RS) (f : Nat → Int32) : mTs (nAoA u f) = mTs u := rfl
theorem mTo_nAoA (u : RS) (f : Nat → Int32) : mTo (nAoA u f) = mTo u := rfl
theorem mNu_nAoA (u : RS) (f : Nat → Int32) : mNu (nAoA u f) = mNu u := rfl
theorem mEc_nAoA (u : RS) (f : Nat → Int32) : mEc (nAoA u f) = mEc u := rfl
theorem mEp_nAoA (u : RS) (f : Nat → Int32) : mEp (nAoA u f) = mEp u := rfl
theorem mTd_nAoA (u : RS) (f : Nat → Int32) : mTd (nAoA u f) = mTd u := rfl
theorem mTk_nAoA (u : RS) (f : Nat → Int32) : mTk (nAoA u f) = mTk u := rfl
theorem mOl_nAoA (u : RS) (f : Nat → Int32) : mOl (nAoA u f) = mOl u := rfl
def nTxA (u : RS) (f : Nat → Int32) : RS := (u.1, u.2.1, u.2.2.1, u.2.2.2.1, u.2.2.2.2.1, u.2.2.2.2.2.1, u.2.2.2.2.2.2.1, f, u.2.2.2.2.2.2.2.2)
theorem mSt_nTxA (u : RS) (f : Nat → Int32) : mSt (nTxA u f) = mSt u := rfl
theorem mAs_nTxA (u : RS) (f : Nat → Int32) : mAs (nTxA u f) = mAs u := rfl
theorem mTr_nTxA (u : RS) (f : Nat → Int32) : mTr (nTxA u f) = mTr u := rfl
theorem mPa_nTxA (u : RS) (f : Nat → Int32) : mPa (nTxA u f) = mPa u := rfl
theorem mSa_nTxA (u : RS) (f : Nat → Int32) : mSa (nTxA u f) = mSa u := rfl
theorem mIs_nTxA (u : RS) (f : Nat → Int32) : mIs (nTxA u f) = mIs u := rfl
theorem mAo_nTxA (u : RS) (f : Nat → Int32) : mAo (nTxA u f) = mAo u := rfl
theorem mTx_nTxA (u : RS) (f : Nat → Int32) : mTx (nTxA u f) = f := rfl
theorem mCo_nTxA (u : RS) (f : Nat → Int32) : mCo (nTxA u f) = mCo u := rfl
theorem mOu_nTxA (u : RS) (f : Nat → Int32) : mOu (nTxA u f) = mOu u := rfl
theorem mAc_nTxA (u : RS) (f : Nat → Int32) : mAc (nTxA u f) = mAc u := rfl
theorem mTh_nTxA (u : RS) (f : Nat → Int32) : mTh (nTxA u f) = mTh u := rfl
theorem mCc_nTxA (u : RS) (f : Nat → Int32) : mCc (nTxA u f) = mCc u := rfl
theorem mTl_nTxA (u : RS) (f : Nat → Int32) : mTl (nTxA u f) = mTl u := rfl
theorem mPo_nTxA (u : RS) (f : Nat → Int32) : mPo (nTxA u f) = mPo u := rfl
theorem mTs_nTxA (u : RS) (f : Nat → Int32) : mTs (nTxA u f) = mTs u := rfl
theorem mTo_nTxA (u : RS) (f : Nat → Int32) : mTo (nTxA u f) = mTo u := rfl
theorem mNu_nTxA (u : RS) (f : Nat → Int32) : mNu (nTxA u f) = mNu u := rfl
theorem mEc_nTxA (u : RS) (f : Nat → Int32) : mEc (nTxA u f) = mEc u := rfl
theorem mEp_nTxA (u : RS) (f : Nat → Int32) : mEp (nTxA u f) = mEp u := rfl
theorem mTd_nTxA (u : RS) (f : Nat → Int32) : mTd (nTxA u f) = mTd u := rfl
theorem mTk_nTxA (u : RS) (f : Nat → Int32) : mTk (nTxA u f) = mTk u := rfl
theorem mOl_nTxA (u : RS) (f : Nat → Int32) : mOl (nTxA u f) = mOl u := rfl
def nCoA (u : RS) (f : Nat → Int32) : RS := (u.1, u.2.1, u.2.2.1, u.2.2.2.1, u.2.2.2.2.1, u.2.2.2.2.2.1, u.2.2.2.2.2.2.1, u.2.2.2.2.2.2.2.1, f, u.2.2.2.2.2.2.2.2.2)
theorem mSt_nCoA (u : RS) (f : Nat → Int32) : mSt (nCoA u f) = mSt u := rfl
theorem mAs_nCoA (u : RS) (f : Nat → Int32) : mAs (nCoA u f) = mAs u := rfl
theorem mTr_nCoA (u : RS) (f : Nat → Int32) : mTr (nCoA u f) = mTr u := rfl
theorem mPa_nCoA (u : RS) (f : Nat → Int32) : mPa (nCoA u f) = mPa u := rfl
theorem mSa_nCoA (u : RS) (f : Nat → Int32) : mSa (nCoA u f) = mSa u := rfl
theorem mIs_nCoA (u : RS) (f : Nat → Int32) : mIs (nCoA u f) = mIs u := rfl
theorem mAo_nCoA (u : RS) (f : Nat → Int32) : mAo (nCoA u f) = mAo u := rfl
theorem mTx_nCoA (u : RS) (f : Nat → Int32) : mTx (nCoA u f) = mTx u := rfl
theorem mCo_nCoA (u : RS) (f : Nat → Int32) : mCo (nCoA u f) = f := rfl
theorem mOu_nCoA (u : RS) (f : Nat → Int32) : mOu (nCoA u f) = mOu u := rfl
theorem mAc_nCoA (u : RS) (f : Nat → Int32) : mAc (nCoA u f) = mAc u := rfl
theorem mTh_nCoA (u : RS) (f : Nat → Int32) : mTh (nCoA u f) = mTh u := rfl
theorem mCc_nCoA (u : RS) (f : Nat → Int32) : mCc (nCoA u f) = mCc u := rfl
theorem mTl_nCoA (u : RS) (f : Nat → Int32) : mTl (nCoA u f) = mTl u := rfl
theorem mPo_nCoA (u : RS) (f : Nat → Int32) : mPo (nCoA u f) = mPo u := rfl
theorem mTs_nCoA (u : RS) (f : Nat → Int32) : mTs (nCoA u f) = mTs u := rfl
theorem mTo_nCoA (u : RS) (f : Nat → Int32) : mTo (nCoA u f) = mTo u := rfl
theorem mNu_nCoA (u : RS) (f : Nat → Int32) : mNu (nCoA u f) = mNu u := rfl
theorem mEc_nCoA (u : RS) (f : Nat → Int32) : mEc (nCoA u f) = mEc u := rfl
theorem mEp_nCoA (u : RS) (f : Nat → Int32) : mEp (nCoA u f) = mEp u := rfl
theorem mTd_nCoA (u : RS) (f : Nat → Int32) : mTd (nCoA u f) = mTd u := rfl
theorem mTk_nCoA (u : RS) (f : Nat → Int32) : mTk (nCoA u f) = mTk u := rfl
theorem mOl_nCoA (u : RS) (f : Nat → Int32) : mOl (nCoA u f) = mOl u := rfl
def nOuA (u : RS) (f : Nat → Int32) : RS := (u.1, u.2.1, u.2.2.1, u.2.2.2.1, u.2.2.2.2.1, u.2.2.2.2.2.1, u.2.2.2.2.2.2.1, u.2.2.2.2.2.2.2.1, u.2.2.2.2.2.2.2.2.1, f, u.2.2.2.2.2.2.2.2.2.2)
theorem mSt_nOuA (u : RS) (f : Nat → Int32) : mSt (nOuA u f) = mSt u := rfl
theorem mAs_nOuA (u : RS) (f : Nat → Int32) : mAs (nOuA u f) = mAs u := rfl
theorem mTr_nOuA (u : RS) (f : Nat → Int32) : mTr (nOuA u f) = mTr u := rfl
theorem mPa_nOuA (u : RS) (f : Nat → Int32) : mPa (nOuA u f) = mPa u := rfl
theorem mSa_nOuA (u : RS) (f : Nat → Int32) : mSa (nOuA u f) = mSa u := rfl
theorem mIs_nOuA (u : RS) (f : Nat → Int32) : mIs (nOuA u f) = mIs u := rfl
theorem mAo_nOuA (u : RS) (f : Nat → Int32) : mAo (nOuA u f) = mAo u := rfl
theorem mTx_nOuA (u : RS) (f : Nat → Int32) : mTx (nOuA u f) = mTx u := rfl
theorem mCo_nOuA (u : RS) (f : Nat → Int32) : mCo (nOuA u f) = mCo u := rfl
theorem mOu_nOuA (u : RS) (f : Nat → Int32) : mOu (nOuA u f) = f := rfl
theorem mAc_nOuA (u : RS) (f : Nat → Int32) : mAc (nOuA u f) = mAc u := rfl
theorem mTh_nOuA (u : RS) (f : Nat → Int32) : mTh (nOuA u f) = mTh u := rfl
theorem mCc_nOuA (u : RS) (f : Nat → Int32) : mCc (nOuA u f) = mCc u := rfl
theorem mTl_nOuA (u : RS) (f : Nat → Int32) : mTl (nOuA u f) = mTl u := rfl
theorem mPo_nOuA (u : RS) (f : Nat → Int32) : mPo (nOuA u f) = mPo u := rfl
theorem mTs_nOuA (u : RS) (f : Nat → Int32) : mTs (nOuA u f) = mTs u := rfl
theorem mTo_nOuA (u : RS) (f : Nat → Int32) : mTo (nOuA u f) = mTo u := rfl
theorem mNu_nOuA (u : RS) (f : Nat → Int32) : mNu (nOuA u f) = mNu u := rfl
theorem mEc_nOuA (u : RS) (f : Nat → Int32) : mEc (nOuA u f) = mEc u := rfl
theorem mEp_nOuA (u : RS) (f : Nat → Int32) : mEp (nOuA u f) = mEp u := rfl
theorem mTd_nOuA (u : RS) (f : Nat → Int32) : mTd (nOuA u f) = mTd u := rfl
theorem mTk_nOuA (u : RS) (f : Nat → Int32) : mTk (nOuA u f) = mTk u := rfl
theorem mOl_nOuA (u : RS) (f : Nat → Int32) : mOl (nOuA u f) = mOl u := rfl
/-- what the reference holds behind its state row -/
def mRest (a : Nat → Nat) (u : RS) : List Value := [.ref (a 1), .ref (a 2), .ref (a 3), .ref (a 4), .ref (a 5), .ref (a 6), .int (mAc u), .int (mTh u), .ref (a 7), .ref (a 8), .int (mCc u), .int (mTl u), .int (mPo u), .int (mTs u), .int (mTo u), .int (mNu u), .int (mEc u), .int (mEp u), .int (mTd u), .int (mTk u), .ref (a 9), .int (mOl u)]
