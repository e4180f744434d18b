/-! the class's object beside the reference's -/
def rowA (f : Nat → Int32) (a : Nat) : Nat → Int32 := fun i => f (a + i)
def eHi (B : Int) (F : FS) (M : RS) : Prop := ∃ x k : Nat, x < 8 ∧ k ≤ 8 ∧ fX F = nI x ∧ fY F = nI k ∧ mAc M = nI k ∧ ∀ j, j < k → eRel (hQ (fH F) ((x + 8 - k + j) % 8)) (rowA (mPa M) (561 * j)) ∧ eInv B (rowA (mPa M) (561 * j))
def eSv (B : Int) (F : FS) (M : RS) : Prop := (∀ s, s < 2 → (fI F s = 0 ∨ fI F s = 1) ∧ mIs M s = fI F s) ∧ (fI F 0 = 1 → eRel (fA F) (rowA (mSa M) 0) ∧ eInv B (rowA (mSa M) 0)) ∧ (fI F 1 = 1 → eRel (fB F) (rowA (mSa M) 561) ∧ eInv B (rowA (mSa M) 561))
def eOu (F : FS) (M : RS) : Prop := ∃ n : Nat, n ≤ 256 ∧ fL F = nI n ∧ mOl M = nI n ∧ ∀ i, i < n → fU F i = mOu M i
def eTx (p : PS) (M : RS) : Prop := ∃ n : Nat, n ≤ 500 ∧ pLe p = nI n ∧ mTl M = nI n ∧ (∀ i, i < n → pBy p i = mTx M i ∧ 0 ≤ (mTx M i).toInt ∧ (mTx M i).toInt ≤ 255)
def ePa (p : PS) (M : RS) : Prop := eTx p M ∧ pEc p = mEc M ∧ pEp p = mEp M
def eAll (B : Int) (F : FS) (M : RS) : Prop := eRel (fN F) (mSt M) ∧ eInv B (mSt M) ∧ eHi B F M ∧ eSv B F M ∧ (∀ i, i < 5 → fO F i = mAo M i) ∧ eOu F M ∧ ePa (fP F) M
/-- what an act leaves alone -/
def eKp (F F' : FS) (M M' : RS) : Prop := fP F' = fP F ∧ mCo M' = mCo M ∧ mCc M' = mCc M ∧ mTh M' = mTh M
theorem rf_sim {B : Int} {F : FS} {M : RS} (A : eAll B F M) {r : Nat} (h1 : 1 ≤ r) (h4 : r ≤ 4) {x : Int32} (hx : x = nI r) : ∃ F' M', fX9_refuse x F = some (-x, F') ∧ fX10_refuse x M = some (-x, M') ∧ eAll B F' M' ∧ eKp F F' M M' := by
  obtain ⟨a1, a2, a3, a4, a5, a6, a7⟩ := A
  have hI := qa_nI (n := r) (by omega)
  subst hx
  refine ⟨gO F r (fO F r + 1), nAo M r (mAo M r + 1), ?_, ?_, ⟨a1, a2, a3, a4, fun i hi => ?_, a6, a7⟩, rfl, rfl, rfl, rfl⟩
  · unfold fX9_refuse fX9_refuse_b0
    rw [if_neg (by rw [qa_lt, qa_1]; omega), if_neg (by rw [qa_le, qa_5]; omega), qa_gi (by omega) (by omega), qa_gi (by omega) (by omega), qa_ix hI]
  · unfold fX10_refuse fX10_refuse_b0
    rw [qa_gi (by omega) (by omega), qa_gi (by omega) (by omega), qa_ix hI]
  · show upd (fO F) r (fO F r + 1) i = upd (mAo M) r (mAo M r + 1) i
    by_cases e : i = r
    · rw [e, pk_us, pk_us, a5 r (by omega)]
    · rw [pk_un e, pk_un e]
      exact a5 i hi
theorem rm_copy (M : RS) {k : Nat} (hk : k < 8) (ek : mAc M = nI k) : fX10_remember_b13 M = some (nAo (nAc (nPaA M (va_cpy (mSt M) (mPa M) 0 (561 * k) 561)) (nI (k + 1))) 0 (mAo M 0 + 1)) := by
  have hI := qa_nI (n := k) (by omega)
  have e5 : (561 * nI k).toInt = ((561 * k : Nat) : Int) := by
    simp only [qa_ar, hI, Int32.reduceToInt]
    omega
  unfold fX10_remember_b13
  rw [ek, rb_copy (a := 0) (b := 561 * k) qa_0 e5 (by omega) (by omega) (by omega), qa_b]
  have : mAc (nPaA M (va_cpy (mSt M) (mPa M) 0 (561 * k) 561)) = nI k := ek
  rw [this, nI_1]
  rfl
theorem rm_old (M : RS) (ek : mAc M = nI 8) : ∃ M', fX10_forgetEldest M = some M' ∧ M' = nAc (nPaA M (mPa M')) (nI 7) ∧ ∀ i, i < 3927 → mPa M' i = mPa M (i + 561) := by
  refine ⟨nAc (nPaA M (fun i => if i < 3927 then mPa M (i + 561) else mPa M i)) (nI 7), ?_, rfl, fun i hi => if_pos hi⟩
  unfold fX10_forgetEldest fX10_forgetEldest_b0
  have h0 : ((0 : Int32), M) = (nI 0, nPaA M (fun i => if i < 0 then mPa M (i + 561) else mPa M i)) := by
    have : (fun i => if i < 0 then mPa M (i + 561) else mPa M i) = mPa M := funext fun i => if_neg (by omega)
    rw [this]
    rfl
  rw [h0]
  refine qa_lop0 (fun j => (nI j, nPaA M (fun i => if i < j then mPa M (i + 561) else mPa M i))) 3927 (by omega) (fun j hj k => ?_) (fun k => ?_)
  · show fX10_forgetEldest_b2 k (nI j) (nPaA M (fun i => if i < j then mPa M (i + 561) else mPa M i)) = k (nI (j + 1), nPaA M (fun i => if i < j + 1 then mPa M (i + 561) else mPa M i))
    have hI := qa_nI (n := j) (by omega)
    have e5 : (nI j + 561).toInt = ((j + 561 : Nat) : Int) := by
      simp only [qa_ar, hI, Int32.reduceToInt]
      omega
    unfold fX10_forgetEldest_b2
    rw [if_neg (by rw [qa_le, hI]; simp only [Int32.reduceToInt]; omega), qa_gi (by omega) (by omega), qa_gi (by omega) (by omega), qa_ix hI, qa_ix e5, nI_1]
    have : nPa (nPaA M (fun i => if i < j then mPa M (i + 561) else mPa M i)) j (mPa (nPaA M (fun i => if i < j then mPa M (i + 561) else mPa M i)) (j + 561)) = nPaA M (fun i => if i < j + 1 then mPa M (i + 561) else mPa M i) := by
      show nPaA M (upd (fun i => if i < j then mPa M (i + 561) else mPa M i) j (if j + 561 < j then mPa M (j + 561 + 561) else mPa M (j + 561))) = _
      refine congrArg (nPaA M) ?_
      funext i
      unfold upd
      by_cases e : i = j
      · rw [if_pos e, if_neg (by omega), if_pos (by omega), e]
      · rw [if_neg e]
        show (if i < j then mPa M (i + 561) else mPa M i) = _
        by_cases e2 : i < j
        · rw [if_pos e2, if_pos (by omega)]
        · rw [if_neg e2, if_neg (by omega)]
    rw [this]
  · show fX10_forgetEldest_b2 k (nI 3927) _ = _
    unfold fX10_forgetEldest_b2
    rw [if_pos (by decide)]
    have : mAc (nPaA M (fun i => if i < 3927 then mPa M (i + 561) else mPa M i)) - 1 = nI 7 := by
      rw [show mAc (nPaA M (fun i => if i < 3927 then mPa M (i + 561) else mPa M i)) = nI 8 from ek]
      decide
    rw [this]
theorem ac_sim {B : Int} {F : FS} {M : RS} (A : eAll B F M) : ∃ F' M', fX9_accept F = some F' ∧ fX10_remember M = some M' ∧ eAll B F' M' ∧ eKp F F' M M' ∧ fN F' = fN F ∧ mSt M' = mSt M := by
  obtain ⟨a1, a2, ⟨x, k, hx, hk, ex, ey, em, hj⟩, a4, a5, a6, a7⟩ := A
  obtain ⟨w, ew, cw⟩ := sb_copy (hQ (fH F) x) (fN F)
  have hr := hi_rem (h := fH F) hx ex hk ey ew
  obtain ⟨q1, q2, q3, q4, q5⟩ := hQ_iQ (fH F) hx w
  have hw : eRel w (mSt M) := a1.cp a2.2.1 cw
  have cpy : ∀ (f2 : Nat → Int32) b, ∀ i, i < 561 → rowA (va_cpy (mSt M) f2 0 b 561) b i = mSt M i := by
    intro f2 b i hi
    unfold rowA
    rw [pk_cpy_in (by omega) (by omega)]
    congr 1
    omega
  -- the class's side
  obtain ⟨h', eh'⟩ : ∃ h', h' = (if k = 8 then iX (iQ (fH F) x w) (nI ((x + 1) % 8)) else iY (iX (iQ (fH F) x w) (nI ((x + 1) % 8))) (nI (k + 1))) := ⟨_, rfl⟩
  rw [← eh'] at hr
  have h'X : hX h' = nI ((x + 1) % 8) := by
    rw [eh']
    split <;> rfl
  have h'Q : ∀ i, hQ h' i = hQ (iQ (fH F) x w) i := by
    intro i
    rw [eh']
    split
    · rfl
    · rfl
  have h'V : hV h' = fN F := by
    rw [eh']
    split
    · exact q5
    · exact q5
  have h'Y : hY h' = nI (if k = 8 then 8 else k + 1) := by
    rw [eh']
    split
    · rename_i e
      show hY (iQ (fH F) x w) = _
      rw [q4, show hY (fH F) = fY F from rfl, ey, e]
    · rfl
  have fHg : ∀ (h : HT), fH (gO (gH F h) 0 (fO (gH F h) 0 + 1)) = h := fun h => rfl
  have gE : fX9_accept F = some (gO (gH F h') 0 (fO (gH F h') 0 + 1)) := by
    unfold fX9_accept fX9_accept_b0
    rw [hr, qa_b]
  by_cases e8 : k = 8
  · -- the eldest is forgotten
    subst e8
    obtain ⟨M1, m1, m2, m3⟩ := rm_old M em
    have m1c : mAc M1 = nI 7 := by rw [m2]; rfl
    have hrm : fX10_remember M = some (nAo (nAc (nPaA M1 (va_cpy (mSt M1) (mPa M1) 0 (561 * 7) 561)) (nI (7 + 1))) 0 (mAo M1 0 + 1)) := by
      unfold fX10_remember fX10_remember_b0
      rw [em, if_pos (by decide), m1, qa_b, rm_copy M1 (by omega) m1c]
    have s1 : mSt M1 = mSt M := by rw [m2]; rfl
    refine ⟨_, _, gE, hrm, ⟨?_, ?_, ?_, ?_, ?_, ?_, ?_⟩, ⟨rfl, by rw [m2]; rfl, by rw [m2]; rfl, by rw [m2]; rfl⟩, h'V, s1⟩
    · rw [show fN (gO (gH F h') 0 (fO (gH F h') 0 + 1)) = fN F from h'V, show mSt (nAo (nAc (nPaA M1 (va_cpy (mSt M1) (mPa M1) 0 (561 * 7) 561)) (nI (7 + 1))) 0 (mAo M1 0 + 1)) = mSt M from s1]
      exact a1
    · rw [show mSt (nAo (nAc (nPaA M1 (va_cpy (mSt M1) (mPa M1) 0 (561 * 7) 561)) (nI (7 + 1))) 0 (mAo M1 0 + 1)) = mSt M from s1]
      exact a2
    · refine ⟨(x + 1) % 8, 8, by omega, by omega, h'X, by rw [show fY (gO (gH F h') 0 (fO (gH F h') 0 + 1)) = hY h' from rfl, h'Y, if_pos rfl], rfl, fun j hjk => ?_⟩
      rw [fHg, h'Q]
      show eRel _ (rowA (va_cpy (mSt M1) (mPa M1) 0 (561 * 7) 561) (561 * j)) ∧ eInv B (rowA (va_cpy (mSt M1) (mPa M1) 0 (561 * 7) 561) (561 * j))
      rw [s1]
      by_cases e7 : j = 7
      · subst e7
        rw [show ((x + 1) % 8 + 8 - 8 + 7) % 8 = x by omega, q1]
        exact ⟨hw.cong a2.2.1 (cpy _ _), a2.cong (cpy _ _)⟩
      · rw [q2 _ (by omega) (by omega)]
        obtain ⟨o1, o2⟩ := hj (j + 1) (by omega)
        have eqr : ∀ i, i < 561 → rowA (va_cpy (mSt M) (mPa M1) 0 (561 * 7) 561) (561 * j) i = rowA (mPa M) (561 * (j + 1)) i := by
          intro i hi
          unfold rowA
          rw [pk_cpy_out (by omega), m3 _ (by omega)]
          exact congrArg (mPa M) (by omega)
        rw [show ((x + 1) % 8 + 8 - 8 + j) % 8 = (x + 8 - 8 + (j + 1)) % 8 by omega]
        exact ⟨o1.cong o2.2.1 eqr, o2.cong eqr⟩
    · have i1 : mIs M1 = mIs M := by rw [m2]; rfl
      have i2 : mSa M1 = mSa M := by rw [m2]; rfl
      unfold eSv
      rw [show mIs (nAo (nAc (nPaA M1 (va_cpy (mSt M1) (mPa M1) 0 (561 * 7) 561)) (nI (7 + 1))) 0 (mAo M1 0 + 1)) = mIs M from i1, show mSa (nAo (nAc (nPaA M1 (va_cpy (mSt M1) (mPa M1) 0 (561 * 7) 561)) (nI (7 + 1))) 0 (mAo M1 0 + 1)) = mSa M from i2]
      exact a4
    · intro i hi
      have i1 : mAo M1 = mAo M := by rw [m2]; rfl
      show upd (fO F) 0 (fO F 0 + 1) i = upd (mAo M1) 0 (mAo M1 0 + 1) i
      rw [i1]
      by_cases e : i = 0
      · rw [e, pk_us, pk_us, a5 0 (by omega)]
      · rw [pk_un e, pk_un e]
        exact a5 i hi
    · rw [m2]
      exact a6
    · rw [m2]
      exact a7
  · have hrm : fX10_remember M = some (nAo (nAc (nPaA M (va_cpy (mSt M) (mPa M) 0 (561 * k) 561)) (nI (k + 1))) 0 (mAo M 0 + 1)) := by
      unfold fX10_remember fX10_remember_b0
      rw [if_neg (by rw [em]; intro h; have h := congrArg Int32.toInt h; rw [qa_nI (by omega)] at h; simp only [Int32.reduceToInt] at h; omega), rm_copy M (by omega) em]
    refine ⟨_, _, gE, hrm, ⟨?_, a2, ?_, a4, ?_, a6, a7⟩, ⟨rfl, rfl, rfl, rfl⟩, h'V, rfl⟩
    · rw [show fN (gO (gH F h') 0 (fO (gH F h') 0 + 1)) = fN F from h'V]
      exact a1
    · refine ⟨(x + 1) % 8, k + 1, by omega, by omega, h'X, by rw [show fY (gO (gH F h') 0 (fO (gH F h') 0 + 1)) = hY h' from rfl, h'Y, if_neg e8], rfl, fun j hjk => ?_⟩
      rw [fHg, h'Q]
      show eRel _ (rowA (va_cpy (mSt M) (mPa M) 0 (561 * k) 561) (561 * j)) ∧ eInv B (rowA (va_cpy (mSt M) (mPa M) 0 (561 * k) 561) (561 * j))
      by_cases e7 : j = k
      · subst e7
        rw [show ((x + 1) % 8 + 8 - (j + 1) + j) % 8 = x by omega, q1]
        exact ⟨hw.cong a2.2.1 (cpy _ _), a2.cong (cpy _ _)⟩
      · rw [show ((x + 1) % 8 + 8 - (k + 1) + j) % 8 = (x + 8 - k + j) % 8 by omega, q2 _ (by omega) (by omega)]
        obtain ⟨o1, o2⟩ := hj j (by omega)
        have eqr : ∀ i, i < 561 → rowA (va_cpy (mSt M) (mPa M) 0 (561 * k) 561) (561 * j) i = rowA (mPa M) (561 * j) i := by
          intro i hi
          unfold rowA
          rw [pk_cpy_out (by omega)]
        exact ⟨o1.cong o2.2.1 eqr, o2.cong eqr⟩
    · intro i hi
      show upd (fO F) 0 (fO F 0 + 1) i = upd (mAo M) 0 (mAo M 0 + 1) i
      by_cases e : i = 0
      · rw [e, pk_us, pk_us, a5 0 (by omega)]
      · rw [pk_un e, pk_un e]
        exact a5 i hi
