/-! the text: bytes, tokens -/
theorem bv_by (b : BitVec 32) (s : Nat) (hs : s + 8 ≤ 32) : (b >>> s) &&& 255#32 = (b.sshiftRight s) &&& 255#32 := by
  apply BitVec.eq_of_getLsbD_eq
  intro i hi
  rw [BitVec.getLsbD_and, BitVec.getLsbD_and]
  by_cases h : i < 8
  · rw [BitVec.getLsbD_ushiftRight, BitVec.getLsbD_sshiftRight]
    have h1 : (decide (32 ≤ i)) = false := decide_eq_false (by omega)
    have h2 : s + i < 32 := by omega
    rw [h1, if_pos h2]
    rfl
  · have : ∀ i, i < 32 → ¬ i < 8 → (255#32).getLsbD i = false := by decide
    rw [this i hi h, Bool.and_false, Bool.and_false]
theorem by_24 (x : Int32) : ((x.toUInt32 >>> ((24 : Int32).toUInt32 &&& Int32.toUInt32 31)).toInt32) &&& 255 = (x >>> ((24 : Int32) &&& 31)) &&& 255 := by
  refine Int32.toBitVec_inj.mp ?_
  rw [Int32.toBitVec_and, Int32.toBitVec_and]
  exact bv_by x.toBitVec 24 (by omega)
theorem by_16 (x : Int32) : ((x.toUInt32 >>> ((16 : Int32).toUInt32 &&& Int32.toUInt32 31)).toInt32) &&& 255 = (x >>> ((16 : Int32) &&& 31)) &&& 255 := by
  refine Int32.toBitVec_inj.mp ?_
  rw [Int32.toBitVec_and, Int32.toBitVec_and]
  exact bv_by x.toBitVec 16 (by omega)
theorem by_8 (x : Int32) : ((x.toUInt32 >>> ((8 : Int32).toUInt32 &&& Int32.toUInt32 31)).toInt32) &&& 255 = (x >>> ((8 : Int32) &&& 31)) &&& 255 := by
  refine Int32.toBitVec_inj.mp ?_
  rw [Int32.toBitVec_and, Int32.toBitVec_and]
  exact bv_by x.toBitVec 8 (by omega)
theorem by_0 (x : Int32) : ((x.toUInt32 >>> ((0 : Int32).toUInt32 &&& Int32.toUInt32 31)).toInt32) &&& 255 = (x >>> ((0 : Int32) &&& 31)) &&& 255 := by
  refine Int32.toBitVec_inj.mp ?_
  rw [Int32.toBitVec_and, Int32.toBitVec_and]
  exact bv_by x.toBitVec 0 (by omega)
theorem by_rng (x : Int32) : 0 ≤ (x &&& 255).toInt ∧ (x &&& 255).toInt ≤ 255 := by
  have h : (x &&& 255).toBitVec.toNat ≤ 255 := by
    rw [Int32.toBitVec_and, BitVec.toNat_and]
    exact Nat.and_le_right
  have h2 : (x &&& 255).toInt = ((x &&& 255).toBitVec.toNat : Int) := by
    show (x &&& 255).toBitVec.toInt = _
    rw [BitVec.toInt_eq_toNat_of_lt (by omega)]
  omega
/-- all but the parser -/
def eAlp (B : Int) (F : FS) (M : RS) : Prop := eRel (fN F) (mSt M) ∧ eInv B (mSt M) ∧ eHi B F M ∧ eSv B F M ∧ (∀ i, i < 5 → fO F i = mAo M i) ∧ eOu F M
theorem eAlp.all {B : Int} {F : FS} {M : RS} (h : eAlp B F M) (P : ePa (fP F) M) : eAll B F M := ⟨h.1, h.2.1, h.2.2.1, h.2.2.2.1, h.2.2.2.2.1, h.2.2.2.2.2, P⟩
theorem eAll.alp {B : Int} {F : FS} {M : RS} (h : eAll B F M) : eAlp B F M := ⟨h.1, h.2.1, h.2.2.1, h.2.2.2.1, h.2.2.2.2.1, h.2.2.2.2.2.1⟩
theorem eAlp.P {B : Int} {F : FS} {M : RS} (h : eAlp B F M) (p : PS) : eAlp B (gP F p) M := ⟨h.1, h.2.1, h.2.2.1, h.2.2.2.1, h.2.2.2.2.1, h.2.2.2.2.2⟩
theorem eAlp.Tx {B : Int} {F : FS} {M : RS} (h : eAlp B F M) (i : Nat) (x : Int32) : eAlp B F (nTx M i x) := ⟨h.1, h.2.1, h.2.2.1, h.2.2.2.1, h.2.2.2.2.1, h.2.2.2.2.2⟩
theorem eAlp.Tl {B : Int} {F : FS} {M : RS} (h : eAlp B F M) (x : Int32) : eAlp B F (nTl M x) := ⟨h.1, h.2.1, h.2.2.1, h.2.2.2.1, h.2.2.2.2.1, h.2.2.2.2.2⟩
theorem eAlp.Th {B : Int} {F : FS} {M : RS} (h : eAlp B F M) (x : Int32) : eAlp B F (nTh M x) := ⟨h.1, h.2.1, h.2.2.1, h.2.2.2.1, h.2.2.2.2.1, h.2.2.2.2.2⟩
theorem fP_P (F : FS) (p : PS) : fP (gP F p) = p := rfl
theorem gP_P (F : FS) (p q : PS) : gP (gP F p) q = gP F q := rfl
theorem pLe_By (p : PS) (i : Nat) (x : Int32) : pLe (tBy p i x) = pLe p := rfl
theorem mTl_Tx (M : RS) (i : Nat) (x : Int32) : mTl (nTx M i x) = mTl M := rfl
theorem sb_add1 {p : PS} {n : Nat} (hn : n < 500) (h : pLe p = nI n) (x : Int32) : fX6_addByte x p = some (tLe (tBy p n x) (nI (n + 1))) := by
  have hI := qa_nI (n := n) (by omega)
  have v : (500 : Int32).toInt = 500 := by decide
  unfold fX6_addByte fX6_addByte_b0
  rw [pLe_By, h, if_neg (by rw [qa_lt, qa_0]; omega), if_neg (by rw [qa_le, v]; omega), qa_gi (by omega) (by omega), qa_ix hI, nI_1]
/-- the texts alike, n bytes long -/
def pRn (p : PS) (M : RS) (n : Nat) : Prop := n ≤ 500 ∧ pLe p = nI n ∧ mTl M = nI n ∧ ∀ i, i < n → pBy p i = mTx M i ∧ 0 ≤ (mTx M i).toInt ∧ (mTx M i).toInt ≤ 255
theorem pRn.add {p : PS} {M : RS} {n : Nat} (h : pRn p M n) (hn : n < 500) {y : Int32} (y0 : 0 ≤ y.toInt) (y1 : y.toInt ≤ 255) : pRn (tLe (tBy p n y) (nI (n + 1))) (nTl (nTx M n y) (nI (n + 1))) (n + 1) := by
  obtain ⟨h1, h2, h3, h4⟩ := h
  refine ⟨by omega, rfl, rfl, fun i hi => ?_⟩
  show upd (pBy p) n y i = upd (mTx M) n y i ∧ 0 ≤ (upd (mTx M) n y i).toInt ∧ (upd (mTx M) n y i).toInt ≤ 255
  by_cases e : i = n
  · rw [e, pk_us, pk_us]
    exact ⟨rfl, y0, y1⟩
  · rw [pk_un e, pk_un e]
    exact h4 i (by omega)
def shv (j : Nat) : Int32 := if j = 0 then 24 else if j = 1 then 16 else if j = 2 then 8 else if j = 3 then 0 else (-8)
theorem c_appendText {B : Int} {F : FS} {M : RS} (A : eAll B F M) (x : Int32) : eC1 B xIS (fX9_appendText x F) (fX10_appendText x M) := by
  obtain ⟨⟨n, n1, n2, n3, n4⟩, P2, P3⟩ := A.2.2.2.2.2.2
  have hI := qa_nI (n := n) (by omega)
  have v : (500 : Int32).toInt = 500 := by decide
  have e4 : (nI n + 4).toInt = (n : Int) + 4 := by rw [qa_add (by rw [hI, qa_4]; omega) (by rw [hI, qa_4]; omega), hI, qa_4]
  have n3' : mTl (nTh M 0) = nI n := n3
  unfold fX9_appendText fX9_appendText_b0 fX10_appendText fX10_appendText_b0
  rw [n2, n3']
  by_cases q : n + 4 ≤ 500
  · rw [if_pos (by rw [qa_le, e4, v]; omega), if_pos (by rw [qa_le, e4, v]; omega)]
    refine qa_lrel (fun j (s : Int32 × Int32 × FS) (t : Int32 × Int32 × RS) => ∃ (p : PS) (M' : RS), s = (x, shv j, gP F p) ∧ t = (x, shv j, M') ∧ eAlp B (gP F p) M' ∧ pRn p M' (n + j) ∧ pEc p = mEc M' ∧ pEp p = mEp M' ∧ mTh M' = 0) (fun a b => eC1 B xIS a b) 4 ?_ 5000 5000 0 (x, 24, F) (x, 24, nTh M 0) ⟨fP F, nTh M 0, ?_, rfl, (A.alp.P (fP F)).Th 0, ⟨n1, n2, n3, n4⟩, P2, P3, rfl⟩ (by omega) (by omega) (by omega)
    · intro j s t k l hj hI' hk
      obtain ⟨p, M', e1, e2, a1, a2, a3, a4, a5⟩ := hI'
      subst e1 e2
      show eC1 B xIS (fX9_appendText_b28 k x (shv j) (gP F p)) (fX10_appendText_b26 l x (shv j) M')
      unfold fX9_appendText_b28 fX10_appendText_b26
      have hnj := qa_nI (n := n + j) (by omega)
      by_cases j4 : j = 4
      · subst j4
        rw [if_pos (show shv 4 < 0 by decide), if_pos (show shv 4 < 0 by decide), fP_P, a2.2.1, a2.2.2.1]
        exact ⟨.inr (nI (n + 4)), gP F p, nI (n + 4), M', rfl, rfl, a1.all ⟨⟨n + 4, a2⟩, a3, a4⟩, Or.inr ⟨rfl, a5⟩⟩
      · have step : ∀ y : Int32, 0 ≤ y.toInt → y.toInt ≤ 255 → ∀ s', s' = shv (j + 1) → eC1 B xIS (bnd (fX6_addByte y (fP (gP F p))) (fun u43 => k (x, s', gP (gP F p) u43))) (grd (inb (mTl M') 500) (l (x, s', nTl (nTx M' (ix (mTl M')) y) (mTl (nTx M' (ix (mTl M')) y) + 1)))) := by
          intro y y0 y1 s' es
          rw [fP_P, sb_add1 (by omega) a2.2.1, qa_b, mTl_Tx, a2.2.2.1, qa_gi (by omega) (by omega), qa_ix hnj, nI_1, gP_P, es]
          refine hk _ _ (by omega) ⟨tLe (tBy p (n + j) y) (nI (n + j + 1)), nTl (nTx M' (n + j) y) (nI (n + j + 1)), rfl, rfl, ?_, a2.add (by omega) y0 y1, a3, a4, a5⟩
          have := ((a1.P (tLe (tBy p (n + j) y) (nI (n + j + 1)))).Tx (n + j) y).Tl (nI (n + j + 1))
          exact this
        have cs : j = 0 ∨ j = 1 ∨ j = 2 ∨ j = 3 := by omega
        rcases cs with e | e | e | e <;> subst e
        · rw [if_neg (show ¬ shv 0 < 0 by decide), if_neg (show ¬ shv 0 < 0 by decide), show shv 0 = 24 from rfl, by_24]
          exact step _ (by_rng _).1 (by_rng _).2 _ (by decide)
        · rw [if_neg (show ¬ shv 1 < 0 by decide), if_neg (show ¬ shv 1 < 0 by decide), show shv 1 = 16 from rfl, by_16]
          exact step _ (by_rng _).1 (by_rng _).2 _ (by decide)
        · rw [if_neg (show ¬ shv 2 < 0 by decide), if_neg (show ¬ shv 2 < 0 by decide), show shv 2 = 8 from rfl, by_8]
          exact step _ (by_rng _).1 (by_rng _).2 _ (by decide)
        · rw [if_neg (show ¬ shv 3 < 0 by decide), if_neg (show ¬ shv 3 < 0 by decide), show shv 3 = 0 from rfl, by_0]
          exact step _ (by_rng _).1 (by_rng _).2 _ (by decide)
    · obtain ⟨b1, b2, b3, b4, b5, b6, b7, b8, b9, b10, b11, b12, b13, b14, b15, b16, b17, b18, b19⟩ := F
      rfl
  · rw [if_neg (by rw [qa_le, e4, v]; omega), if_neg (by rw [qa_le, e4, v]; omega)]
    exact ⟨_, _, _, _, rfl, rfl, A, Or.inl ⟨rfl, rfl⟩⟩
theorem c_truncateText {B : Int} {F : FS} {M : RS} (A : eAll B F M) (x : Int32) : eC1 B xIA (fX9_truncateText x F) (fX10_truncateText x M) := by
  obtain ⟨⟨n, n1, n2, n3, n4⟩, P2, P3⟩ := A.2.2.2.2.2.2
  have hI := qa_nI (n := n) (by omega)
  have n3' : mTl (nTh M 0) = nI n := n3
  unfold fX9_truncateText fX9_truncateText_b0 fX9_truncateText_b15 fX10_truncateText fX10_truncateText_b0
  rw [n2, n3']
  by_cases h0 : x.toInt < 0
  · rw [if_pos (by rw [qa_lt, qa_0]; exact h0), bt_0 (by rw [qa_0]; omega), qa_b, if_pos (rfl : (0 : Int32) = 0)]
    exact ⟨_, _, _, _, rfl, rfl, A, Or.inl ⟨rfl, rfl⟩⟩
  rw [if_neg (by rw [qa_lt, qa_0]; exact h0)]
  by_cases h1 : x.toInt ≤ n
  · have hx := qa_ixI (i := x) (by omega)
    have ex : x = nI (ix x) := (qa_nIx (by omega)).symm
    rw [if_pos (by rw [qa_le, hI]; exact h1), bt_1 (by rw [qa_0]; omega) (by rw [hI]; omega), qa_b, if_neg n10]
    refine ⟨_, _, _, _, rfl, rfl, ((A.alp.P (tLe (fP F) x)).Th 0 |>.Tl x).all ⟨⟨ix x, by omega, ex, ex, fun i hi => n4 i (by omega)⟩, P2, P3⟩, Or.inr ⟨rfl, rfl⟩⟩
  · rw [if_neg (by rw [qa_le, hI]; exact h1), bt_0 (by rw [hI]; omega), qa_b, if_pos (rfl : (0 : Int32) = 0)]
    exact ⟨_, _, _, _, rfl, rfl, A, Or.inl ⟨rfl, rfl⟩⟩
