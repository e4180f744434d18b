/-! a script's commands: both parsers -/
theorem uq_s (f : Nat → Int32) (i : Nat) (x : Int32) : upd f i x i = x := if_pos rfl
theorem uq_o (f : Nat → Int32) {i j : Nat} (x : Int32) (h : j ≠ i) : upd f i x j = f j := if_neg h
/-- what the parser leaves alone outside of itself -/
def eFo (M M' : RS) : Prop := mSt M' = mSt M ∧ mAs M' = mAs M ∧ mTr M' = mTr M ∧ mPa M' = mPa M ∧ mSa M' = mSa M ∧ mIs M' = mIs M ∧ mAo M' = mAo M ∧ mOu M' = mOu M ∧ mAc M' = mAc M ∧ mTh M' = mTh M ∧ mOl M' = mOl M
theorem eFo.refl (M : RS) : eFo M M := ⟨rfl, rfl, rfl, rfl, rfl, rfl, rfl, rfl, rfl, rfl, rfl⟩
theorem eFo.trans {M M1 M2 : RS} (h : eFo M M1) (k : eFo M1 M2) : eFo M M2 := by
  obtain ⟨a1, a2, a3, a4, a5, a6, a7, a8, a9, a10, a11⟩ := h
  obtain ⟨b1, b2, b3, b4, b5, b6, b7, b8, b9, b10, b11⟩ := k
  exact ⟨b1.trans a1, b2.trans a2, b3.trans a3, b4.trans a4, b5.trans a5, b6.trans a6, b7.trans a7, b8.trans a8, b9.trans a9, b10.trans a10, b11.trans a11⟩
theorem eFp.o {p p' : PS} {M M' : RS} (f : eFp p p' M M') : eFo M M' := by
  obtain ⟨_, b1, b2, b3, b4, b5, b6, b7, b8, b9, b10, b11, b12, b13, b14, b15, b16, b17⟩ := f
  exact ⟨b1, b2, b3, b4, b5, b6, b7, b10, b11, b12, b17⟩
theorem eFp.co {p p' : PS} {M M' : RS} (f : eFp p p' M M') : mCo M' = mCo M := f.2.2.2.2.2.2.2.2.2.1
theorem eFp.cc {p p' : PS} {M M' : RS} (f : eFp p p' M M') : mCc M' = mCc M := f.2.2.2.2.2.2.2.2.2.2.2.2.2.1
theorem eFp.po {p p' : PS} {M M' : RS} (f : eFp p p' M M') : pCo p' = pCo p := f.1.2.2.1
theorem eFp.pc {p p' : PS} {M M' : RS} (f : eFp p p' M M') : pCc p' = pCc p := f.1.2.2.2.1
theorem eAlp.fo {B : Int} {F : FS} {M M' : RS} (A : eAlp B F M) (h : eFo M M') : eAlp B F M' := by
  obtain ⟨a1, a2, a3, a4, a5, a6, a7, a8, a9, a10, a11⟩ := h
  unfold eAlp eHi eSv eOu at A ⊢
  rw [a1, a4, a5, a6, a7, a8, a9, a11]
  exact A
theorem pRl.cgM {p : PS} {M M' : RS} {n : Nat} (L : pRl p M n) (h1 : mTl M' = mTl M) (h2 : mTx M' = mTx M) (h3 : mEc M' = mEc M) (h4 : mEp M' = mEp M) (h5 : mTs M' = mTs M) (h6 : mPo M' = mPo M) (h7 : mTo M' = mTo M) (h8 : mNu M' = mNu M) : pRl p M' n := by
  unfold pRl pRn pTk at L ⊢
  rw [h1, h2, h3, h4, h5, h6, h7, h8]
  exact L
theorem pRl.cgP {p p' : PS} {M : RS} {n : Nat} (L : pRl p M n) (h1 : pBy p' = pBy p) (h2 : pLe p' = pLe p) (h3 : pEc p' = pEc p) (h4 : pEp p' = pEp p) (h5 : pSt p' = pSt p) (h6 : pEn p' = pEn p) (h7 : pTy p' = pTy p) : pRl p' M n := by
  unfold pRl pRn pTk at L ⊢
  rw [h1, h2, h3, h4, h5, h6, h7]
  exact L
/-- a command's cell in the reference -/
theorem put_sim {p : PS} {M : RS} {n c : Nat} (L : pRl p M n) (hc : mCc M = nI c) (h40 : c < 40) {j : Nat} (hj : j ≤ 3) {x : Int32} (hx : x = nI j) (v : Int32) : ∃ M', fX10_put x v M = some M' ∧ pRl p M' n ∧ eFo M M' ∧ mCc M' = nI c ∧ mCo M' = (if pEc p = 0 then upd (mCo M) (4 * c + j) v else mCo M) := by
  subst hx
  unfold fX10_put fX10_put_b0
  rw [rb_fine, qa_b]
  by_cases h0 : pEc p = 0
  · have hm : mEc M = 0 := by rw [← L.2.1]; exact h0
    have hC := qa_nI (n := c) (by omega)
    have hJ := qa_nI (n := j) (by omega)
    have ei : (4 * mCc M + nI j).toInt = ((4 * c + j : Nat) : Int) := by
      rw [hc, qa_add, qa_mul, hC, hJ, qa_4]
      · omega
      · rw [hC, qa_4]; omega
      · rw [hC, qa_4]; omega
      · rw [qa_mul, hC, hJ, qa_4]
        · omega
        · rw [hC, qa_4]; omega
        · rw [hC, qa_4]; omega
      · rw [qa_mul, hC, hJ, qa_4]
        · omega
        · rw [hC, qa_4]; omega
        · rw [hC, qa_4]; omega
    rw [if_pos hm, if_neg n10, qa_gi (by omega) (by omega), qa_ix ei, if_pos h0]
    exact ⟨nCo M (4 * c + j) v, rfl, L.cgM rfl rfl rfl rfl rfl rfl rfl rfl, ⟨rfl, rfl, rfl, rfl, rfl, rfl, rfl, rfl, rfl, rfl, rfl⟩, hc, rfl⟩
  · have hm : ¬ mEc M = 0 := by rw [← L.2.1]; exact h0
    rw [if_neg hm, if_pos (rfl : (0 : Int32) = 0), if_neg h0]
    exact ⟨M, rfl, L, eFo.refl M, hc, rfl⟩
/-- a command's four cells in the class -/
theorem ad_c {p : PS} {c : Nat} (hc : pCc p = nI c) (h40 : c < 40) (k a1 a2 a3 : Int32) : ∃ p', fX6_addCommand k a1 a2 a3 p = some p' ∧ (pBy p' = pBy p ∧ pLe p' = pLe p ∧ pEc p' = pEc p ∧ pEp p' = pEp p ∧ pSt p' = pSt p ∧ pEn p' = pEn p ∧ pTy p' = pTy p) ∧ pCc p' = nI (c + 1) ∧ pCo p' = upd (upd (upd (upd (pCo p) (4 * c) k) (4 * c + 1) a1) (4 * c + 2) a2) (4 * c + 3) a3 := by
  have hC := qa_nI (n := c) (by omega)
  have e0 : (nI c * 4).toInt = ((4 * c : Nat) : Int) := by
    rw [qa_mul, hC, qa_4]
    · omega
    · rw [hC, qa_4]; omega
    · rw [hC, qa_4]; omega
  have e1 : ∀ (j : Nat), j ≤ 4 → (nI c * 4 + nI j).toInt = ((4 * c + j : Nat) : Int) := by
    intro j hj
    have hJ := qa_nI (n := j) (by omega)
    rw [qa_add, e0, hJ]
    · omega
    · rw [e0, hJ]; omega
    · rw [e0, hJ]; omega
  have f0 := e1 0 (by omega)
  have f1 := e1 1 (by omega)
  have f2 := e1 2 (by omega)
  have f3 := e1 3 (by omega)
  have f4 := e1 4 (by omega)
  rw [show nI 0 = 0 from rfl] at f0
  rw [show nI 1 = 1 from rfl] at f1
  rw [show nI 2 = 2 from rfl] at f2
  rw [show nI 3 = 3 from rfl] at f3
  rw [show nI 4 = 4 from rfl] at f4
  unfold fX6_addCommand fX6_addCommand_b0
  rw [hc, if_neg (by rw [qa_lt, e0, qa_0]; omega), if_pos (by rw [qa_le, f4, show (160 : Int32).toInt = 160 by decide]; omega), qa_gi (by omega) (by omega), qa_gi (by omega) (by omega), qa_gi (by omega) (by omega), qa_gi (by omega) (by omega), qa_ix f0, qa_ix f1, qa_ix f2, qa_ix f3]
  have ecc : pCc (tCo (tCo (tCo (tCo p (4 * c + 0) k) (4 * c + 1) a1) (4 * c + 2) a2) (4 * c + 3) a3) = nI c := by
    dsimp only [tCo, pCc]
    exact hc
  rw [ecc, nI_1]
  refine ⟨_, rfl, ?_, ?_, ?_⟩
  · dsimp only [tCc, tCo, pBy, pLe, pEc, pEp, pSt, pEn, pTy]
    exact ⟨rfl, rfl, rfl, rfl, rfl, rfl, rfl⟩
  · dsimp only [tCc, tCo, pCc]
  · dsimp only [tCc, tCo, pCo]
    rfl
/-- a command as both keep it -/
def eRow (k a1 a2 a3 b1 b2 b3 : Int32) : Prop :=
  (k = 0 ∧ b1 = a1 ∧ 1 ≤ a1.toInt ∧ a1.toInt ≤ 50) ∨ (k = 1 ∧ b1 = a1 ∧ b2 = a2 ∧ 0 ≤ a1.toInt ∧ a1.toInt ≤ 3 ∧ 1 ≤ a2.toInt ∧ a2.toInt ≤ 999) ∨ (k = 2 ∧ b1 = a1) ∨ (k = 3 ∧ b1 = a1) ∨
  (k = 4 ∧ b1 = a1 ∧ 0 ≤ a1.toInt ∧ a1.toInt ≤ 2) ∨ (k = 5 ∧ b1 = a1 ∧ (a1 = 0 ∨ a1 = 1)) ∨ (k = 6 ∧ b1 = a1 ∧ -20 ≤ a1.toInt ∧ a1.toInt ≤ 20) ∨
  (k = 7 ∧ b1 = a1 ∧ b2 = a2 ∧ b3 = a3 ∧ 1 ≤ a1.toInt ∧ a1.toInt ≤ 20 ∧ 0 ≤ a2.toInt ∧ a2.toInt ≤ 50 ∧ 0 ≤ a3.toInt ∧ a3.toInt ≤ 20) ∨
  (k = 8 ∧ b1 = a1 ∧ b2 = a2 ∧ 1 ≤ a1.toInt ∧ a1.toInt ≤ 20 ∧ 1 ≤ a2.toInt ∧ a2.toInt ≤ 50)
/-- a command's arguments, read -/
def pFin (p p' : PS) (M M' : RS) (n c : Nat) (k : Int32) : Prop := pRl p' M' n ∧ eFo M M' ∧ mCc M' = nI c ∧ (pEc p' = 0 → (pSt p).toInt ≤ (pSt p').toInt ∧ pCc p' = nI (c + 1) ∧ (∀ i, i < 4 * c → pCo p' i = pCo p i) ∧ (∀ i, i < 4 * c + 1 → mCo M' i = mCo M i) ∧ pCo p' (4 * c) = k ∧
  eRow k (pCo p' (4 * c + 1)) (pCo p' (4 * c + 2)) (pCo p' (4 * c + 3)) (mCo M' (4 * c + 1)) (mCo M' (4 * c + 2)) (mCo M' (4 * c + 3)))
theorem pf_sim {p p2 : PS} {M M2 : RS} {n c : Nat} {k a1 a2 a3 : Int32} (L2 : pRl p2 M2 n) (hp : pCo p2 = pCo p) (hcc : pCc p2 = nI c) (h40 : c < 40) (O : eFo M M2) (C : mCc M2 = nI c)
    (E : pEc p2 = 0 → (pSt p).toInt ≤ (pSt p2).toInt ∧ (∀ i, i < 4 * c + 1 → mCo M2 i = mCo M i) ∧ eRow k a1 a2 a3 (mCo M2 (4 * c + 1)) (mCo M2 (4 * c + 2)) (mCo M2 (4 * c + 3))) : ∃ p', fX6_readParts_b193 k a1 a2 a3 p2 = some p' ∧ pFin p p' M M2 n c k := by
  obtain ⟨p', e1, ⟨f1, f2, f3, f4, f5, f6, f7⟩, e2, e3⟩ := ad_c hcc h40 k a1 a2 a3
  unfold fX6_readParts_b193
  rw [e1, qa_b]
  refine ⟨p', rfl, L2.cgP f1 f2 f3 f4 f5 f6 f7, O, C, fun h => ?_⟩
  obtain ⟨g1, g2, g3⟩ := E (f3.symm.trans h)
  have c0 : pCo p' (4 * c) = k := by
    rw [e3, uq_o _ _ (by omega), uq_o _ _ (by omega), uq_o _ _ (by omega), uq_s]
  have c1 : pCo p' (4 * c + 1) = a1 := by
    rw [e3, uq_o _ _ (by omega), uq_o _ _ (by omega), uq_s]
  have c2 : pCo p' (4 * c + 2) = a2 := by
    rw [e3, uq_o _ _ (by omega), uq_s]
  have c3 : pCo p' (4 * c + 3) = a3 := by
    rw [e3, uq_s]
  refine ⟨by rw [f5]; exact g1, e2, fun i hi => ?_, g2, c0, ?_⟩
  · rw [e3, uq_o _ _ (by omega), uq_o _ _ (by omega), uq_o _ _ (by omega), uq_o _ _ (by omega), hp]
  · rw [c1, c2, c3]
    exact g3
/-- what stands so far of a command's arguments -/
def pAr (p p' : PS) (M M' : RS) (n c : Nat) : Prop := pRl p' M' n ∧ eFo M M' ∧ mCc M' = nI c ∧ pCo p' = pCo p ∧ pCc p' = nI c ∧ (pEc p' = 0 → pEc p = 0 ∧ (pSt p).toInt ≤ (pSt p').toInt ∧ ∀ i, i < 4 * c + 1 → mCo M' i = mCo M i)
theorem pAr.step {p p1 p2 : PS} {M M1 M2 : RS} {n c : Nat} (h : pAr p p1 M M1 n c) (S : pSp p1 p2 M1 M2 n) : pAr p p2 M M2 n c :=
  ⟨S.1, h.2.1.trans S.2.1.o, S.2.1.cc.trans h.2.2.1, S.2.1.po.trans h.2.2.2.1, S.2.1.pc.trans h.2.2.2.2.1, fun z => ⟨(h.2.2.2.2.2 (S.2.2 z).1).1, Int.le_trans (h.2.2.2.2.2 (S.2.2 z).1).2.1 (S.2.2 z).2, fun i hi => by rw [S.2.1.co]; exact (h.2.2.2.2.2 (S.2.2 z).1).2.2 i hi⟩⟩
theorem pAr.put {p p1 : PS} {M M1 : RS} {n c : Nat} (h : pAr p p1 M M1 n c) (h40 : c < 40) {j : Nat} (j1 : 1 ≤ j) (hj : j ≤ 3) {x : Int32} (hx : x = nI j) (v : Int32) : ∃ M2, fX10_put x v M1 = some M2 ∧ pAr p p1 M M2 n c ∧ (pEc p1 = 0 → mCo M2 = upd (mCo M1) (4 * c + j) v) := by
  obtain ⟨M2, e1, e2, e3, e4, e5⟩ := put_sim h.1 h.2.2.1 h40 hj hx v
  refine ⟨M2, e1, ⟨e2, h.2.1.trans e3, e4, h.2.2.2.1, h.2.2.2.2.1, fun z => ⟨(h.2.2.2.2.2 z).1, (h.2.2.2.2.2 z).2.1, fun i hi => ?_⟩⟩, fun z => by rw [e5, if_pos z]⟩
  rw [e5, if_pos z, uq_o _ _ (by omega)]
  exact (h.2.2.2.2.2 z).2.2 i hi
theorem pAr.fin {p p2 : PS} {M M2 : RS} {n c : Nat} (h : pAr p p2 M M2 n c) (h40 : c < 40) {k a1 a2 a3 : Int32} (E : pEc p2 = 0 → eRow k a1 a2 a3 (mCo M2 (4 * c + 1)) (mCo M2 (4 * c + 2)) (mCo M2 (4 * c + 3))) : ∃ p', fX6_readParts_b193 k a1 a2 a3 p2 = some p' ∧ pFin p p' M M2 n c k :=
  pf_sim h.1 h.2.2.2.1 h.2.2.2.2.1 h40 h.2.1 h.2.2.1 fun z => ⟨(h.2.2.2.2.2 z).2.1, (h.2.2.2.2.2 z).2.2, E z⟩
/-- one number -/
theorem ag_1 {p : PS} {M : RS} {n c : Nat} (L : pAr p p M M n c) (h40 : c < 40) {lo hi k : Int32} (b0 : 0 ≤ lo.toInt) (b1 : lo.toInt ≤ hi.toInt) (b2 : hi.toInt ≤ 99999) (E : ∀ r r2 r3 : Int32, lo.toInt ≤ r.toInt → r.toInt ≤ hi.toInt → eRow k r 0 0 r r2 r3) :
    ∃ p' M', bnd2 (fX6_readNumber lo hi p) (fun r u => fX6_readParts_b193 k r 0 0 u) = some p' ∧ bnd2 (fX10_parseNumber lo hi M) (fun r u => bnd (fX10_put 1 r u) (fun u3 => some u3)) = some M' ∧ pFin p p' M M' n c k := by
  obtain ⟨r, r', p1, M1, e1, e2, e3, e4, e5, e6⟩ := rn_sim L.1 b0 b1 b2
  obtain ⟨M2, f1, f2, f3⟩ := (L.step e3).put h40 (j := 1) (by omega) (by omega) (rfl : (1 : Int32) = nI 1) r'
  obtain ⟨p', g1, g2⟩ := f2.fin h40 (k := k) (a1 := r) (a2 := 0) (a3 := 0) (fun z => by
    rw [f3 z, uq_s, ← e6 z]
    exact E r _ _ e4.1 e4.2)
  rw [e1, e2, qa_b2, qa_b2, g1, f1, qa_b]
  exact ⟨p', M2, rfl, rfl, g2⟩
theorem pTk.ty2 {p : PS} {M : RS} {n a e : Nat} (k : pTk p M n a e) : pTy p = 2 ↔ mTo M = 2 := by
  rcases k.2.2.2.2.2.2 with h | h | h | h | h | h
  · exact ⟨fun z => absurd (h.2.1.symm.trans z) (by decide), fun z => absurd (h.2.2.symm.trans z) (by decide)⟩
  · exact ⟨fun z => absurd (h.2.1.symm.trans z) (by decide), fun z => absurd (h.2.2.symm.trans z) (by decide)⟩
  · exact ⟨fun _ => h.2.2.1, fun _ => h.2.1⟩
  · exact ⟨fun z => absurd (h.2.1.symm.trans z) (by decide), fun z => absurd (h.2.2.symm.trans z) (by decide)⟩
  · exact ⟨fun z => absurd (h.2.1.symm.trans z) (by decide), fun z => absurd (h.2.2.symm.trans z) (by decide)⟩
  · exact ⟨fun z => absurd (h.2.1.symm.trans z) (by decide), fun z => absurd (h.2.2.symm.trans z) (by decide)⟩
theorem pTk.ty0 {p : PS} {M : RS} {n a e : Nat} (k : pTk p M n a e) : pTy p = 0 ↔ mTo M = 0 := by
  rcases k.2.2.2.2.2.2 with h | h | h | h | h | h
  · exact ⟨fun _ => h.2.2, fun _ => h.2.1⟩
  · exact ⟨fun z => absurd (h.2.1.symm.trans z) (by decide), fun z => absurd (h.2.2.symm.trans z) (by decide)⟩
  · exact ⟨fun z => absurd (h.2.1.symm.trans z) (by decide), fun z => absurd (h.2.2.1.symm.trans z) (by decide)⟩
  · exact ⟨fun z => absurd (h.2.1.symm.trans z) (by decide), fun z => absurd (h.2.2.symm.trans z) (by decide)⟩
  · exact ⟨fun z => absurd (h.2.1.symm.trans z) (by decide), fun z => absurd (h.2.2.symm.trans z) (by decide)⟩
  · exact ⟨fun z => absurd (h.2.1.symm.trans z) (by decide), fun z => absurd (h.2.2.symm.trans z) (by decide)⟩
theorem cp_0 (p : PS) : fX6_readParts 0 p = (if pTy p = 2 then bnd2 (fX6_readNumber 1 50 p) (fun r u => fX6_readParts_b193 0 r 0 0 u) else fX6_readParts_b193 0 1 0 0 p) := by
  unfold fX6_readParts fX6_readParts_b0
  rw [if_pos (rfl : (0 : Int32) = 0)]
  rfl
theorem rp_0 (M : RS) : fX10_parseArguments 0 M = (if mTo M = 2 then bnd2 (fX10_parseNumber 1 50 M) (fun r u => bnd (fX10_put 1 r u) (fun u3 => some u3)) else bnd (fX10_put 1 1 M) (fun u3 => some u3)) := by
  unfold fX10_parseArguments fX10_parseArguments_b0
  rw [if_pos (rfl : (0 : Int32) = 0)]
  rfl
theorem cp_1 (p : PS) : fX6_readParts 1 p = bnd2 (fX6_readNumber 0 3 p) (fun r u => bnd2 (fX6_readNumber 1 999 u) (fun r2 u2 => fX6_readParts_b193 1 r r2 0 u2)) := by
  unfold fX6_readParts fX6_readParts_b0
  rw [if_neg (by decide : ¬ (1 : Int32) = 0), if_pos (rfl : (1 : Int32) = 1)]
theorem rp_1 (M : RS) : fX10_parseArguments 1 M = bnd2 (fX10_parseNumber 0 3 M) (fun r u => bnd (fX10_put 1 r u) (fun u1 => bnd2 (fX10_parseNumber 1 999 u1) (fun r2 u2 => bnd (fX10_put 2 r2 u2) (fun u3 => some u3)))) := by
  unfold fX10_parseArguments fX10_parseArguments_b0
  rw [if_neg (by decide : ¬ (1 : Int32) = 0), if_pos (rfl : (1 : Int32) = 1)]
theorem cp_2 (p : PS) : fX6_readParts 2 p = bnd2 (fX6_readNumber 0 59 p) (fun r u => fX6_readParts_b193 2 r 0 0 u) := by
  unfold fX6_readParts fX6_readParts_b0
  rw [if_neg (by decide : ¬ (2 : Int32) = 0), if_neg (by decide : ¬ (2 : Int32) = 1), if_pos (rfl : (2 : Int32) = 2)]
theorem rp_2 (M : RS) : fX10_parseArguments 2 M = bnd2 (fX10_parseNumber 0 59 M) (fun r u => bnd (fX10_put 1 r u) (fun u3 => some u3)) := by
  unfold fX10_parseArguments fX10_parseArguments_b0
  rw [if_neg (by decide : ¬ (2 : Int32) = 0), if_neg (by decide : ¬ (2 : Int32) = 1), if_pos (rfl : (2 : Int32) = 2)]
theorem cp_3 (p : PS) : fX6_readParts 3 p = bnd2 (fX6_readNumber 0 59 p) (fun r u => fX6_readParts_b193 3 r 0 0 u) := by
  unfold fX6_readParts fX6_readParts_b0
  rw [if_neg (by decide : ¬ (3 : Int32) = 0), if_neg (by decide : ¬ (3 : Int32) = 1), if_neg (by decide : ¬ (3 : Int32) = 2), if_pos (rfl : (3 : Int32) = 3)]
theorem rp_3 (M : RS) : fX10_parseArguments 3 M = bnd2 (fX10_parseNumber 0 59 M) (fun r u => bnd (fX10_put 1 r u) (fun u3 => some u3)) := by
  unfold fX10_parseArguments fX10_parseArguments_b0
  rw [if_neg (by decide : ¬ (3 : Int32) = 0), if_neg (by decide : ¬ (3 : Int32) = 1), if_neg (by decide : ¬ (3 : Int32) = 2), if_pos (rfl : (3 : Int32) = 3)]
theorem cp_4 (p : PS) : fX6_readParts 4 p = bnd2 (fX6_readNumber 0 2 p) (fun r u => fX6_readParts_b193 4 r 0 0 u) := by
  unfold fX6_readParts fX6_readParts_b0
  rw [if_neg (by decide : ¬ (4 : Int32) = 0), if_neg (by decide : ¬ (4 : Int32) = 1), if_neg (by decide : ¬ (4 : Int32) = 2), if_neg (by decide : ¬ (4 : Int32) = 3), if_pos (rfl : (4 : Int32) = 4)]
theorem rp_4 (M : RS) : fX10_parseArguments 4 M = bnd2 (fX10_parseNumber 0 2 M) (fun r u => bnd (fX10_put 1 r u) (fun u3 => some u3)) := by
  unfold fX10_parseArguments fX10_parseArguments_b0
  rw [if_neg (by decide : ¬ (4 : Int32) = 0), if_neg (by decide : ¬ (4 : Int32) = 1), if_neg (by decide : ¬ (4 : Int32) = 2), if_neg (by decide : ¬ (4 : Int32) = 3), if_pos (rfl : (4 : Int32) = 4)]
theorem cp_5 (p : PS) : fX6_readParts 5 p = bnd2 (fX6_readGate p) (fun r u => fX6_readParts_b193 5 r 0 0 u) := by
  unfold fX6_readParts fX6_readParts_b0
  rw [if_neg (by decide : ¬ (5 : Int32) = 0), if_neg (by decide : ¬ (5 : Int32) = 1), if_neg (by decide : ¬ (5 : Int32) = 2), if_neg (by decide : ¬ (5 : Int32) = 3), if_neg (by decide : ¬ (5 : Int32) = 4), if_pos (rfl : (5 : Int32) = 5)]
theorem rp_5 (M : RS) : fX10_parseArguments 5 M = bnd (fX10_parseGate M) (fun u3 => some u3) := by
  unfold fX10_parseArguments fX10_parseArguments_b0
  rw [if_neg (by decide : ¬ (5 : Int32) = 0), if_neg (by decide : ¬ (5 : Int32) = 1), if_neg (by decide : ¬ (5 : Int32) = 2), if_neg (by decide : ¬ (5 : Int32) = 3), if_neg (by decide : ¬ (5 : Int32) = 4), if_pos (rfl : (5 : Int32) = 5)]
theorem cp_6 (p : PS) : fX6_readParts 6 p = bnd2 (fX6_readHeight (-20) 20 p) (fun r u => fX6_readParts_b193 6 r 0 0 u) := by
  unfold fX6_readParts fX6_readParts_b0
  rw [if_neg (by decide : ¬ (6 : Int32) = 0), if_neg (by decide : ¬ (6 : Int32) = 1), if_neg (by decide : ¬ (6 : Int32) = 2), if_neg (by decide : ¬ (6 : Int32) = 3), if_neg (by decide : ¬ (6 : Int32) = 4), if_neg (by decide : ¬ (6 : Int32) = 5), if_pos (rfl : (6 : Int32) = 6)]
theorem rp_6 (M : RS) : fX10_parseArguments 6 M = bnd2 (fX10_parseHeight 20 M) (fun r u => bnd (fX10_put 1 r u) (fun u3 => some u3)) := by
  unfold fX10_parseArguments fX10_parseArguments_b0
  rw [if_neg (by decide : ¬ (6 : Int32) = 0), if_neg (by decide : ¬ (6 : Int32) = 1), if_neg (by decide : ¬ (6 : Int32) = 2), if_neg (by decide : ¬ (6 : Int32) = 3), if_neg (by decide : ¬ (6 : Int32) = 4), if_neg (by decide : ¬ (6 : Int32) = 5), if_pos (rfl : (6 : Int32) = 6)]
theorem cp_7 (p : PS) : fX6_readParts 7 p = bnd2 (fX6_readNumber 1 20 p) (fun r u => bnd2 (fX6_readNumber 0 50 u) (fun r2 u2 => bnd2 (fX6_readNumber 0 20 u2) (fun r3 u3 => fX6_readParts_b193 7 r r2 r3 u3))) := by
  unfold fX6_readParts fX6_readParts_b0
  rw [if_neg (by decide : ¬ (7 : Int32) = 0), if_neg (by decide : ¬ (7 : Int32) = 1), if_neg (by decide : ¬ (7 : Int32) = 2), if_neg (by decide : ¬ (7 : Int32) = 3), if_neg (by decide : ¬ (7 : Int32) = 4), if_neg (by decide : ¬ (7 : Int32) = 5), if_neg (by decide : ¬ (7 : Int32) = 6), if_pos (rfl : (7 : Int32) = 7)]
theorem rp_7 (M : RS) : fX10_parseArguments 7 M = bnd2 (fX10_parseNumber 1 20 M) (fun r u => bnd (fX10_put 1 r u) (fun u1 => bnd2 (fX10_parseNumber 0 50 u1) (fun r2 u2 => bnd (fX10_put 2 r2 u2) (fun u3 => bnd2 (fX10_parseNumber 0 20 u3) (fun r4 u4 => bnd (fX10_put 3 r4 u4) (fun u5 => some u5)))))) := by
  unfold fX10_parseArguments fX10_parseArguments_b0
  rw [if_neg (by decide : ¬ (7 : Int32) = 0), if_neg (by decide : ¬ (7 : Int32) = 1), if_neg (by decide : ¬ (7 : Int32) = 2), if_neg (by decide : ¬ (7 : Int32) = 3), if_neg (by decide : ¬ (7 : Int32) = 4), if_neg (by decide : ¬ (7 : Int32) = 5), if_neg (by decide : ¬ (7 : Int32) = 6), if_pos (rfl : (7 : Int32) = 7)]
theorem cp_8 (p : PS) : fX6_readParts 8 p = bnd2 (fX6_readNumber 1 20 p) (fun r u => bnd (fX6_readWord 31 u) (fun u1 => bnd2 (fX6_readNumber 1 50 u1) (fun r2 u2 => fX6_readParts_b193 8 r r2 0 u2))) := by
  unfold fX6_readParts fX6_readParts_b0
  rw [if_neg (by decide : ¬ (8 : Int32) = 0), if_neg (by decide : ¬ (8 : Int32) = 1), if_neg (by decide : ¬ (8 : Int32) = 2), if_neg (by decide : ¬ (8 : Int32) = 3), if_neg (by decide : ¬ (8 : Int32) = 4), if_neg (by decide : ¬ (8 : Int32) = 5), if_neg (by decide : ¬ (8 : Int32) = 6), if_neg (by decide : ¬ (8 : Int32) = 7), if_pos (rfl : (8 : Int32) = 8)]
theorem rp_8 (M : RS) : fX10_parseArguments 8 M = bnd2 (fX10_parseNumber 1 20 M) (fun r u => bnd (fX10_put 1 r u) (fun u1 => bnd (fX10_parseWord 44 u1) (fun u2 => bnd2 (fX10_parseNumber 1 50 u2) (fun r3 u3 => bnd (fX10_put 2 r3 u3) (fun u4 => some u4))))) := by
  unfold fX10_parseArguments fX10_parseArguments_b0
  rw [if_neg (by decide : ¬ (8 : Int32) = 0), if_neg (by decide : ¬ (8 : Int32) = 1), if_neg (by decide : ¬ (8 : Int32) = 2), if_neg (by decide : ¬ (8 : Int32) = 3), if_neg (by decide : ¬ (8 : Int32) = 4), if_neg (by decide : ¬ (8 : Int32) = 5), if_neg (by decide : ¬ (8 : Int32) = 6), if_neg (by decide : ¬ (8 : Int32) = 7)]
theorem ag_2 {p : PS} {M : RS} {n c : Nat} (L : pAr p p M M n c) (h40 : c < 40) : ∃ p' M', fX6_readParts 1 p = some p' ∧ fX10_parseArguments 1 M = some M' ∧ pFin p p' M M' n c 1 := by
  have t3 : (3 : Int32).toInt = 3 := by decide
  have t9 : (999 : Int32).toInt = 999 := by decide
  obtain ⟨r, r', p1, M1, e1, e2, e3, e4, e5, e6⟩ := rn_sim L.1 (lo := 0) (hi := 3) (by decide) (by decide) (by decide)
  obtain ⟨M2, f1, f2, f3⟩ := (L.step e3).put h40 (j := 1) (by omega) (by omega) (rfl : (1 : Int32) = nI 1) r'
  obtain ⟨s, s', p2, M3, g1, g2, g3, g4, g5, g6⟩ := rn_sim f2.1 (lo := 1) (hi := 999) (by decide) (by decide) (by decide)
  obtain ⟨M4, i1, i2, i3⟩ := (f2.step g3).put h40 (j := 2) (by omega) (by omega) (rfl : (2 : Int32) = nI 2) s'
  obtain ⟨p', j1, j2⟩ := i2.fin h40 (k := 1) (a1 := r) (a2 := s) (a3 := 0) (fun z => by
    have z1 := (g3.2.2 z).1
    rw [i3 z, uq_s, uq_o _ _ (by omega : 4 * c + 1 ≠ 4 * c + 2), g3.2.1.co, f3 z1, uq_s, ← e6 z1, ← g6 z]
    rw [qa_0, t3] at e4
    rw [qa_1, t9] at g4
    exact Or.inr (Or.inl ⟨rfl, rfl, rfl, e4.1, e4.2, g4.1, g4.2⟩))
  rw [cp_1, rp_1, e1, e2, qa_b2, qa_b2, g1, qa_b2, j1, f1, qa_b, g2, qa_b2, i1, qa_b]
  exact ⟨p', M4, rfl, rfl, j2⟩
theorem ag_7 {p : PS} {M : RS} {n c : Nat} (L : pAr p p M M n c) (h40 : c < 40) : ∃ p' M', fX6_readParts 7 p = some p' ∧ fX10_parseArguments 7 M = some M' ∧ pFin p p' M M' n c 7 := by
  have t20 : (20 : Int32).toInt = 20 := by decide
  have t50 : (50 : Int32).toInt = 50 := by decide
  obtain ⟨r, r', p1, M1, e1, e2, e3, e4, e5, e6⟩ := rn_sim L.1 (lo := 1) (hi := 20) (by decide) (by decide) (by decide)
  obtain ⟨M2, f1, f2, f3⟩ := (L.step e3).put h40 (j := 1) (by omega) (by omega) (rfl : (1 : Int32) = nI 1) r'
  obtain ⟨s, s', p2, M3, g1, g2, g3, g4, g5, g6⟩ := rn_sim f2.1 (lo := 0) (hi := 50) (by decide) (by decide) (by decide)
  obtain ⟨M4, i1, i2, i3⟩ := (f2.step g3).put h40 (j := 2) (by omega) (by omega) (rfl : (2 : Int32) = nI 2) s'
  obtain ⟨t, t', p3, M5, k1, k2, k3, k4, k5, k6⟩ := rn_sim i2.1 (lo := 0) (hi := 20) (by decide) (by decide) (by decide)
  obtain ⟨M6, l1, l2, l3⟩ := (i2.step k3).put h40 (j := 3) (by omega) (by omega) (rfl : (3 : Int32) = nI 3) t'
  obtain ⟨p', j1, j2⟩ := l2.fin h40 (k := 7) (a1 := r) (a2 := s) (a3 := t) (fun z => by
    have z2 := (k3.2.2 z).1
    have z1 := (g3.2.2 z2).1
    rw [l3 z, uq_s, uq_o _ _ (by omega : 4 * c + 1 ≠ 4 * c + 3), uq_o _ _ (by omega : 4 * c + 2 ≠ 4 * c + 3), k3.2.1.co, i3 z2, uq_s, uq_o _ _ (by omega : 4 * c + 1 ≠ 4 * c + 2), g3.2.1.co, f3 z1, uq_s, ← e6 z1, ← g6 z2, ← k6 z]
    rw [qa_1, t20] at e4
    rw [qa_0, t50] at g4
    rw [qa_0, t20] at k4
    exact Or.inr (Or.inr (Or.inr (Or.inr (Or.inr (Or.inr (Or.inr (Or.inl ⟨rfl, rfl, rfl, rfl, e4.1, e4.2, g4.1, g4.2, k4.1, k4.2⟩))))))))
  rw [cp_7, rp_7, e1, e2, qa_b2, qa_b2, g1, qa_b2, k1, qa_b2, j1, f1, qa_b, g2, qa_b2, i1, qa_b, k2, qa_b2, l1, qa_b]
  exact ⟨p', M6, rfl, rfl, j2⟩
theorem ag_8 {p : PS} {M : RS} {n c : Nat} (L : pAr p p M M n c) (h40 : c < 40) : ∃ p' M', fX6_readParts 8 p = some p' ∧ fX10_parseArguments 8 M = some M' ∧ pFin p p' M M' n c 8 := by
  have t20 : (20 : Int32).toInt = 20 := by decide
  have t50 : (50 : Int32).toInt = 50 := by decide
  obtain ⟨r, r', p1, M1, e1, e2, e3, e4, e5, e6⟩ := rn_sim L.1 (lo := 1) (hi := 20) (by decide) (by decide) (by decide)
  obtain ⟨M2, f1, f2, f3⟩ := (L.step e3).put h40 (j := 1) (by omega) (by omega) (rfl : (1 : Int32) = nI 1) r'
  obtain ⟨p2, M3, k1, k2, k3⟩ := rw_sim f2.1 (w := 31) (v := 44) (l := [112, 97, 116, 105, 101, 110, 99, 101]) rfl rfl (by decide) (by decide)
  obtain ⟨s, s', p3, M4, g1, g2, g3, g4, g5, g6⟩ := rn_sim k3.1 (lo := 1) (hi := 50) (by decide) (by decide) (by decide)
  obtain ⟨M5, i1, i2, i3⟩ := ((f2.step k3).step g3).put h40 (j := 2) (by omega) (by omega) (rfl : (2 : Int32) = nI 2) s'
  obtain ⟨p', j1, j2⟩ := i2.fin h40 (k := 8) (a1 := r) (a2 := s) (a3 := 0) (fun z => by
    have z2 := (g3.2.2 z).1
    have z1 := (k3.2.2 z2).1
    rw [i3 z, uq_s, uq_o _ _ (by omega : 4 * c + 1 ≠ 4 * c + 2), g3.2.1.co, k3.2.1.co, f3 z1, uq_s, ← e6 z1, ← g6 z]
    rw [qa_1, t20] at e4
    rw [qa_1, t50] at g4
    exact Or.inr (Or.inr (Or.inr (Or.inr (Or.inr (Or.inr (Or.inr (Or.inr ⟨rfl, rfl, rfl, e4.1, e4.2, g4.1, g4.2⟩))))))))
  rw [cp_8, rp_8, e1, e2, qa_b2, qa_b2, k1, qa_b, g1, qa_b2, j1, f1, qa_b, k2, qa_b, g2, qa_b2, i1, qa_b]
  exact ⟨p', M5, rfl, rfl, j2⟩
theorem ag_6 {p : PS} {M : RS} {n c : Nat} (L : pAr p p M M n c) (h40 : c < 40) : ∃ p' M', fX6_readParts 6 p = some p' ∧ fX10_parseArguments 6 M = some M' ∧ pFin p p' M M' n c 6 := by
  have t20 : (20 : Int32).toInt = 20 := by decide
  obtain ⟨r, r', p1, M1, e1, e2, e3, e4, e5, e6⟩ := ph_sim L.1 (lo := (-20)) (hi := 20) (by decide) (by decide) (by decide)
  obtain ⟨M2, f1, f2, f3⟩ := (L.step e3).put h40 (j := 1) (by omega) (by omega) (rfl : (1 : Int32) = nI 1) r'
  obtain ⟨p', j1, j2⟩ := f2.fin h40 (k := 6) (a1 := r) (a2 := 0) (a3 := 0) (fun z => by
    rw [f3 z, uq_s, ← e6 z]
    rw [t20] at e4
    exact Or.inr (Or.inr (Or.inr (Or.inr (Or.inr (Or.inr (Or.inl ⟨rfl, rfl, e4.1, e4.2⟩)))))))
  rw [cp_6, rp_6, e1, e2, qa_b2, qa_b2, j1, f1, qa_b]
  exact ⟨p', M2, rfl, rfl, j2⟩
theorem ag_0 {p : PS} {M : RS} {n c : Nat} (L : pAr p p M M n c) (h40 : c < 40) (h0 : pEc p = 0) : ∃ p' M', fX6_readParts 0 p = some p' ∧ fX10_parseArguments 0 M = some M' ∧ pFin p p' M M' n c 0 := by
  rw [cp_0, rp_0]
  obtain ⟨_, _, _, a, e, _, _, _, _, l3⟩ := L.1
  by_cases t : pTy p = 2
  · rw [if_pos t, if_pos ((l3 h0).ty2.mp t)]
    exact ag_1 L h40 (by decide) (by decide) (by decide) fun r r2 r3 h1 h2 => Or.inl ⟨rfl, rfl, h1, h2⟩
  · rw [if_neg t, if_neg (fun h => t ((l3 h0).ty2.mpr h))]
    obtain ⟨M2, f1, f2, f3⟩ := L.put h40 (j := 1) (by omega) (by omega) (rfl : (1 : Int32) = nI 1) 1
    obtain ⟨p', j1, j2⟩ := f2.fin h40 (k := 0) (a1 := 1) (a2 := 0) (a3 := 0) (fun z => by
      rw [f3 z, uq_s]
      exact Or.inl ⟨rfl, rfl, by decide, by decide⟩)
    rw [j1, f1, qa_b]
    exact ⟨p', M2, rfl, rfl, j2⟩
theorem ag_5 {p : PS} {M : RS} {n c : Nat} (L : pAr p p M M n c) (h40 : c < 40) (h0 : pEc p = 0) : ∃ p' M', fX6_readParts 5 p = some p' ∧ fX10_parseArguments 5 M = some M' ∧ pFin p p' M M' n c 5 := by
  obtain ⟨b, c1, c2, c3, c4⟩ := wd_sim L.1 (w := 38) (v := 59) (l := [111, 112, 101, 110]) rfl rfl (by decide) (by decide)
  obtain ⟨b', d1, d2, d3, d4⟩ := wd_sim L.1 (w := 39) (v := 60) (l := [99, 108, 111, 115, 101, 100]) rfl rfl (by decide) (by decide)
  rw [if_pos h0] at c2 d2
  have opn : ∀ v : Int32, v = 0 ∨ v = 1 → ∃ p1 M1 M2 p', fX6_readToken p = some p1 ∧ fX10_put 1 v M = some M1 ∧ fX10_proceed M1 = some M2 ∧ fX6_readParts_b193 5 v 0 0 p1 = some p' ∧ pFin p p' M M2 n c 5 := by
    intro v hv
    obtain ⟨M1, f1, f2, f3⟩ := L.put h40 (j := 1) (by omega) (by omega) (rfl : (1 : Int32) = nI 1) v
    obtain ⟨p1, M2, g1, g2, g3, _⟩ := pr_sim f2.1
    obtain ⟨p', j1, j2⟩ := (f2.step g3).fin h40 (k := 5) (a1 := v) (a2 := 0) (a3 := 0) (fun z => by
      rw [g3.2.1.co, f3 (g3.2.2 z).1, uq_s]
      exact Or.inr (Or.inr (Or.inr (Or.inr (Or.inr (Or.inl ⟨rfl, rfl, hv⟩))))))
    exact ⟨p1, M1, M2, p', g1, f1, g2, j1, j2⟩
  rw [cp_5, rp_5]
  unfold fX6_readGate fX6_readGate_b0 fX6_readWord fX6_readWord_b0 fX10_parseGate fX10_parseGate_b0 fX10_parseGate_b23 fX10_parseGate_b28 fX10_parseGate_b43
  rw [c1, c2, d1, d2, qa_b, qa_b, qa_b, qa_b]
  rcases c3 with q | q
  · subst q
    rw [if_pos rfl, if_pos rfl]
    rcases d3 with q | q
    · subst q
      obtain ⟨p1, M1, e1, e2, e3, e4, e5, e6⟩ := fl_sim L.1 (c := 1) n10
      have hp : fX10_put 1 0 M1 = some M1 := by
        unfold fX10_put fX10_put_b0
        rw [rb_fine, qa_b, if_neg e5, if_pos (rfl : (0 : Int32) = 0)]
      obtain ⟨p', j1, j2⟩ := (L.step e3).fin h40 (k := 5) (a1 := 0) (a2 := 0) (a3 := 0) (fun z => absurd z e4)
      rw [if_pos rfl, if_pos rfl, e1, e2, qa_b, qa_b, qa_b, qa_b2, j1, if_pos rfl, hp, qa_b, pd_e e5, qa_b, qa_b]
      exact ⟨p', M1, rfl, rfl, j2⟩
    · subst q
      obtain ⟨p1, M1, M2, p', e1, e2, e3, e4, e5⟩ := opn 0 (Or.inl rfl)
      rw [if_neg n10, if_neg n10, e1, qa_b, qa_b, qa_b2, e4, rq_1, qa_b, if_pos rfl, e2, qa_b, e3, qa_b, qa_b]
      exact ⟨p', M2, rfl, rfl, e5⟩
  · subst q
    obtain ⟨p1, M1, M2, p', e1, e2, e3, e4, e5⟩ := opn 1 (Or.inr rfl)
    rw [if_neg n10, if_neg n10, e1, qa_b, qa_b2, e4, rq_1, qa_b, if_neg n10, e2, qa_b, e3, qa_b, qa_b]
    exact ⟨p', M2, rfl, rfl, e5⟩
/-- a command's arguments -/
theorem ag_sim {p : PS} {M : RS} {n c : Nat} (L : pAr p p M M n c) (h40 : c < 40) (h0 : pEc p = 0) {j : Nat} (hj : j ≤ 8) : ∃ p' M', fX6_readParts (nI j) p = some p' ∧ fX10_parseArguments (nI j) M = some M' ∧ pFin p p' M M' n c (nI j) := by
  have hc : j = 0 ∨ j = 1 ∨ j = 2 ∨ j = 3 ∨ j = 4 ∨ j = 5 ∨ j = 6 ∨ j = 7 ∨ j = 8 := by omega
  rcases hc with h | h | h | h | h | h | h | h | h <;> subst h
  · exact ag_0 L h40 h0
  · exact ag_2 L h40
  · rw [show nI 2 = 2 from rfl, cp_2, rp_2]
    exact ag_1 L h40 (by decide) (by decide) (by decide) fun r r2 r3 h1 h2 => Or.inr (Or.inr (Or.inl ⟨rfl, rfl⟩))
  · rw [show nI 3 = 3 from rfl, cp_3, rp_3]
    exact ag_1 L h40 (by decide) (by decide) (by decide) fun r r2 r3 h1 h2 => Or.inr (Or.inr (Or.inr (Or.inl ⟨rfl, rfl⟩)))
  · rw [show nI 4 = 4 from rfl, cp_4, rp_4]
    exact ag_1 L h40 (by decide) (by decide) (by decide) fun r r2 r3 h1 h2 => Or.inr (Or.inr (Or.inr (Or.inr (Or.inl ⟨rfl, rfl, h1, h2⟩))))
  · exact ag_5 L h40 h0
  · exact ag_6 L h40
  · exact ag_7 L h40
  · exact ag_8 L h40
