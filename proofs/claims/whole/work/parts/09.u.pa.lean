/-! the parsers' steps, side by side -/
def eFp (p p' : PS) (M M' : RS) : Prop := (pBy p' = pBy p ∧ pLe p' = pLe p ∧ pCo p' = pCo p ∧ pCc p' = pCc p ∧ pSo p' = pSo p ∧ pKo p' = pKo p) ∧
  mSt M' = mSt M ∧ mAs M' = mAs M ∧ mTr M' = mTr M ∧ mPa M' = mPa M ∧ mSa M' = mSa M ∧ mIs M' = mIs M ∧ mAo M' = mAo M ∧ mTx M' = mTx M ∧ mCo M' = mCo M ∧ mOu M' = mOu M ∧ mAc M' = mAc M ∧ mTh M' = mTh M ∧ mCc M' = mCc M ∧ mTl M' = mTl M ∧ mTd M' = mTd M ∧ mTk M' = mTk M ∧ mOl M' = mOl M
theorem eFp.refl (p : PS) (M : RS) : eFp p p M M := ⟨⟨rfl, rfl, rfl, rfl, rfl, rfl⟩, rfl, rfl, rfl, rfl, rfl, rfl, rfl, rfl, rfl, rfl, rfl, rfl, rfl, rfl, rfl, rfl, rfl⟩
theorem eFp.trans {p p1 p2 : PS} {M M1 M2 : RS} (h : eFp p p1 M M1) (h' : eFp p1 p2 M1 M2) : eFp p p2 M M2 := by
  obtain ⟨⟨a1, a2, a3, a4, a5, a6⟩, b1, b2, b3, b4, b5, b6, b7, b8, b9, b10, b11, b12, b13, b14, b15, b16, b17⟩ := h
  obtain ⟨⟨c1, c2, c3, c4, c5, c6⟩, d1, d2, d3, d4, d5, d6, d7, d8, d9, d10, d11, d12, d13, d14, d15, d16, d17⟩ := h'
  exact ⟨⟨c1.trans a1, c2.trans a2, c3.trans a3, c4.trans a4, c5.trans a5, c6.trans a6⟩, d1.trans b1, d2.trans b2, d3.trans b3, d4.trans b4, d5.trans b5, d6.trans b6, d7.trans b7, d8.trans b8, d9.trans b9, d10.trans b10, d11.trans b11, d12.trans b12, d13.trans b13, d14.trans b14, d15.trans b15, d16.trans b16, d17.trans b17⟩
theorem pRn.fp {p p' : PS} {M M' : RS} {n : Nat} (h : pRn p M n) (f : eFp p p' M M') : pRn p' M' n := by
  obtain ⟨h1, h2, h3, h4⟩ := h
  obtain ⟨⟨a1, a2, a3, a4, a5, a6⟩, b1, b2, b3, b4, b5, b6, b7, b8, b9, b10, b11, b12, b13, b14, b15, b16, b17⟩ := f
  exact ⟨h1, a2.trans h2, b14.trans h3, fun i hi => by rw [a1, b8]; exact h4 i hi⟩
/-- the parsers alike: an error alike, or the token at hand alike -/
def pRl (p : PS) (M : RS) (n : Nat) : Prop := pRn p M n ∧ pEc p = mEc M ∧ pEp p = mEp M ∧ ∃ a e, a ≤ e ∧ e ≤ n ∧ pSt p = nI a ∧ pEn p = nI e ∧ (pEc p = 0 → pTk p M n a e)
/-- a step of both -/
def pSp (p p' : PS) (M M' : RS) (n : Nat) : Prop := pRl p' M' n ∧ eFp p p' M M' ∧ (pEc p' = 0 → pEc p = 0 ∧ (pSt p).toInt ≤ (pSt p').toInt)
theorem pSp.refl {p : PS} {M : RS} {n : Nat} (L : pRl p M n) : pSp p p M M n := ⟨L, eFp.refl p M, fun h => ⟨h, Int.le_refl _⟩⟩
theorem pSp.trans {p p1 p2 : PS} {M M1 M2 : RS} {n : Nat} (h : pSp p p1 M M1 n) (h' : pSp p1 p2 M1 M2 n) : pSp p p2 M M2 n :=
  ⟨h'.1, h.2.1.trans h'.2.1, fun z => ⟨(h.2.2 (h'.2.2 z).1).1, Int.le_trans (h.2.2 (h'.2.2 z).1).2 (h'.2.2 z).2⟩⟩
theorem tkP_f (p : PS) (a ty e : Int32) : (pBy (tkP p a ty e) = pBy p ∧ pLe (tkP p a ty e) = pLe p ∧ pCo (tkP p a ty e) = pCo p ∧ pCc (tkP p a ty e) = pCc p ∧ pSo (tkP p a ty e) = pSo p ∧ pKo (tkP p a ty e) = pKo p) ∧ pEc (tkP p a ty e) = pEc p ∧ pEp (tkP p a ty e) = pEp p ∧ pSt (tkP p a ty e) = a ∧ pTy (tkP p a ty e) = ty ∧ pEn (tkP p a ty e) = e := by
  dsimp only [tkP, tEn, tTy, tSt, pBy, pLe, pCo, pCc, pSo, pKo, pEc, pEp, pSt, pTy, pEn]
  exact ⟨⟨rfl, rfl, rfl, rfl, rfl, rfl⟩, rfl, rfl, rfl, rfl, rfl⟩
theorem tkM_f (M : RS) (a v to e : Int32) : (mSt (tkM M a v to e) = mSt M ∧ mAs (tkM M a v to e) = mAs M ∧ mTr (tkM M a v to e) = mTr M ∧ mPa (tkM M a v to e) = mPa M ∧ mSa (tkM M a v to e) = mSa M ∧ mIs (tkM M a v to e) = mIs M ∧ mAo (tkM M a v to e) = mAo M ∧ mTx (tkM M a v to e) = mTx M ∧ mCo (tkM M a v to e) = mCo M ∧ mOu (tkM M a v to e) = mOu M ∧ mAc (tkM M a v to e) = mAc M ∧ mTh (tkM M a v to e) = mTh M ∧ mCc (tkM M a v to e) = mCc M ∧ mTl (tkM M a v to e) = mTl M ∧ mTd (tkM M a v to e) = mTd M ∧ mTk (tkM M a v to e) = mTk M ∧ mOl (tkM M a v to e) = mOl M) ∧
    mEc (tkM M a v to e) = mEc M ∧ mEp (tkM M a v to e) = mEp M ∧ mTs (tkM M a v to e) = a ∧ mNu (tkM M a v to e) = v ∧ mTo (tkM M a v to e) = to ∧ mPo (tkM M a v to e) = e := by
  dsimp only [tkM, nPo, nTo, nNu, nTs, mSt, mAs, mTr, mPa, mSa, mIs, mAo, mTx, mCo, mOu, mAc, mTh, mCc, mTl, mTd, mTk, mOl, mEc, mEp, mTs, mNu, mTo, mPo]
  exact ⟨⟨rfl, rfl, rfl, rfl, rfl, rfl, rfl, rfl, rfl, rfl, rfl, rfl, rfl, rfl, rfl, rfl, rfl⟩, rfl, rfl, rfl, rfl, rfl, rfl⟩
theorem tok_sim {p : PS} {M : RS} {n : Nat} (P : pRn p M n) (h0 : pEc p = 0) {e : Nat} (he : e ≤ n) (hp : pEn p = nI e) (hm : mPo M = nI e) : ∃ p' M' a' e', fX6_readToken p = some p' ∧ fX10_advance M = some M' ∧ eFp p p' M M' ∧ pEc p' = pEc p ∧ pEp p' = pEp p ∧ mEc M' = mEc M ∧ mEp M' = mEp M ∧ e ≤ a' ∧ pTk p' M' n a' e' := by
  have n5 := P.1
  have hle := P.2.2.1
  obtain ⟨i1, k1, k2, k3, k4⟩ := run_end (fun i => tyB (mTx M i) = 5) n (n - e) e (by omega)
  -- the token's end
  have ex : ∃ i2, (i1 = n ∧ i2 = n ∨ i1 < n ∧ (tyB (mTx M i1) = 1 ∨ tyB (mTx M i1) = 2) ∧ i1 ≤ i2 ∧ i2 ≤ n ∧ (∀ i, i1 ≤ i → i < i2 → tyB (mTx M i) = tyB (mTx M i1)) ∧ (i2 = n ∨ ¬ tyB (mTx M i2) = tyB (mTx M i1)) ∨ i1 < n ∧ ¬ tyB (mTx M i1) = 1 ∧ ¬ tyB (mTx M i1) = 2 ∧ ¬ tyB (mTx M i1) = 0 ∧ i2 = i1 + 1) ∧ i2 ≤ n ∧ i1 ≤ i2 ∧ (i1 < n → i1 < i2) := by
    by_cases q : i1 = n
    · exact ⟨n, Or.inl ⟨q, rfl⟩, by omega, by omega, by omega⟩
    · by_cases q2 : tyB (mTx M i1) = 1 ∨ tyB (mTx M i1) = 2
      · obtain ⟨i2, r1, r2, r3, r4⟩ := run_end (fun i => tyB (mTx M i) = tyB (mTx M i1)) n (n - i1) i1 (by omega)
        refine ⟨i2, Or.inr (Or.inl ⟨by omega, q2, r1, r2, r3, r4⟩), r2, r1, fun _ => ?_⟩
        by_cases q3 : i2 = i1
        · rcases r4 with r | r
          · omega
          · rw [q3] at r
            exact absurd rfl r
        · omega
      · exact ⟨i1 + 1, Or.inr (Or.inr ⟨by omega, fun h => q2 (Or.inl h), fun h => q2 (Or.inr h), tyB_n0 _, rfl⟩), by omega, by omega, by omega⟩
  obtain ⟨i2, h5, s1, s2, s3⟩ := ex
  have c := sb_token P h0 hp k1 k2 k3 k4 h5
  have r := rb_advance n5 hle hm k1 k2 k3 k4 h5
  obtain ⟨f1, f2, f3, f4, f5, f6⟩ := tkP_f p (nI i1) (if i1 < n then tyB (mTx M i1) else 0) (nI i2)
  obtain ⟨g1, g2, g3, g4, g5, g6, g7⟩ := tkM_f M (nI i1) (if i1 < n ∧ tyB (mTx M i1) = 2 then nvR (mTx M) i1 (i2 - i1) else 0) (if i1 < n then toB (mTx M i1) else 0) (nI i2)
  refine ⟨_, _, i1, i2, c, r, ⟨f1, g1⟩, f2, f3, g2, g3, k1, s2, s1, f4, g4, f6, g7, ?_⟩
  rw [f5, g6, g5, g1.2.2.2.2.2.2.2.1]
  by_cases q : i1 = n
  · left
    exact ⟨q, if_neg (by omega), if_neg (by omega)⟩
  · have q : i1 < n := by omega
    have n5 : ¬ tyB (mTx M i1) = 5 := k4.resolve_left (by omega)
    rw [if_pos q, if_pos q]
    right
    unfold toB
    by_cases t1 : tyB (mTx M i1) = 1
    · left
      exact ⟨s3 q, t1, if_pos t1⟩
    right
    by_cases t2 : tyB (mTx M i1) = 2
    · left
      refine ⟨s3 q, t2, by rw [if_neg t1, if_pos t2], fun i hi => ?_, if_pos ⟨q, t2⟩⟩
      rcases h5 with h | ⟨_, _, _, _, h, _⟩ | h
      · omega
      · have := (tyB_d _).mpr ((h (i1 + i) (by omega) (by omega)).trans t2)
        have a1 := qa_le.mp this.1
        have a2 := qa_le.mp this.2
        rw [show (48 : Int32).toInt = 48 by decide] at a1
        rw [show (57 : Int32).toInt = 57 by decide] at a2
        exact ⟨a1, a2⟩
      · exact absurd t2 h.2.2.1
    right
    rw [if_neg t1, if_neg t2]
    have tv : tyB (mTx M i1) = if mTx M i1 = 45 then 3 else if mTx M i1 = 59 then 4 else 6 := by
      have a1 : ¬ (97 ≤ mTx M i1 ∧ mTx M i1 ≤ 122) := fun h => t1 ((tyB_l _).mp h)
      have a2 : ¬ (48 ≤ mTx M i1 ∧ mTx M i1 ≤ 57) := fun h => t2 ((tyB_d _).mp h)
      have a3 : ¬ mTx M i1 = 32 := fun h => n5 ((tyB_5 _).mpr (Or.inl h))
      have a4 : ¬ mTx M i1 = 10 := fun h => n5 ((tyB_5 _).mpr (Or.inr h))
      unfold tyB
      rw [if_neg a1, if_neg a2, if_neg a3, if_neg a4]
    rw [tv]
    by_cases t3 : mTx M i1 = 45
    · left
      exact ⟨s3 q, if_pos t3, by rw [if_neg (by rw [t3]; decide), if_pos t3]⟩
    right
    by_cases t4 : mTx M i1 = 59
    · left
      exact ⟨s3 q, by rw [if_neg t3, if_pos t4], if_pos t4⟩
    · right
      exact ⟨s3 q, by rw [if_neg t3, if_neg t4], by rw [if_neg t4, if_neg t3]⟩
theorem rb_fine (M : RS) : fX10_isFine M = some (if mEc M = 0 then 1 else 0) := by
  unfold fX10_isFine fX10_isFine_b0
  split <;> rfl
theorem pr_sim {p : PS} {M : RS} {n : Nat} (L : pRl p M n) : ∃ p' M', fX6_readToken p = some p' ∧ fX10_proceed M = some M' ∧ pSp p p' M M' n ∧ pEc p' = pEc p ∧ (pEc p = 0 → (pEn p).toInt ≤ (pSt p').toInt) ∧ (¬ pEc p = 0 → p' = p ∧ M' = M) := by
  obtain ⟨P, l1, l2, a, e, w1, w2, w3, w4, l3⟩ := L
  have n5 := P.1
  unfold fX10_proceed fX10_proceed_b0
  rw [rb_fine, qa_b]
  by_cases h0 : pEc p = 0
  · have k := l3 h0
    obtain ⟨p', M', a', e', c1, c2, c3, c4, c5, c6, c7, c8, c9⟩ := tok_sim P h0 w2 w4 k.2.2.2.2.2.1
    have hm : mEc M = 0 := by rw [← l1]; exact h0
    have z1 : (pEn p).toInt ≤ (pSt p').toInt := by
      rw [w4, c9.2.2.1, qa_nI (by omega), qa_nI (by have := c9.1; have := c9.2.1; omega)]
      omega
    have z2 : (pSt p).toInt ≤ (pEn p).toInt := by
      rw [w4, w3, qa_nI (by omega), qa_nI (by omega)]
      omega
    rw [if_pos hm, if_neg n10, c2, qa_b]
    exact ⟨p', M', c1, rfl, ⟨⟨P.fp c3, by rw [c4, c6, l1], by rw [c5, c7, l2], a', e', c9.1, c9.2.1, c9.2.2.1, c9.2.2.2.2.1, fun _ => c9⟩, c3, fun _ => ⟨h0, by omega⟩⟩, c4, fun _ => z1, fun h => absurd h0 h⟩
  · have hm : ¬ mEc M = 0 := by rw [← l1]; exact h0
    rw [if_neg hm, if_pos (rfl : (0 : Int32) = 0)]
    refine ⟨p, M, ?_, rfl, pSp.refl ⟨P, l1, l2, a, e, w1, w2, w3, w4, l3⟩, rfl, fun h => absurd h h0, fun _ => ⟨rfl, rfl⟩⟩
    unfold fX6_readToken fX6_readToken_b0
    rw [if_neg h0]
theorem rq_1 (c : Int32) (M : RS) : fX10_require 1 c M = some M := by
  unfold fX10_require fX10_require_b0
  rw [if_neg n10]
theorem rq_e {M : RS} (h : ¬ mEc M = 0) (r c : Int32) : fX10_require r c M = some M := by
  unfold fX10_require fX10_require_b0
  rw [if_neg h]
  split <;> rfl
theorem pd_e {M : RS} (h : ¬ mEc M = 0) : fX10_proceed M = some M := by
  unfold fX10_proceed fX10_proceed_b0
  rw [rb_fine, qa_b, if_neg h, if_pos (rfl : (0 : Int32) = 0)]
theorem rd_e {p : PS} (h : ¬ pEc p = 0) : fX6_readToken p = some p := by
  unfold fX6_readToken fX6_readToken_b0
  rw [if_neg h]
theorem fl_e {p : PS} (h : ¬ pEc p = 0) (c x : Int32) : fX6_failAt c x p = some p := by
  unfold fX6_failAt fX6_failAt_b0
  rw [if_neg h]
theorem er_f (p : PS) (c x : Int32) : (pBy (tEp (tEc p c) x) = pBy p ∧ pLe (tEp (tEc p c) x) = pLe p ∧ pCo (tEp (tEc p c) x) = pCo p ∧ pCc (tEp (tEc p c) x) = pCc p ∧ pSo (tEp (tEc p c) x) = pSo p ∧ pKo (tEp (tEc p c) x) = pKo p) ∧ pEc (tEp (tEc p c) x) = c ∧ pEp (tEp (tEc p c) x) = x ∧ pSt (tEp (tEc p c) x) = pSt p ∧ pEn (tEp (tEc p c) x) = pEn p := by
  dsimp only [tEp, tEc, pBy, pLe, pCo, pCc, pSo, pKo, pEc, pEp, pSt, pEn]
  exact ⟨⟨rfl, rfl, rfl, rfl, rfl, rfl⟩, rfl, rfl, rfl, rfl⟩
theorem er_m (M : RS) (c x : Int32) : (mSt (nEp (nEc M c) x) = mSt M ∧ mAs (nEp (nEc M c) x) = mAs M ∧ mTr (nEp (nEc M c) x) = mTr M ∧ mPa (nEp (nEc M c) x) = mPa M ∧ mSa (nEp (nEc M c) x) = mSa M ∧ mIs (nEp (nEc M c) x) = mIs M ∧ mAo (nEp (nEc M c) x) = mAo M ∧ mTx (nEp (nEc M c) x) = mTx M ∧ mCo (nEp (nEc M c) x) = mCo M ∧ mOu (nEp (nEc M c) x) = mOu M ∧ mAc (nEp (nEc M c) x) = mAc M ∧ mTh (nEp (nEc M c) x) = mTh M ∧ mCc (nEp (nEc M c) x) = mCc M ∧ mTl (nEp (nEc M c) x) = mTl M ∧ mTd (nEp (nEc M c) x) = mTd M ∧ mTk (nEp (nEc M c) x) = mTk M ∧ mOl (nEp (nEc M c) x) = mOl M) ∧ mEc (nEp (nEc M c) x) = c ∧ mEp (nEp (nEc M c) x) = x := by
  dsimp only [nEp, nEc, mSt, mAs, mTr, mPa, mSa, mIs, mAo, mTx, mCo, mOu, mAc, mTh, mCc, mTl, mTd, mTk, mOl, mEc, mEp]
  exact ⟨⟨rfl, rfl, rfl, rfl, rfl, rfl, rfl, rfl, rfl, rfl, rfl, rfl, rfl, rfl, rfl, rfl, rfl⟩, rfl, rfl⟩
/-- an error arises on both sides -/
theorem fe_sim {p : PS} {M : RS} {n : Nat} (P : pRn p M n) (W : ∃ a e, a ≤ e ∧ e ≤ n ∧ pSt p = nI a ∧ pEn p = nI e) (h0 : pEc p = 0) (hm : mEc M = 0) {c x : Int32} (hc : ¬ c = 0) (hx : x = mTs M) : ∃ p' M', fX6_failAt c x p = some p' ∧ fX10_require 0 c M = some M' ∧ pRl p' M' n ∧ eFp p p' M M' ∧ ¬ pEc p' = 0 ∧ ¬ mEc M' = 0 := by
  unfold fX6_failAt fX6_failAt_b0 fX10_require fX10_require_b0
  rw [if_pos (rfl : (0 : Int32) = 0), if_pos h0, if_pos hm]
  have ets : mTs (nEc M c) = mTs M := rfl
  obtain ⟨f1, f2, f3, f4, f5⟩ := er_f p c x
  obtain ⟨g1, g2, g3⟩ := er_m M c (mTs M)
  obtain ⟨a, e, w1, w2, w3, w4⟩ := W
  rw [ets]
  have F : eFp p (tEp (tEc p c) x) M (nEp (nEc M c) (mTs M)) := ⟨f1, g1⟩
  exact ⟨_, _, rfl, rfl, ⟨P.fp F, by rw [f2, g2], by rw [f3, g3, hx], a, e, w1, w2, f4.trans w3, f5.trans w4, fun h => absurd (f2.symm.trans h) hc⟩, F, fun h => hc (f2.symm.trans h), fun h => hc (g2.symm.trans h)⟩
theorem pRl.w {p : PS} {M : RS} {n : Nat} (L : pRl p M n) : ∃ a e, a ≤ e ∧ e ≤ n ∧ pSt p = nI a ∧ pEn p = nI e := by
  obtain ⟨_, _, _, a, e, w1, w2, w3, w4, _⟩ := L
  exact ⟨a, e, w1, w2, w3, w4⟩
theorem pRl.ts {p : PS} {M : RS} {n : Nat} (L : pRl p M n) (h : pEc p = 0) : pSt p = mTs M := by
  obtain ⟨_, _, _, a, e, w1, w2, w3, w4, k⟩ := L
  rw [w3, (k h).2.2.2.1]
/-- an error at the token at hand -/
theorem fl_sim {p : PS} {M : RS} {n : Nat} (L : pRl p M n) {c : Int32} (hc : ¬ c = 0) : ∃ p' M', fX6_fail c p = some p' ∧ fX10_require 0 c M = some M' ∧ pSp p p' M M' n ∧ ¬ pEc p' = 0 ∧ ¬ mEc M' = 0 ∧ (¬ pEc p = 0 → p' = p ∧ M' = M) := by
  unfold fX6_fail fX6_fail_b0
  by_cases h0 : pEc p = 0
  · obtain ⟨p', M', e1, e2, e3, e4, e5, e6⟩ := fe_sim L.1 L.w h0 (by rw [← L.2.1]; exact h0) (x := pSt p) hc (L.ts h0)
    rw [e1, qa_b]
    exact ⟨p', M', rfl, e2, ⟨e3, e4, fun h => absurd h e5⟩, e5, e6, fun h => absurd h0 h⟩
  · have hm : ¬ mEc M = 0 := by rw [← L.2.1]; exact h0
    rw [fl_e h0, qa_b, rq_e hm]
    exact ⟨p, M, rfl, rfl, pSp.refl L, h0, hm, fun _ => ⟨rfl, rfl⟩⟩
