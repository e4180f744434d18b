/-! load -/
theorem td_tot {u : KS} (J : (sT u 2).toInt ≤ 1000) (t : Int32) : ∃ y, fX8_tideAt t u = some y := by
  unfold fX8_tideAt fX8_tideAt_b0 fX8_tideAt_b45
  by_cases h : 1 ≤ sT u 2
  · have h' := qa_le.mp h
    rw [qa_1] at h'
    have n1 : ¬ sT u 2 = 0 := by
      intro e
      rw [e, qa_0] at h'
      omega
    have n2 : ¬ 2 * sT u 2 = 0 := by
      intro e
      have := congrArg Int32.toInt e
      rw [qa_mul (by rw [qa_2]; omega) (by rw [qa_2]; omega), qa_2, qa_0] at this
      omega
    rw [if_pos h, qa_gn n2, qa_gn n1, qa_gn n1]
    split
    · exact ⟨_, rfl⟩
    · exact ⟨_, rfl⟩
  · exact ⟨_, if_neg h⟩
theorem dk_tot {u : KS} (J : (sT u 2).toInt ≤ 1000) (t : Int32) : ∃ y, fX8_deckAt t u = some y := by
  obtain ⟨y, hy⟩ := td_tot J t
  unfold fX8_deckAt fX8_deckAt_b0 fX8_deckAt_b25
  rw [hy, qa_b, qa_b]
  by_cases h : 1 ≤ sT u 5
  · have h' := qa_le.mp h
    rw [qa_1] at h'
    have n1 : ¬ sT u 5 = 0 := by
      intro e
      rw [e, qa_0] at h'
      omega
    rw [if_pos h, qa_gn n1]
    exact ⟨_, rfl⟩
  · rw [if_neg h]
    exact ⟨_, rfl⟩
theorem lv_tot {u : KS} (J : (sT u 2).toInt ≤ 1000) : ∃ u', fX8_becomeLevel u = some u' := by
  obtain ⟨r, hr⟩ := dk_tot J (sC u 0)
  have J2 : (sT (wC u 4 r) 2).toInt ≤ 1000 := J
  obtain ⟨r2, hr2⟩ := dk_tot J2 (sC (wC u 4 r) 0)
  unfold fX8_becomeLevel fX8_becomeLevel_b0
  rw [hr, qa_b]
  unfold fX8_measureAll fX8_measureAll_b0
  rw [hr2, qa_b]
  unfold fX8_measureRamp fX8_measureRamp_b0
  rw [sb_gap, qa_b, sb_gap, qa_b, qa_b, qa_b]
  exact ⟨_, rfl⟩
theorem lv_good {u : KS} {g : Nat → Int32} (D : dQ u g) (S : eS g) : ∃ u', fX8_becomeLevel u = some u' ∧ fX10_deckAt 0 g = some (eV g 0) ∧ eRel u' (upd g 1 (eV g 0)) ∧ eInv 61000 (upd g 1 (eV g 0)) := by
  obtain ⟨RB, RL⟩ := D.b
  obtain ⟨RA, _, G, ⟨z1, z2, z3, z4, z5, z6, z7, z8, z9, z10, z11, z12, z13, z14⟩, W, g0, g1, _⟩ := D
  have F : eF g (upd g 1 (eV g 0)) := eF_upd g (by omega) _
  have bv := eV_bnd S G (t := 0) (by rw [qa_0]; omega)
  have c0 : sC u 0 = 0 := RA.1.1.trans g0
  have RA' : eRA (wC u 4 (eV g 0)) (upd g 1 (eV g 0)) := eRA_4 RA _
  have S' := F.S S
  have G' : eG (upd g 1 (eV g 0)) := F.G rfl (Int.le_refl _) G
  have Z' : eZ 61000 (upd g 1 (eV g 0)) := ⟨z1, z2, z3, z4, by show _ ≤ (eV g 0).toInt; omega, by show (eV g 0).toInt ≤ _; omega, z7, z8, z9, z10, z11, z12, z13, z14⟩
  have RB' : eRB (wC u 4 (eV g 0)) (upd g 1 (eV g 0)) := F.RB RB rfl rfl rfl rfl
  have m := sb_measureAll RA' S' Z' RB'.2.1 G'
  unfold fX8_becomeLevel fX8_becomeLevel_b0
  rw [sb_deckAt RA S RB.2.1, c0, qa_b, m, qa_b]
  exact ⟨_, rfl, rb_deckAt S G.1 0, ⟨RA', RB', F.RL RL rfl rfl, rfl, rfl, rfl⟩, S', G', Z'⟩
/-- the whole set-up, read -/
theorem su_sim {p : PS} {u : KS} {M : RS} {n : Nat} (P : pRn p M n) : ∃ q k t s g, fX6_readSetup p u = fX6_readSetup_b52 q k ∧ fX10_load M = fX10_load_b47 t ∧ pRl q t n ∧ (∀ i, i < 561 → s i = mSt M i) ∧ eFl (nStA (nAsA (nTh M 0) s) g) t ∧ (pEc q = 0 → dQ k (mSt t) ∧ eS (mSt t)) ∧ (sT k 2).toInt ≤ 1000 := by
  have v5 : (500 : Int32).toInt = 500 := by decide
  obtain ⟨u1, g, a1, a2, a3, a4⟩ := bn_sim u (mSt (nAsA (nTh M 0) (va_cpy (mSt (nTh M 0)) (mAs (nTh M 0)) 0 0 561)))
  have P1 : pRn (tKo (tSo p 0) 0) (nStA (nAsA (nTh M 0) (va_cpy (mSt (nTh M 0)) (mAs (nTh M 0)) 0 0 561)) g) n := P
  obtain ⟨p1, M2, e1, e2, L, e4, O, ⟨e5, e6, e7, e8⟩, e9, e10, e11⟩ := st_sim P1
  have s1 : mSt M2 = g := O.1
  have J0 : (sT u1 2).toInt ≤ 1000 := by
    have h1 := a3.1.2.1 2 (by omega)
    have h2 := a4.1.2.2.2.2.1
    rw [h1]
    show (g 17).toInt ≤ 1000
    omega
  have b0 : 0 ≤ (pSt p1).toInt := by
    obtain ⟨_, _, _, a, e, h1, h2, h3, _⟩ := id L
    have := L.1.1
    rw [h3, qa_nI (by omega)]
    omega
  have lp : ∃ q k t, lop (fun y (z : Int32 × PS × KS) => fX6_readSetup_b20 y z.1 z.2.1 z.2.2) LF (0, p1, u1) = fX6_readSetup_b52 q k ∧ lop (fun y z => fX10_load_b26 y z) LF M2 = fX10_load_b47 t ∧ pRl q t n ∧ eFl M2 t ∧ (pEc q = 0 → dQ k (mSt t) ∧ eS (mSt t)) ∧ (sT k 2).toInt ≤ 1000 := by
    refine qa_lrel (fun j (s : Int32 × PS × KS) (t : RS) => ∃ q k, s = (nI j, q, k) ∧ pRl q t n ∧ eFl M2 t ∧ (pEc q = 0 → dQ k (mSt t) ∧ eS (mSt t) ∧ eBt (pSo q) (mTd t) ∧ pKo q = mTk t ∧ (j : Int) ≤ (pSt q).toInt) ∧ (sT k 2).toInt ≤ 1000) (fun a b => ∃ q k t, a = fX6_readSetup_b52 q k ∧ b = fX10_load_b47 t ∧ pRl q t n ∧ eFl M2 t ∧ (pEc q = 0 → dQ k (mSt t) ∧ eS (mSt t)) ∧ (sT k 2).toInt ≤ 1000) 501 ?_ 5000 5000 0 (0, p1, u1) M2 ⟨p1, u1, rfl, L, eFl.refl M2, fun _ => ⟨by rw [s1]; exact a3, by rw [s1]; exact a4, ⟨0, by omega, e7, e10⟩, e8.trans e11.symm, b0⟩, J0⟩ (by omega) (by omega) (by omega)
    intro j s t k l hj ⟨q, v, h1, h2, h3, h4, h5⟩ hk
    subst h1
    have hJ := qa_nI (n := j) (by omega)
    have n5 := h2.1.1
    show ∃ q' k' t', fX6_readSetup_b20 k (nI j) q v = fX6_readSetup_b52 q' k' ∧ fX10_load_b26 l t = fX10_load_b47 t' ∧ _
    unfold fX6_readSetup_b20 fX10_load_b26
    rw [rb_fine, qa_b]
    by_cases h0 : pEc q = 0
    · have hm : mEc t = 0 := by rw [← h2.2.1]; exact h0
      obtain ⟨d1, d2, d3, d4, d5⟩ := h4 h0
      obtain ⟨_, _, _, a, e, w1, w2, w3, _, tk⟩ := id h2
      have ty := (tk h0).ty0
      have hA := qa_nI (n := a) (by omega)
      rw [w3, hA] at d5
      rw [if_neg (by rw [qa_lt, v5]; omega), if_pos hm, if_neg n10, if_pos h0]
      by_cases t0 : pTy q = 0
      · rw [if_pos t0, if_pos (ty.mp t0)]
        exact ⟨q, v, t, rfl, rfl, h2, h3, fun _ => ⟨d1, d2⟩, h5⟩
      · rw [if_neg t0, if_neg (fun h => t0 (ty.mpr h))]
        obtain ⟨p', u', M', f1, f2, f3, f4, f5, f6⟩ := sm_sim h2 h0 ⟨d1, d2⟩ d3 d4
        rw [f1, qa_b, f2, qa_b, nI_1]
        refine hk _ _ (by omega) ⟨p', u', rfl, f3, h3.trans f4, fun z => ?_, f6⟩
        obtain ⟨y1, y2, y3, y4, y5⟩ := f5 z
        refine ⟨y1, y2, y3, y4, ?_⟩
        rw [w3, hA] at y5
        omega
    · have hm : ¬ mEc t = 0 := by rw [← h2.2.1]; exact h0
      rw [if_neg hm, if_pos (rfl : (0 : Int32) = 0), if_neg h0]
      refine ⟨q, v, t, ?_, rfl, h2, h3, fun z => absurd z h0, h5⟩
      split
      · rfl
      · split <;> rfl
  obtain ⟨q, k, t, f1, f2, f3, f4, f5, f6⟩ := lp
  refine ⟨q, k, t, va_cpy (mSt (nTh M 0)) (mAs (nTh M 0)) 0 0 561, g, ?_, ?_, f3, fun i hi => cpy0 _ _ i hi, O.l.trans f4, f5, f6⟩
  · unfold fX6_readSetup fX6_readSetup_b0
    rw [a1, qa_b, e1, qa_b]
    exact f1
  · unfold fX10_load fX10_load_b0
    rw [rb_copy (a := 0) (b := 0) qa_0 qa_0 (by omega) (by omega) (by omega), qa_b, a2, qa_b, e2, qa_b]
    exact f2
theorem eAlp.cg {B : Int} {F : FS} {M M' : RS} (A : eAlp B F M) (h1 : mSt M' = mSt M) (h2 : mPa M' = mPa M) (h3 : mSa M' = mSa M) (h4 : mIs M' = mIs M) (h5 : mAo M' = mAo M) (h6 : mOu M' = mOu M) (h7 : mAc M' = mAc M) (h8 : mOl M' = mOl M) : eAlp B F M' := by
  unfold eAlp eHi eSv eOu at A ⊢
  rw [h1, h2, h3, h4, h5, h6, h7, h8]
  exact A
theorem eAlp.T {B : Int} {F : FS} {M : RS} (h : eAlp B F M) (k : KS) : eAlp B (gT F k) M := ⟨h.1, h.2.1, h.2.2.1, h.2.2.2.1, h.2.2.2.2.1, h.2.2.2.2.2⟩
theorem st_st (Y : RS) (a b : Nat → Int32) : nStA (nStA Y a) b = nStA Y b := rfl
theorem nSt_A (Y : RS) (i : Nat) (x : Int32) : nSt Y i x = nStA Y (upd (mSt Y) i x) := rfl
theorem c_load {B : Int} {F : FS} {M : RS} (A : eAll B F M) : eCw B (fX9_load F) (fX10_load M) := by
  obtain ⟨⟨n, n1, n2, n3, n4⟩, P2, P3⟩ := A.2.2.2.2.2.2
  have P : pRn (fP F) M n := ⟨n1, n2, n3, n4⟩
  have B1 := A.2.1.2.2.1
  have B2 := A.2.1.2.2.2.1
  obtain ⟨q, k, t, s, g, e1, e2, L, es, FL, D, J⟩ := su_sim (u := fT F) P
  obtain ⟨x1, x2, x3, x4, x5, x6, x7, x8, x9, x10⟩ := FL
  unfold fX9_load fX9_load_b0
  rw [e1, e2]
  unfold fX6_readSetup_b52 fX10_load_b47
  rw [rb_fine, qa_b]
  have all : ∀ u' : KS, eAll B (gP (gT (gP F q) u') (tLe (fP (gT (gP F q) u')) 0)) (nStA (nTl t 0) (mSt M)) := by
    intro u'
    have A1 : eAlp B F (nStA (nTl t 0) (mSt M)) := A.alp.cg rfl x3 x4 x5 x6 x7 x8 x10
    exact (((A1.P q).T u').P _).all ⟨⟨0, by omega, rfl, rfl, fun i hi => absurd hi (by omega)⟩, L.2.1, L.2.2.1⟩
  by_cases h0 : pEc q = 0
  · have hm : mEc (nTl t 0) = 0 := L.2.1.symm.trans h0
    obtain ⟨DQ, ES⟩ := D h0
    obtain ⟨u', l1, l2, l3, l4⟩ := lv_good DQ ES
    have l2' : fX10_deckAt 0 (mSt (nTl t 0)) = some (eV (mSt t) 0) := l2
    rw [if_pos hm, if_neg n10, l1, qa_b, if_pos h0, qa_b2, if_neg n10, l2', qa_b]
    have l5 := l4.mono B1 B2
    obtain ⟨w, w1, w2⟩ := sb_copy (fN (gP (gT (gP F q) u') (tLe (fP (gT (gP F q) u')) 0))) u'
    have R := l3.cp l4.2.1 w2
    obtain ⟨h', f1, f2⟩ := fg_sim (all u') R l5
    have w1' : fX8_copyFrom (fN (gP (gT (gP F q) u') (tLe (fP (gT (gP F q) u')) 0))) (fT (gP (gT (gP F q) u') (tLe (fP (gT (gP F q) u')) 0))) = some w := w1
    show eCw B (bnd (fX8_copyFrom (fN (gP (gT (gP F q) u') (tLe (fP (gT (gP F q) u')) 0))) (fT (gP (gT (gP F q) u') (tLe (fP (gT (gP F q) u')) 0)))) _) _
    rw [w1', qa_b]
    show eCw B (bnd (fX4_forget (fH (gN (gP (gT (gP F q) u') (tLe (fP (gT (gP F q) u')) 0)) w))) _) _
    rw [f1, qa_b]
    have e2' : nAc (nSt (nTl t 0) 1 (eV (mSt t) 0)) 0 = nAc (nStA (nStA (nTl t 0) (mSt M)) (upd (mSt t) 1 (eV (mSt t) 0))) 0 := by
      rw [st_st, nSt_A]
      rfl
    have c1 := f2.1.1.1.2.1
    refine ⟨_, _, _, rfl, ?_, f2⟩
    exact congrArg some (Prod.ext c1.symm e2')
  · have hm : ¬ mEc (nTl t 0) = 0 := fun h => h0 (L.2.1.trans h)
    obtain ⟨u', l1⟩ := lv_tot J
    rw [if_neg hm, if_pos (rfl : (0 : Int32) = 0), l1, qa_b, if_neg h0, qa_b2, if_pos (rfl : (0 : Int32) = 0), rb_copy (a := 0) (b := 0) qa_0 qa_0 (by omega) (by omega) (by omega), qa_b]
    have A1 := all u'
    have eg : ∀ i, i < 561 → va_cpy (mAs (nTl t 0)) (mSt (nTl t 0)) 0 0 561 i = mSt M i := by
      intro i hi
      have xs : mAs (nTl t 0) = s := x1
      rw [cpy0 _ _ i hi, xs]
      exact es i hi
    exact ⟨-1, _, _, rfl, rfl, A.1.cong A.2.1.2.1 eg, A.2.1.cong eg, A1.2.2⟩
