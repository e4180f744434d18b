/-! a kind, a car -/
theorem kd_t {p : PS} {u : KS} {M : RS} {n : Nat} (L : pRl p M n) {r r' : Int32} (r0 : 0 ≤ r.toInt) (r3 : r.toInt ≤ 3) (er : pEc p = 0 → r = r') (D : pEc p = 0 → dQ u (mSt M) ∧ eS (mSt M)) : ∃ p' u' M',
    bnd2 (fX6_readNumber 0 500 p) (fun r53 u53 => bnd2 (fX6_readNumber 0 99 u53) (fun r62 u62 => bnd2 (fX6_readNumber 1 9 u62) (fun r71 u71 => bnd (fX8_setKind r r53 r62 r71 u) (fun u84 => some (u71, u84))))) = some (p', u') ∧
    bnd2 (fX10_parseNumber 0 500 M) (fun r53 u53 => bnd2 (fX10_parseNumber 0 99 u53) (fun r61 u61 => bnd2 (fX10_parseNumber 1 9 u61) (fun r69 u69 => bnd (fX10_isFine u69) (fun r75 => (if r75 = 0 then some u69 else bnd (fX10_layKind r' r53 r61 r69 (mSt u69)) (fun u87 => some (nStA u69 u87))))))) = some M' ∧
    pLs p p' M M' n ∧ (pEc p' = 0 → dQ u' (mSt M') ∧ eS (mSt M')) ∧ sT u' = sT u := by
  have t500 : (500 : Int32).toInt = 500 := by decide
  have t99 : (99 : Int32).toInt = 99 := by decide
  have t9 : (9 : Int32).toInt = 9 := by decide
  obtain ⟨r1, s1, p1, M1, e1, f1, S1, b1, _, v1⟩ := rn_sim L (lo := 0) (hi := 500) (by decide) (by decide) (by decide)
  obtain ⟨r2, s2, p2, M2, e2, f2, S2, b2, _, v2⟩ := rn_sim S1.1 (lo := 0) (hi := 99) (by decide) (by decide) (by decide)
  obtain ⟨r4, s4, p4, M4, e4, f4, S4, b4, _, v4⟩ := rn_sim S2.1 (lo := 1) (hi := 9) (by decide) (by decide) (by decide)
  rw [qa_0, t500] at b1
  rw [qa_0, t99] at b2
  rw [qa_1, t9] at b4
  have hr := qa_ixI (i := r) r0
  have T := (((pLs.refl L).step S1).step S2).step S4
  have su : sT (kdU u (ix r) r1 r2 r4) = sT u := by
    dsimp only [kdU, wK, sT]
  rw [e1, qa_b2, e2, qa_b2, e4, qa_b2, kd_u (by omega) hr, qa_b, f1, qa_b2, f2, qa_b2, f4, qa_b2, rb_fine, qa_b]
  by_cases h : pEc p4 = 0
  · have hm : mEc M4 = 0 := by rw [← S4.1.2.1]; exact h
    have z2 := (S4.2.2 h).1
    have z1 := (S2.2.2 z2).1
    have z0 := (S1.2.2 z1).1
    obtain ⟨DQ, ES⟩ := D z0
    rw [if_pos hm, if_neg n10, ← er z0, kd_g (by omega) hr, qa_b]
    refine ⟨p4, _, nStA M4 (kdG (mSt M4) (ix r) s1 s2 s4), rfl, rfl, ⟨S4.1.cgM rfl rfl rfl rfl rfl rfl rfl rfl, T.2.1.trans ⟨rfl, rfl, rfl, rfl, rfl, rfl, rfl, rfl, rfl, rfl⟩, T.2.2.1, T.2.2.2.1, T.2.2.2.2.1, T.2.2.2.2.2.1, T.2.2.2.2.2.2⟩, fun _ => ?_, su⟩
    show dQ _ (kdG (mSt M4) (ix r) s1 s2 s4) ∧ eS (kdG (mSt M4) (ix r) s1 s2 s4)
    rw [S4.2.1.st, S2.2.1.st, S1.2.1.st, ← v1 z1, ← v2 z2, ← v4 h]
    exact ⟨DQ.kind (by omega) _ _ _, ES.kind (by omega) b1.1 b1.2 b2.1 b2.2 b4.1 b4.2⟩
  · have hm : ¬ mEc M4 = 0 := by rw [← S4.1.2.1]; exact h
    rw [if_neg hm, if_pos (rfl : (0 : Int32) = 0)]
    exact ⟨p4, _, M4, rfl, rfl, T, fun z => absurd z h, su⟩
/-- a kind, once an error is there -/
theorem kd_er {p : PS} {u : KS} {M : RS} {n : Nat} (L : pRl p M n) (h : ¬ pEc p = 0) {r : Int32} (r0 : 0 ≤ r.toInt) (r3 : r.toInt ≤ 3) (r' : Int32) : ∃ p' u' M', fX6_readKind_b36 r p u = some (p', u') ∧ (∀ s, fX10_parseKind_b28 r' s M = some M') ∧ pRl p' M' n ∧ eFl M M' ∧ ¬ pEc p' = 0 ∧ sT u' = sT u := by
  have hm : ¬ mEc M = 0 := by rw [← L.2.1]; exact h
  have L2 : pRl (tKo p (pKo p ||| (1 <<< (r &&& 31)))) (nTk M (mTk M ||| (1 <<< (r' &&& 31)))) n := (L.cgP rfl rfl rfl rfl rfl rfl rfl).cgM rfl rfl rfl rfl rfl rfl rfl rfl
  have hm2 : ¬ mEc (nTk M (mTk M ||| (1 <<< (r' &&& 31)))) = 0 := hm
  obtain ⟨p', u', M', c1, c2, c3, c4, c5⟩ := kd_t L2 (u := u) (r' := r') r0 r3 (fun z => absurd z h) (fun z => absurd z h)
  refine ⟨p', u', M', c1, fun s => ?_, c3.1, eFl.trans ⟨rfl, rfl, rfl, rfl, rfl, rfl, rfl, rfl, rfl, rfl⟩ c3.2.1, fun z => h (c3.2.2.1 z).1, c5⟩
  unfold fX10_parseKind_b28
  rw [rq_e hm, qa_b, pd_e hm2, qa_b]
  exact c2
def rT6 (u1 : RS) : Option RS := bnd2 (fX10_look 0 3 u1) (fun r7 u7 => (if (((mTk u7) >>> (r7 &&& 31)) &&& 1) = 0 then fX10_parseKind_b28 r7 1 u7 else fX10_parseKind_b28 r7 0 u7))
theorem ss_6 {p : PS} {u : KS} {M : RS} {n : Nat} (L : pRl p M n) (D : pEc p = 0 → dQ u (mSt M) ∧ eS (mSt M)) (J : (sT u 2).toInt ≤ 1000) (K : pEc p = 0 → pKo p = mTk M) : ∃ p' u' M', fX6_readSettings 6 p u = some (p', u') ∧ rT6 M = some M' ∧ pLd p p' u' M M' n := by
  have t3 : (3 : Int32).toInt = 3 := by decide
  have ec : fX6_readSettings 6 p u = bnd (fX6_readKind p u) (fun u259 => some (u259.1, u259.2)) := by
    unfold fX6_readSettings fX6_readSettings_b0
    rw [if_neg (by decide : ¬ (6 : Int32) = 0), if_neg (by decide : ¬ (6 : Int32) = 1), if_neg (by decide : ¬ (6 : Int32) = 2), if_neg (by decide : ¬ (6 : Int32) = 3), if_neg (by decide : ¬ (6 : Int32) = 4), if_neg (by decide : ¬ (6 : Int32) = 5), if_pos (rfl : (6 : Int32) = 6)]
  obtain ⟨r, r', p1, M1, M2, e1, e2, e3, S, b, b', v, x, _⟩ := lk_sim L (lo := 0) (hi := 3) (by decide) (by decide) (by decide)
  rw [qa_0, t3] at b
  unfold rT6
  rw [ec]
  unfold fX6_readKind fX6_readKind_b0
  rw [e1, qa_b2, e2, qa_b2]
  by_cases h1 : pEc p1 = 0
  · obtain ⟨v1, v2⟩ := v h1
    subst v1
    subst v2
    have h0 := (S.2.2 h1).1
    have hm : mEc M1 = 0 := by rw [← L.2.1]; exact h0
    have ko : pKo p1 = mTk M1 := S.2.1.ko.trans (K h0)
    rw [if_pos h1, ko]
    by_cases q : (mTk M1 >>> (r &&& 31)) &&& 1 = 0
    · rw [if_pos q, if_pos q]
      have L' : pRl p (nTk M1 (mTk M1 ||| (1 <<< (r &&& 31)))) n := L.cgM rfl rfl rfl rfl rfl rfl rfl rfl
      obtain ⟨r2, r2', q1, N1, N2, g1, g2, g3, S', _, _, w, _, _⟩ := lk_sim L' (lo := 0) (hi := 3) (by decide) (by decide) (by decide)
      have eq1 := (Prod.mk.inj (Option.some.inj (e1.symm.trans g1))).2
      subst eq1
      have eN1 := (w h1).2
      subst eN1
      have LL : pRl (tKo p1 (mTk M1 ||| (1 <<< (r &&& 31)))) N2 n := S'.1.cgP rfl rfl rfl rfl rfl rfl rfl
      obtain ⟨p', u', M', c1, c2, c3, c4, c5⟩ := kd_t LL (u := u) (r' := r) b.1 b.2 (fun _ => rfl) (fun _ => by rw [S'.2.1.st]; exact D h0)
      have cc : fX6_readKind_b36 r p1 u = some (p', u') := by
        unfold fX6_readKind_b36
        rw [ko]
        exact c1
      have cr : fX10_parseKind_b28 r 1 M1 = some M' := by
        unfold fX10_parseKind_b28
        rw [rq_1, qa_b, g3, qa_b]
        exact c2
      rw [cc, qa_b, cr]
      refine ⟨p', u', M', rfl, rfl, c3.1, eFl.trans (eFl.trans ⟨rfl, rfl, rfl, rfl, rfl, rfl, rfl, rfl, rfl, rfl⟩ S'.2.1.o.l) c3.2.1, fun z => ?_, by rw [c5]; exact J⟩
      exact ⟨h0, Int.le_trans (S.2.2 h1).2 (c3.2.2.1 z).2, c3.2.2.2.1.trans S.2.1.so, c3.2.2.2.2.1.trans S'.2.1.td, fun _ => c3.2.2.2.2.2.1.trans (c3.2.2.2.2.2.2.trans S'.2.1.tk).symm, (c4 z).1, (c4 z).2⟩
    · rw [if_neg q, if_neg q]
      obtain ⟨p2, M3, f1, f2, f3, f4, f5, f6⟩ := fe_sim (L.1.fp S.2.1.left) S.1.w h1 hm (c := 3) (x := pSt p) (by decide) (L.ts h0)
      obtain ⟨p', u', M', c1, c2, c3, c4, c5, c6⟩ := kd_er f3 f5 (u := u) b.1 b.2 r
      have cr : fX10_parseKind_b28 r 0 M1 = some M' := by
        rw [← c2 0]
        unfold fX10_parseKind_b28
        rw [f2, rq_e f6]
      rw [f1, qa_b, c1, qa_b, cr]
      exact ⟨p', u', M', rfl, rfl, c3, f4.o.l.trans c4, fun z => absurd z c5, by rw [c6]; exact J⟩
  · obtain ⟨x1, x2⟩ := x h1
    subst x2
    obtain ⟨p', u', M', c1, c2, c3, c4, c5, c6⟩ := kd_er S.1 h1 (u := u) b.1 b.2 r'
    rw [if_neg h1, c1, qa_b, c2, c2]
    refine ⟨p', u', M', rfl, ?_, c3, S.2.1.o.l.trans c4, fun z => absurd z c5, by rw [c6]; exact J⟩
    split <;> rfl
/-- a car in a set-up -/
theorem dQ.car {u : KS} {g : Nat → Int32} (D : dQ u g) (S : eS g) (hq : eQ g < 20) {k w : Int32} (k0 : 0 ≤ k.toInt) (k1 : k.toInt ≤ 3) (w0 : 1 ≤ w.toInt) (w1 : w.toInt ≤ 999) : dQ (adU u (eN g) (eQ g) k w (g 0)) (adG g (eN g) (eQ g) k w) ∧ eS (adG g (eN g) (eQ g) k w) := by
  obtain ⟨RB, RL⟩ := D.b
  obtain ⟨RA, _, G, Z, W, z0, z1, z2⟩ := D
  have hNQ : eN g = eQ g := by
    unfold eN eQ
    rw [z2]
  obtain ⟨A1, A2, A3, A4, A5, A6, A7, A8⟩ := ad_rel RA RB RL ⟨S, G, Z⟩ (by omega) hq k0 k1 w0 w1
  have e13 : adG g (eN g) (eQ g) k w 13 = nI (eN g + 1) := by
    unfold adG
    rw [uq_o _ _ (by omega), uq_o _ _ (by omega), uq_o _ _ (by omega), uq_o _ _ (by omega), uq_o _ _ (by omega), uq_o _ _ (by omega), uq_o _ _ (by omega), uq_o _ _ (by omega), uq_o _ _ (by omega), uq_s]
  have e14 : adG g (eN g) (eQ g) k w 14 = nI (eQ g + 1) := by
    unfold adG
    rw [uq_s]
  have W' : ∀ c, c < eN (adG g (eN g) (eQ g) k w) → eC (adG g (eN g) (eQ g) k w) c 2 = 0 := by
    intro c hc
    rw [A6] at hc
    by_cases e : c = eN g
    · subst e
      show adG g (eN g) (eQ g) k w (61 + 7 * eN g + 2) = 0
      unfold adG
      rw [uq_o _ _ (by omega), uq_o _ _ (by omega), uq_o _ _ (by omega), uq_o _ _ (by omega), uq_o _ _ (by omega), uq_o _ _ (by omega), uq_s]
    · have e2 : eC (adG g (eN g) (eQ g) k w) c 2 = eC g c 2 := by
        show adG g (eN g) (eQ g) k w (61 + 7 * c + 2) = g (61 + 7 * c + 2)
        unfold adG
        rw [uq_o _ _ (by omega), uq_o _ _ (by omega), uq_o _ _ (by omega), uq_o _ _ (by omega), uq_o _ _ (by omega), uq_o _ _ (by omega), uq_o _ _ (by omega), uq_o _ _ (by omega), uq_o _ _ (by omega), uq_o _ _ (by omega)]
      rw [e2]
      exact W c (by omega)
  obtain ⟨n1, n2, n3⟩ := w_0 W'
  refine ⟨⟨A1, ⟨A2.1.trans n1, A2.2.1.trans n2, fun l hl => ⟨(A2.2.2 l hl).1.trans (n3 _).1, (A2.2.2 l hl).2.trans (n3 _).2.1, ?_⟩⟩, A4.2.1, A4.2.2, W', (A8 0 (by omega) (by omega) (by omega)).trans z0, (A8 1 (by omega) (by omega) (by omega)).trans z1, by rw [e13, e14, hNQ]⟩, A4.1⟩
  obtain ⟨d, _, d1, d2, _⟩ := A3 l hl
  rw [d1, ← d2]
  exact (n3 _).2.2
def rT7 (u23 : RS) : Option RS := bnd2 (fX10_parseNumber 0 3 u23) (fun r29 u29 => bnd2 (fX10_parseNumber 1 999 u29) (fun r38 u38 => bnd (fX10_isFine u38) (fun r43 => (if r43 = 0 then some u38 else bnd2 (fX10_addCar r29 r38 (mSt u38)) (fun r52 u52 => some (nStA u38 u52))))))
theorem ss_7 {p : PS} {u : KS} {M : RS} {n : Nat} (L : pRl p M n) (D : pEc p = 0 → dQ u (mSt M) ∧ eS (mSt M)) (J : (sT u 2).toInt ≤ 1000) {m : Nat} (hm20 : m < 20) (C3 : sC u 3 = nI m) (C1 : sC u 1 = nI m) : ∃ p' u' M', fX6_readSettings 7 p u = some (p', u') ∧ rT7 M = some M' ∧ pLd p p' u' M M' n := by
  have t3 : (3 : Int32).toInt = 3 := by decide
  have t999 : (999 : Int32).toInt = 999 := by decide
  have ec : fX6_readSettings 7 p u = bnd (fX6_readCar p u) (fun u267 => some (u267.1, u267.2)) := by
    unfold fX6_readSettings fX6_readSettings_b0
    rw [if_neg (by decide : ¬ (7 : Int32) = 0), if_neg (by decide : ¬ (7 : Int32) = 1), if_neg (by decide : ¬ (7 : Int32) = 2), if_neg (by decide : ¬ (7 : Int32) = 3), if_neg (by decide : ¬ (7 : Int32) = 4), if_neg (by decide : ¬ (7 : Int32) = 5), if_neg (by decide : ¬ (7 : Int32) = 6)]
  obtain ⟨r1, s1, p1, M1, e1, f1, S1, b1, _, v1⟩ := rn_sim L (lo := 0) (hi := 3) (by decide) (by decide) (by decide)
  obtain ⟨r2, s2, p2, M2, e2, f2, S2, b2, _, v2⟩ := rn_sim S1.1 (lo := 1) (hi := 999) (by decide) (by decide) (by decide)
  rw [qa_0, t3] at b1
  rw [qa_1, t999] at b2
  have T := ((pLs.refl L).step S1).step S2
  have su : sT (adU u m m r1 r2 (sC u 0)) = sT u := by
    dsimp only [adU, wC, wQ, wA, sT]
  unfold rT7
  rw [ec]
  unfold fX6_readCar fX6_readCar_b0
  rw [e1, qa_b2, e2, qa_b2, ad_u (by omega) hm20 C3 C1, qa_b2, qa_b, f1, qa_b2, f2, qa_b2, rb_fine, qa_b]
  by_cases h : pEc p2 = 0
  · have hm : mEc M2 = 0 := by rw [← S2.1.2.1]; exact h
    have z1 := (S2.2.2 h).1
    have z0 := (S1.2.2 z1).1
    obtain ⟨DQ, ES⟩ := D z0
    have k3 : (mSt M) 13 = nI m := DQ.1.1.2.2.1.symm.trans C3
    have k1 : (mSt M) 14 = nI m := DQ.1.1.2.1.symm.trans C1
    have k0 : sC u 0 = (mSt M) 0 := DQ.1.1.1
    have hN : eN (mSt M) = m := by
      unfold eN
      rw [k3]
      exact qa_ixn (by omega)
    have hQ' : eQ (mSt M) = m := by
      unfold eQ
      rw [k1]
      exact qa_ixn (by omega)
    have st : mSt M2 = mSt M := S2.2.1.st.trans S1.2.1.st
    rw [if_pos hm, if_neg n10, st, ad_g (by omega) hm20 k3 k1, qa_b2, ← v1 z1, ← v2 h]
    have R := DQ.car ES (by omega) b1.1 b1.2 b2.1 b2.2
    rw [hN, hQ', ← k0] at R
    have T2 : pLs p p2 M (nStA M2 (adG (mSt M) m m r1 r2)) n := ⟨S2.1.cgM rfl rfl rfl rfl rfl rfl rfl rfl, T.2.1.trans ⟨rfl, rfl, rfl, rfl, rfl, rfl, rfl, rfl, rfl, rfl⟩, T.2.2.1, T.2.2.2.1, T.2.2.2.2.1, T.2.2.2.2.2.1, T.2.2.2.2.2.2⟩
    exact ⟨p2, _, nStA M2 (adG (mSt M) m m r1 r2), rfl, rfl, T2.fin (by rw [su]; exact J) fun _ => R⟩
  · have hm : ¬ mEc M2 = 0 := by rw [← S2.1.2.1]; exact h
    rw [if_neg hm, if_pos (rfl : (0 : Int32) = 0)]
    exact ⟨p2, _, M2, rfl, rfl, T.fin (by rw [su]; exact J) fun z => absurd z h⟩
