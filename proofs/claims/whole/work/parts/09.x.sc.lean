/-! the script: its commands read, then done -/
theorem ch_sim {p : PS} {M : RS} {n : Nat} (L : pRl p M n) (h0 : pEc p = 0) : ∃ k : Int32, fX6_commandHere p = some k ∧ fX10_commandHere M = some k ∧ (k = -1 ∨ ∃ j : Nat, j ≤ 8 ∧ k = nI j) := by
  obtain ⟨b0, c0, d0, q0, _⟩ := wd_sim L (w := 32) (v := 53) (l := [116, 105, 99, 107]) rfl rfl (by decide) (by decide)
  obtain ⟨b1, c1, d1, q1, _⟩ := wd_sim L (w := 26) (v := 52) (l := [99, 97, 114]) rfl rfl (by decide) (by decide)
  obtain ⟨b2, c2, d2, q2, _⟩ := wd_sim L (w := 33) (v := 54) (l := [119, 97, 118, 101]) rfl rfl (by decide) (by decide)
  obtain ⟨b3, c3, d3, q3, _⟩ := wd_sim L (w := 34) (v := 55) (l := [100, 105, 115, 109, 105, 115, 115]) rfl rfl (by decide) (by decide)
  obtain ⟨b4, c4, d4, q4, _⟩ := wd_sim L (w := 35) (v := 56) (l := [117, 110, 108, 111, 97, 100]) rfl rfl (by decide) (by decide)
  obtain ⟨b5, c5, d5, q5, _⟩ := wd_sim L (w := 36) (v := 57) (l := [103, 97, 116, 101]) rfl rfl (by decide) (by decide)
  obtain ⟨b6, c6, d6, q6, _⟩ := wd_sim L (w := 37) (v := 58) (l := [99, 114, 97, 110, 107]) rfl rfl (by decide) (by decide)
  obtain ⟨b7, c7, d7, q7, _⟩ := wd_sim L (w := 23) (v := 50) (l := [119, 105, 110, 99, 104]) rfl rfl (by decide) (by decide)
  obtain ⟨b8, c8, d8, q8, _⟩ := wd_sim L (w := 24) (v := 51) (l := [99, 114, 111, 115, 115]) rfl rfl (by decide) (by decide)
  rw [if_pos h0] at d0 d1 d2 d3 d4 d5 d6 d7 d8
  unfold fX6_commandHere fX6_commandHere_b0 fX10_commandHere fX10_commandHere_b0
  rw [c0, c1, c2, c3, c4, c5, c6, c7, c8, d0, d1, d2, d3, d4, d5, d6, d7, d8]
  simp only [qa_b]
  rcases q0 with q | q
  rotate_left
  · subst q
    rw [if_neg n10]
    exact ⟨_, rfl, rfl, Or.inr ⟨0, by omega, rfl⟩⟩
  subst q
  rw [if_pos rfl]
  rcases q1 with q | q
  rotate_left
  · subst q
    rw [if_neg n10]
    exact ⟨_, rfl, rfl, Or.inr ⟨1, by omega, rfl⟩⟩
  subst q
  rw [if_pos rfl]
  rcases q2 with q | q
  rotate_left
  · subst q
    rw [if_neg n10]
    exact ⟨_, rfl, rfl, Or.inr ⟨2, by omega, rfl⟩⟩
  subst q
  rw [if_pos rfl]
  rcases q3 with q | q
  rotate_left
  · subst q
    rw [if_neg n10]
    exact ⟨_, rfl, rfl, Or.inr ⟨3, by omega, rfl⟩⟩
  subst q
  rw [if_pos rfl]
  rcases q4 with q | q
  rotate_left
  · subst q
    rw [if_neg n10]
    exact ⟨_, rfl, rfl, Or.inr ⟨4, by omega, rfl⟩⟩
  subst q
  rw [if_pos rfl]
  rcases q5 with q | q
  rotate_left
  · subst q
    rw [if_neg n10]
    exact ⟨_, rfl, rfl, Or.inr ⟨5, by omega, rfl⟩⟩
  subst q
  rw [if_pos rfl]
  rcases q6 with q | q
  rotate_left
  · subst q
    rw [if_neg n10]
    exact ⟨_, rfl, rfl, Or.inr ⟨6, by omega, rfl⟩⟩
  subst q
  rw [if_pos rfl]
  rcases q7 with q | q
  rotate_left
  · subst q
    rw [if_neg n10]
    exact ⟨_, rfl, rfl, Or.inr ⟨7, by omega, rfl⟩⟩
  subst q
  rw [if_pos rfl]
  rcases q8 with q | q
  rotate_left
  · subst q
    rw [if_neg n10]
    exact ⟨_, rfl, rfl, Or.inr ⟨8, by omega, rfl⟩⟩
  subst q
  rw [if_pos rfl]
  exact ⟨-1, rfl, rfl, Or.inl rfl⟩
theorem pe_e {M : RS} (h : ¬ mEc M = 0) : fX10_parseEnd M = some M := by
  unfold fX10_parseEnd fX10_parseEnd_b0 fX10_parseEnd_b14
  rw [rq_e h, rq_e h, qa_b, pd_e h, qa_b]
  split <;> rfl
theorem put_e {M : RS} (h : ¬ mEc M = 0) (x v : Int32) : fX10_put x v M = some M := by
  unfold fX10_put fX10_put_b0
  rw [rb_fine, qa_b, if_neg h, if_pos (rfl : (0 : Int32) = 0)]
theorem b35_e {M M' : RS} {s x : Int32} (e : fX10_require s 4 M = some M') (h : ¬ mEc M' = 0) : fX10_parseCommand_b35 x s M = some M' := by
  unfold fX10_parseCommand_b35 fX10_parseCommand_b61
  rw [e, qa_b, put_e h, qa_b, pd_e h, qa_b, rb_fine, qa_b, if_neg h, if_pos (rfl : (0 : Int32) = 0), pe_e h, qa_b, rb_fine, qa_b, if_neg h, if_pos (rfl : (0 : Int32) = 0)]
/-- the commands read so far -/
def eRw (p : PS) (M : RS) (i : Nat) : Prop := mCo M (4 * i) = pCo p (4 * i) ∧ eRow (pCo p (4 * i)) (pCo p (4 * i + 1)) (pCo p (4 * i + 2)) (pCo p (4 * i + 3)) (mCo M (4 * i + 1)) (mCo M (4 * i + 2)) (mCo M (4 * i + 3))
def pPl (p : PS) (M : RS) (n c : Nat) : Prop := pRl p M n ∧ c ≤ 40 ∧ pCc p = nI c ∧ mCc M = nI c ∧ ∀ i, i < c → eRw p M i
/-- one command -/
theorem cm_sim {p : PS} {M : RS} {n c : Nat} (P : pPl p M n c) (h0 : pEc p = 0) : ∃ p' M', fX6_readCommand p = some p' ∧ fX10_parseCommand M = some M' ∧ pRl p' M' n ∧ eFo M M' ∧ (pEc p' = 0 → pPl p' M' n (c + 1)) := by
  obtain ⟨L, h40, hp, hm, hr⟩ := P
  have hC := qa_nI (n := c) (by omega)
  have v40 : (40 : Int32).toInt = 40 := by decide
  obtain ⟨k, c1, c2, c3⟩ := ch_sim L h0
  unfold fX6_readCommand fX6_readCommand_b0 fX10_parseCommand fX10_parseCommand_b0
  rw [c1, c2, qa_b, qa_b]
  rcases c3 with q | ⟨j, hj, q⟩
  · subst q
    obtain ⟨p', M', e1, e2, e3, e4, e5, e6⟩ := fl_sim L (c := 1) n10
    have eb : fX10_parseCommand_b16 (-1) 0 M = some M' := by
      unfold fX10_parseCommand_b16
      rw [e2, qa_b, b35_e (rq_e e5 0 4) e5, b35_e (rq_e e5 1 4) e5]
      split <;> rfl
    rw [if_pos rfl, if_pos rfl, e1, qa_b, eb]
    exact ⟨p', M', rfl, rfl, e3.1, e3.2.1.o, fun h => absurd h e4⟩
  · have kn : ¬ k = -1 := by
      rw [q, qa_eq, qa_nI (by omega), qa_m1]
      omega
    rw [if_neg kn, if_neg kn, hp]
    unfold fX10_parseCommand_b16
    rw [rq_1, qa_b, hm]
    by_cases h4 : c < 40
    · rw [if_pos (by rw [qa_lt, v40]; omega), if_neg (by rw [qa_le, v40]; omega)]
      obtain ⟨M1, f1, f2, f3, f4, f5⟩ := put_sim L hm h4 (j := 0) (by omega) (rfl : (0 : Int32) = nI 0) k
      rw [if_pos h0] at f5
      obtain ⟨p2, M2, g1, g2, g3, g4, _⟩ := pr_sim f2
      have h2 : pEc p2 = 0 := g4.trans h0
      have hm2 : mEc M2 = 0 := by rw [← g3.1.2.1]; exact h2
      obtain ⟨p3, M3, i1, i2, i3⟩ := ag_sim (p := p2) (M := M2) (n := n) (c := c) ⟨g3.1, eFo.refl M2, g3.2.1.cc.trans f4, rfl, g3.2.1.pc.trans hp, fun z => ⟨z, Int.le_refl _, fun _ _ => rfl⟩⟩ h4 h2 hj
      obtain ⟨k1, k2, k3, k4⟩ := i3
      obtain ⟨p4, M4, l1, l2, l3, l4⟩ := se_sim k1
      rw [← q] at i1 i2
      rw [g1, qa_b, i1, qa_b, l1, qa_b]
      unfold fX10_parseCommand_b35 fX10_parseCommand_b61
      rw [rq_1, qa_b, f1, qa_b, g2, qa_b, rb_fine, qa_b, if_pos hm2, if_neg n10, i2, qa_b, l2, qa_b, rb_fine, qa_b]
      have O : eFo M M4 := ((f3.trans g3.2.1.o).trans k2).trans l3.2.1.o
      by_cases h5 : pEc p4 = 0
      · have hm4 : mEc M4 = 0 := by rw [← l3.1.2.1]; exact h5
        obtain ⟨m1, m2, m3, m4, m5, m6⟩ := k4 (l3.2.2 h5).1
        have ec : mCc M4 = nI c := l3.2.1.cc.trans k3
        rw [if_pos hm4, if_neg n10, ec, nI_1]
        refine ⟨p4, nCc M4 (nI (c + 1)), rfl, rfl, l3.1.cgM rfl rfl rfl rfl rfl rfl rfl rfl, O.trans ⟨rfl, rfl, rfl, rfl, rfl, rfl, rfl, rfl, rfl, rfl, rfl⟩, fun _ => ⟨l3.1.cgM rfl rfl rfl rfl rfl rfl rfl rfl, by omega, l3.2.1.pc.trans m2, rfl, fun i hi => ?_⟩⟩
        show mCo M4 (4 * i) = pCo p4 (4 * i) ∧ eRow (pCo p4 (4 * i)) (pCo p4 (4 * i + 1)) (pCo p4 (4 * i + 2)) (pCo p4 (4 * i + 3)) (mCo M4 (4 * i + 1)) (mCo M4 (4 * i + 2)) (mCo M4 (4 * i + 3))
        rw [l3.2.1.co, l3.2.1.po]
        by_cases e : i = c
        · subst e
          rw [m5, m4 (4 * i) (by omega), g3.2.1.co, f5]
          exact ⟨(uq_s (mCo M) (4 * i) k).trans q, m6⟩
        · have old : ∀ x, x < 4 * c → pCo p3 x = pCo p x ∧ mCo M3 x = mCo M x := by
            intro x hx
            rw [m3 x hx, g3.2.1.po, m4 x (by omega), g3.2.1.co, f5, uq_o _ _ (by omega)]
            exact ⟨rfl, rfl⟩
          rw [(old (4 * i) (by omega)).1, (old (4 * i) (by omega)).2, (old (4 * i + 1) (by omega)).1, (old (4 * i + 1) (by omega)).2, (old (4 * i + 2) (by omega)).1, (old (4 * i + 2) (by omega)).2, (old (4 * i + 3) (by omega)).1, (old (4 * i + 3) (by omega)).2]
          exact hr i (by omega)
      · have hm4 : ¬ mEc M4 = 0 := by rw [← l3.1.2.1]; exact h5
        rw [if_neg hm4, if_pos (rfl : (0 : Int32) = 0)]
        exact ⟨p4, M4, rfl, rfl, l3.1, O, fun h => absurd h h5⟩
    · rw [if_neg (by rw [qa_lt, v40]; omega), if_pos (by rw [qa_le, v40]; omega)]
      obtain ⟨p', M', e1, e2, e3, e4, e5, e6⟩ := fl_sim L (c := 4) (by decide)
      rw [e1, qa_b, b35_e e2 e5]
      exact ⟨p', M', rfl, rfl, e3.1, e3.2.1.o, fun h => absurd h e4⟩
/-- a text's beginning -/
theorem st_f (p : PS) : (pBy (tEn (tEp (tEc p 0) (-1)) 0) = pBy p ∧ pLe (tEn (tEp (tEc p 0) (-1)) 0) = pLe p ∧ pCo (tEn (tEp (tEc p 0) (-1)) 0) = pCo p ∧ pCc (tEn (tEp (tEc p 0) (-1)) 0) = pCc p ∧ pSo (tEn (tEp (tEc p 0) (-1)) 0) = pSo p ∧ pKo (tEn (tEp (tEc p 0) (-1)) 0) = pKo p) ∧ pEc (tEn (tEp (tEc p 0) (-1)) 0) = 0 ∧ pEp (tEn (tEp (tEc p 0) (-1)) 0) = -1 ∧ pEn (tEn (tEp (tEc p 0) (-1)) 0) = 0 := by
  dsimp only [tEp, tEc, tEn, pBy, pLe, pCo, pCc, pSo, pKo, pEc, pEp, pEn]
  exact ⟨⟨rfl, rfl, rfl, rfl, rfl, rfl⟩, rfl, rfl, rfl⟩
def stM (M : RS) : RS := nTk (nTd (nCc (nPo (nEp (nEc M 0) (-1)) 0) 0) 0) 0
theorem st_m (M : RS) : eFo M (stM M) ∧ mTx (stM M) = mTx M ∧ mTl (stM M) = mTl M ∧ mCo (stM M) = mCo M ∧ mEc (stM M) = 0 ∧ mEp (stM M) = -1 ∧ mPo (stM M) = 0 ∧ mCc (stM M) = 0 ∧ mTd (stM M) = 0 ∧ mTk (stM M) = 0 := by
  unfold eFo
  dsimp only [stM, nTk, nTd, nCc, nPo, nEp, nEc, mSt, mAs, mTr, mPa, mSa, mIs, mAo, mTx, mCo, mOu, mAc, mTh, mCc, mTl, mTd, mTk, mOl, mEc, mEp, mPo]
  exact ⟨⟨rfl, rfl, rfl, rfl, rfl, rfl, rfl, rfl, rfl, rfl, rfl⟩, rfl, rfl, rfl, rfl, rfl, rfl, rfl, rfl, rfl⟩
theorem st_sim {p : PS} {M : RS} {n : Nat} (P : pRn p M n) : ∃ p' M', fX6_readFirstToken p = some p' ∧ fX10_startText M = some M' ∧ pRl p' M' n ∧ pEc p' = 0 ∧ eFo M M' ∧ (pCo p' = pCo p ∧ pCc p' = pCc p ∧ pSo p' = pSo p ∧ pKo p' = pKo p) ∧ mCc M' = 0 ∧ mTd M' = 0 ∧ mTk M' = 0 := by
  obtain ⟨⟨a1, a2, a3, a4, a5, a6⟩, b1, b2, b3⟩ := st_f p
  obtain ⟨c1, c2, c3, c4, c5, c6, c7, c8, c9, c10⟩ := st_m M
  have P1 : pRn (tEn (tEp (tEc p 0) (-1)) 0) (stM M) n := by
    unfold pRn
    rw [a1, a2, c2, c3]
    exact P
  obtain ⟨p', M', a', e', d1, d2, d3, d4, d5, d6, d7, d8, d9⟩ := tok_sim P1 b1 (e := 0) (by omega) b3 c7
  unfold fX6_readFirstToken fX6_readFirstToken_b0 fX10_startText fX10_startText_b0
  rw [d1, qa_b]
  have er : bnd (fX10_advance (nTk (nTd (nCc (nPo (nEp (nEc M 0) (-1)) 0) 0) 0) 0)) (fun u31 => some u31) = some M' := by
    rw [show nTk (nTd (nCc (nPo (nEp (nEc M 0) (-1)) 0) 0) 0) 0 = stM M from rfl, d2, qa_b]
  rw [er]
  obtain ⟨⟨f1, f2, f3, f4, f5, f6⟩, g1, g2, g3, g4, g5, g6, g7, g8, g9, g10, g11, g12, g13, g14, g15, g16, g17⟩ := d3
  have F : eFp (tEn (tEp (tEc p 0) (-1)) 0) p' (stM M) M' := ⟨⟨f1, f2, f3, f4, f5, f6⟩, g1, g2, g3, g4, g5, g6, g7, g8, g9, g10, g11, g12, g13, g14, g15, g16, g17⟩
  exact ⟨p', M', rfl, rfl, ⟨P1.fp F, by rw [d4, d6, b1, c5], by rw [d5, d7, b2, c6], a', e', d9.1, d9.2.1, d9.2.2.1, d9.2.2.2.2.1, fun _ => d9⟩, d4.trans b1, c1.trans F.o, ⟨f3.trans a3, f4.trans a4, f5.trans a5, f6.trans a6⟩, g13.trans c8, g15.trans c9, g16.trans c10⟩
/-- the whole script, read -/
theorem sc_sim {p : PS} {M : RS} {n : Nat} (P : pRn p M n) : ∃ p' M', fX6_readScript p = some (if pEc p' = 0 then 1 else 0, p') ∧ fX10_play_b0 M = fX10_play_b30 M' ∧ pRl p' M' n ∧ eFo (nTh M 0) M' ∧ (pEc p' = 0 → ∃ c, pPl p' M' n c) := by
  have P0 : pRn (tCc p 0) (nTh M 0) n := P
  obtain ⟨p1, M1, e1, e2, L, e4, O, ⟨e5, e6, e7, e8⟩, e9, e10, e11⟩ := st_sim P0
  have e6' : pCc p1 = 0 := e6.trans rfl
  unfold fX6_readScript fX6_readScript_b0 fX10_play_b0
  rw [e1, e2, qa_b, qa_b]
  have v5 : (500 : Int32).toInt = 500 := by decide
  refine qa_lrel (fun j (s : Int32 × PS) (t : RS) => ∃ q, s = (nI j, q) ∧ pRl q t n ∧ eFo (nTh M 0) t ∧ (pEc q = 0 → pPl q t n j)) (fun a b => ∃ p' M', a = some (if pEc p' = 0 then 1 else 0, p') ∧ b = fX10_play_b30 M' ∧ pRl p' M' n ∧ eFo (nTh M 0) M' ∧ (pEc p' = 0 → ∃ c, pPl p' M' n c)) 41 ?_ 5000 5000 0 (0, p1) M1 ⟨p1, rfl, L, O, fun _ => ⟨L, by omega, e6', e9, fun i hi => by omega⟩⟩ (by omega) (by omega) (by omega)
  intro j s t k l hj ⟨q, s1, s2, s3, s4⟩ hk
  subst s1
  have hJ := qa_nI (n := j) (by omega)
  show ∃ p' M', fX6_readScript_b11 k (nI j) q = _ ∧ fX10_play_b9 l t = _ ∧ _
  unfold fX6_readScript_b11 fX6_readScript_b42 fX10_play_b9
  have out : (if pEc q = 0 then some ((1 : Int32), q) else some (0, q)) = some (if pEc q = 0 then 1 else 0, q) := by
    split <;> rfl
  rw [if_neg (by rw [qa_lt, v5]; omega), rb_fine, qa_b, out]
  by_cases h0 : pEc q = 0
  · have hm : mEc t = 0 := by rw [← s2.2.1]; exact h0
    obtain ⟨_, _, _, a, e, _, _, _, _, tk⟩ := id s2
    have ty := (tk h0).ty0
    rw [if_pos hm, if_neg n10]
    by_cases t0 : pTy q = 0
    · rw [if_pos t0, if_pos (ty.mp t0)]
      exact ⟨q, t, rfl, rfl, s2, s3, fun h => ⟨j, s4 h⟩⟩
    · have P := s4 h0
      have hj40 := P.2.1
      obtain ⟨p', M', f1, f2, f3, f4, f5⟩ := cm_sim P h0
      rw [if_neg t0, if_neg (fun h => t0 (ty.mpr h)), f2, qa_b]
      have hk' := hk (nI (j + 1), p') M' (by omega) ⟨p', rfl, f3, s3.trans f4, f5⟩
      obtain ⟨p2, M2, g1, g2⟩ := hk'
      refine ⟨p2, M2, ?_, g2⟩
      rw [if_pos h0, f1, qa_b, nI_1]
      exact g1
  · have hm : ¬ mEc t = 0 := by rw [← s2.2.1]; exact h0
    rw [if_neg hm, if_pos (rfl : (0 : Int32) = 0)]
    refine ⟨q, t, ?_, rfl, s2, s3, fun h => absurd h h0⟩
    rw [if_neg h0]
    split <;> rfl
/-- a command's part -/
theorem cp_at {p : PS} {i c : Nat} (hc : pCc p = nI c) (hi : i < c) (h40 : c ≤ 40) {k : Nat} (hk : k ≤ 3) {x : Int32} (hx : x = nI k) : fX6_commandPart (nI i) x p = some (pCo p (4 * i + k)) := by
  subst hx
  have hI := qa_nI (n := i) (by omega)
  have hC := qa_nI (n := c) (by omega)
  have hK := qa_nI (n := k) (by omega)
  have e0 : (nI i * 4).toInt = ((4 * i : Nat) : Int) := by
    rw [qa_mul, hI, qa_4]
    · omega
    · rw [hI, qa_4]; omega
    · rw [hI, qa_4]; omega
  have e1 : (nI i * 4 + nI k).toInt = ((4 * i + k : Nat) : Int) := by
    rw [qa_add, e0, hK]
    · omega
    · rw [e0, hK]; omega
    · rw [e0, hK]; omega
  unfold fX6_commandPart fX6_commandPart_b0
  rw [if_neg (by rw [qa_lt, qa_0]; omega), hc, if_neg (by rw [qa_le]; omega), sc_at (4 * i + k) e1 (by omega) (by omega), qa_b]
/-- a command, done -/
theorem pm_sim {B : Int} {F : FS} {M : RS} (A : eAll B F M) (h' : B + 400 ≤ 100000000) {i c : Nat} (hi : i < c) (h40 : c ≤ 40) (hc : pCc (fP F) = nI c) (W : eRw (fP F) M i) : ∃ s F' M', fX9_perform (nI i) F = some (s, F') ∧ fX10_doCommand (4 * nI i) M = some (s, M') ∧ eAll (B + 400) F' M' ∧ eKp F F' M M' := by
  have hI := qa_nI (n := i) (by omega)
  have e0 : (4 * nI i).toInt = ((4 * i : Nat) : Int) := by
    rw [qa_mul, hI, qa_4]
    · omega
    · rw [hI, qa_4]; omega
    · rw [hI, qa_4]; omega
  have ek : ∀ k : Nat, k ≤ 3 → (4 * nI i + nI k).toInt = ((4 * i + k : Nat) : Int) := by
    intro k hk
    have hK := qa_nI (n := k) (by omega)
    rw [qa_add, e0, hK]
    · omega
    · rw [e0, hK]; omega
    · rw [e0, hK]; omega
  have f1 := ek 1 (by omega)
  have f2 := ek 2 (by omega)
  have f3 := ek 3 (by omega)
  rw [show nI 1 = 1 from rfl] at f1
  rw [show nI 2 = 2 from rfl] at f2
  rw [show nI 3 = 3 from rfl] at f3
  obtain ⟨w0, w⟩ := W
  unfold fX9_perform fX9_perform_b0 fX10_doCommand fX10_doCommand_b0
  rw [cp_at hc hi h40 (k := 1) (by omega) (rfl : (1 : Int32) = nI 1), cp_at hc hi h40 (k := 2) (by omega) (rfl : (2 : Int32) = nI 2), cp_at hc hi h40 (k := 3) (by omega) (rfl : (3 : Int32) = nI 3), cp_at hc hi h40 (k := 0) (by omega) (rfl : (0 : Int32) = nI 0), qa_b, qa_b, qa_b, qa_b]
  rw [qa_gi (by omega) (by omega), qa_gi (by omega) (by omega), qa_gi (by omega) (by omega), qa_ix e0, qa_ix f1, qa_ix f2, w0]
  rw [show 4 * i + 0 = 4 * i from rfl]
  have fin : ∀ {o : Option (Int32 × FS)} {o' : Option (Int32 × RS)}, (∃ s F' M', o = some (s, F') ∧ o' = some (s, M') ∧ eAll (B + 400) F' M' ∧ eKp F F' M M') → ∃ s F' M', bnd2 o (fun r u => some (r, u)) = some (s, F') ∧ bnd2 o' (fun r u => some (r, u)) = some (s, M') ∧ eAll (B + 400) F' M' ∧ eKp F F' M M' := by
    intro o o' ⟨s, F', M', g1, g2, g3⟩
    rw [g1, g2, qa_b2, qa_b2]
    exact ⟨s, F', M', rfl, rfl, g3⟩
  generalize pCo (fP F) (4 * i) = k at w ⊢
  generalize pCo (fP F) (4 * i + 1) = a1 at w ⊢
  generalize pCo (fP F) (4 * i + 2) = a2 at w ⊢
  generalize pCo (fP F) (4 * i + 3) = a3 at w ⊢
  generalize mCo M (4 * i + 1) = b1 at w ⊢
  generalize mCo M (4 * i + 2) = b2 at w ⊢
  rcases w with ⟨k0, u1, u2, u3⟩ | ⟨k0, u1, u2, u3, u4, u5, u6⟩ | ⟨k0, u1⟩ | ⟨k0, u1⟩ | ⟨k0, u1, u2, u3⟩ | ⟨k0, u1, u2⟩ | ⟨k0, u1, u2, u3⟩ | ⟨k0, u1, u2, u3, u4, u5, u6, u7, u8, u9⟩ | ⟨k0, u1, u2, u3, u4, u5, u6⟩
  · subst k0
    rw [if_pos (rfl : (0 : Int32) = 0), if_pos (rfl : (0 : Int32) = 0)]
    subst u1
    exact fin (do_tick A h' (n := ix b1) (by have := qa_ixI (i := b1) (by omega); omega) (qa_ixI (by omega)))
  · subst k0
    rw [if_neg (by decide : ¬ (1 : Int32) = 0), if_pos (rfl : (1 : Int32) = 1), if_neg (by decide : ¬ (1 : Int32) = 0), if_pos (rfl : (1 : Int32) = 1)]
    subst u1
    subst u2
    exact fin (do_arrive A h' u3 u4 u5 u6)
  · subst k0
    rw [if_neg (by decide : ¬ (2 : Int32) = 0), if_neg (by decide : ¬ (2 : Int32) = 1), if_pos (rfl : (2 : Int32) = 2), if_neg (by decide : ¬ (2 : Int32) = 0), if_neg (by decide : ¬ (2 : Int32) = 1), if_pos (rfl : (2 : Int32) = 2)]
    subst u1
    exact fin (do_wave A h' _)
  · subst k0
    rw [if_neg (by decide : ¬ (3 : Int32) = 0), if_neg (by decide : ¬ (3 : Int32) = 1), if_neg (by decide : ¬ (3 : Int32) = 2), if_pos (rfl : (3 : Int32) = 3), if_neg (by decide : ¬ (3 : Int32) = 0), if_neg (by decide : ¬ (3 : Int32) = 1), if_neg (by decide : ¬ (3 : Int32) = 2), if_pos (rfl : (3 : Int32) = 3)]
    subst u1
    exact fin (do_dismiss A h' _)
  · subst k0
    rw [if_neg (by decide : ¬ (4 : Int32) = 0), if_neg (by decide : ¬ (4 : Int32) = 1), if_neg (by decide : ¬ (4 : Int32) = 2), if_neg (by decide : ¬ (4 : Int32) = 3), if_pos (rfl : (4 : Int32) = 4), if_neg (by decide : ¬ (4 : Int32) = 0), if_neg (by decide : ¬ (4 : Int32) = 1), if_neg (by decide : ¬ (4 : Int32) = 2), if_neg (by decide : ¬ (4 : Int32) = 3), if_pos (rfl : (4 : Int32) = 4)]
    subst u1
    have e := qa_nIx (i := b1) u2
    rw [← e]
    exact fin (do_unload A h' (l := ix b1) (by have := qa_ixI (i := b1) u2; omega))
  · subst k0
    rw [if_neg (by decide : ¬ (5 : Int32) = 0), if_neg (by decide : ¬ (5 : Int32) = 1), if_neg (by decide : ¬ (5 : Int32) = 2), if_neg (by decide : ¬ (5 : Int32) = 3), if_neg (by decide : ¬ (5 : Int32) = 4), if_pos (rfl : (5 : Int32) = 5), if_neg (by decide : ¬ (5 : Int32) = 0), if_neg (by decide : ¬ (5 : Int32) = 1), if_neg (by decide : ¬ (5 : Int32) = 2), if_neg (by decide : ¬ (5 : Int32) = 3), if_neg (by decide : ¬ (5 : Int32) = 4), if_pos (rfl : (5 : Int32) = 5)]
    subst u1
    have e : (if b1 = 1 then fX10_doCommand_b114 1 M else fX10_doCommand_b114 0 M) = bnd2 (fX10_gateIt b1 M) (fun r u => some (r, u)) := by
      unfold fX10_doCommand_b114
      rcases u2 with q | q
      · subst q
        rw [if_neg (by decide : ¬ (0 : Int32) = 1)]
      · subst q
        rw [if_pos rfl]
    rw [e]
    exact fin (do_gate A h' u2)
  · subst k0
    rw [if_neg (by decide : ¬ (6 : Int32) = 0), if_neg (by decide : ¬ (6 : Int32) = 1), if_neg (by decide : ¬ (6 : Int32) = 2), if_neg (by decide : ¬ (6 : Int32) = 3), if_neg (by decide : ¬ (6 : Int32) = 4), if_neg (by decide : ¬ (6 : Int32) = 5), if_pos (rfl : (6 : Int32) = 6), if_neg (by decide : ¬ (6 : Int32) = 0), if_neg (by decide : ¬ (6 : Int32) = 1), if_neg (by decide : ¬ (6 : Int32) = 2), if_neg (by decide : ¬ (6 : Int32) = 3), if_neg (by decide : ¬ (6 : Int32) = 4), if_neg (by decide : ¬ (6 : Int32) = 5), if_pos (rfl : (6 : Int32) = 6)]
    subst u1
    exact fin (do_crank A h' u2 u3)
  · subst k0
    rw [if_neg (by decide : ¬ (7 : Int32) = 0), if_neg (by decide : ¬ (7 : Int32) = 1), if_neg (by decide : ¬ (7 : Int32) = 2), if_neg (by decide : ¬ (7 : Int32) = 3), if_neg (by decide : ¬ (7 : Int32) = 4), if_neg (by decide : ¬ (7 : Int32) = 5), if_neg (by decide : ¬ (7 : Int32) = 6), if_pos (rfl : (7 : Int32) = 7), if_neg (by decide : ¬ (7 : Int32) = 0), if_neg (by decide : ¬ (7 : Int32) = 1), if_neg (by decide : ¬ (7 : Int32) = 2), if_neg (by decide : ¬ (7 : Int32) = 3), if_neg (by decide : ¬ (7 : Int32) = 4), if_neg (by decide : ¬ (7 : Int32) = 5), if_neg (by decide : ¬ (7 : Int32) = 6), if_pos (rfl : (7 : Int32) = 7)]
    rw [qa_gi (by omega) (by omega), qa_ix f3]
    subst u1
    subst u2
    rw [u3]
    exact fin (do_winch A h' u4 u5 u6 u7 u8 u9)
  · subst k0
    rw [if_neg (by decide : ¬ (8 : Int32) = 0), if_neg (by decide : ¬ (8 : Int32) = 1), if_neg (by decide : ¬ (8 : Int32) = 2), if_neg (by decide : ¬ (8 : Int32) = 3), if_neg (by decide : ¬ (8 : Int32) = 4), if_neg (by decide : ¬ (8 : Int32) = 5), if_neg (by decide : ¬ (8 : Int32) = 6), if_neg (by decide : ¬ (8 : Int32) = 7), if_pos (rfl : (8 : Int32) = 8), if_neg (by decide : ¬ (8 : Int32) = 0), if_neg (by decide : ¬ (8 : Int32) = 1), if_neg (by decide : ¬ (8 : Int32) = 2), if_neg (by decide : ¬ (8 : Int32) = 3), if_neg (by decide : ¬ (8 : Int32) = 4), if_neg (by decide : ¬ (8 : Int32) = 5), if_neg (by decide : ¬ (8 : Int32) = 6), if_neg (by decide : ¬ (8 : Int32) = 7)]
    subst u1
    subst u2
    exact fin (do_cross A h' u3 u4 u5 u6)
