/-! words, numbers, heights, ends of statements: both parsers -/
theorem at_tot (x : Int32) {n : Nat} (hn : n < 1000) (f : Nat → Int32) : ∃ y, fX9_at x n f = some y := by
  have hN := qa_nI (n := n) (by omega)
  unfold fX9_at fX9_at_b0
  by_cases h1 : x < 0
  · exact ⟨_, if_pos h1⟩
  rw [if_neg h1]
  by_cases h2 : Int32.ofNat n ≤ x
  · exact ⟨_, if_pos h2⟩
  rw [if_neg h2]
  rw [qa_lt, qa_0] at h1
  have h3 : ¬ (nI n).toInt ≤ x.toInt := fun h => h2 (qa_le.mpr h)
  rw [qa_gi (by omega) (by omega)]
  exact ⟨_, rfl⟩
theorem sb_word {p : PS} {w : Nat} {l : List Int32} (hw : zB w = l) (h20 : l.length ≤ 20) : ∃ b, fX6_isHere w p = some b ∧ (b = 0 ∨ b = 1) ∧ (b = 1 ↔ pTy p = 1 ∧ pEn p - pSt p = nI l.length ∧ ∀ j, j < l.length → fX9_at (pSt p + nI j) 500 (pBy p) = some (l.getD j 0)) := by
  have hL := qa_nI (n := l.length) (by omega)
  unfold fX6_isHere fX6_isHere_b0
  by_cases t1 : pTy p = 1
  · have el : fJ0_length_8abf5 w = some (nI l.length) := by
      unfold fJ0_length_8abf5
      rw [hw]
      rfl
    rw [if_pos t1, el, qa_b]
    by_cases t2 : pEn p - pSt p = nI l.length
    · rw [if_pos t2]
      obtain ⟨e, _, k2, k3, k4⟩ := run_end (fun j => fX9_at (pSt p + nI j) 500 (pBy p) = some (l.getD j 0)) l.length l.length 0 (by omega)
      have lp : lop (fun y z => fX6_isHere_b28 y z w p) LF (0 : Int32) = some (if e = l.length then 1 else 0) := by
        refine qa_lop0 (fun j => nI j) e (by omega) (fun j hj k => ?_) (fun k => ?_)
        · have hj' := qa_nI (n := j) (by omega)
          have k3' := k3 j (by omega) hj
          show fX6_isHere_b28 k (nI j) w p = k (nI (j + 1))
          unfold fX6_isHere_b28 fJ0_charAt_5068e
          rw [el, qa_b, if_neg (by rw [qa_le]; omega), k3', qa_b, hw, qa_gi (by omega) (by omega), qa_b, qa_ix hj', if_pos rfl, nI_1]
        · have hj' := qa_nI (n := e) (by omega)
          show fX6_isHere_b28 k (nI e) w p = _
          unfold fX6_isHere_b28 fJ0_charAt_5068e
          rw [el, qa_b]
          by_cases q : e = l.length
          · rw [if_pos (by rw [qa_le]; omega), if_pos q]
          · obtain ⟨y, hy⟩ := at_tot (pSt p + nI e) (n := 500) (by omega) (pBy p)
            have k4' := k4.resolve_left q
            rw [if_neg (by rw [qa_le]; omega), hy, qa_b, hw, qa_gi (by omega) (by omega), qa_b, qa_ix hj', if_neg, if_neg q]
            intro h
            exact k4' (by rw [hy, h])
      rw [lp]
      by_cases q : e = l.length
      · rw [if_pos q]
        exact ⟨1, rfl, Or.inr rfl, fun _ => ⟨t1, t2, fun j hj => k3 j (by omega) (by omega)⟩, fun _ => rfl⟩
      · rw [if_neg q]
        exact ⟨0, rfl, Or.inl rfl, fun h => absurd h (by decide), fun h => absurd (h.2.2 e (by omega)) (k4.resolve_left q)⟩
    · rw [if_neg t2]
      exact ⟨0, rfl, Or.inl rfl, fun h => absurd h (by decide), fun h => absurd h.2.1 t2⟩
  · rw [if_neg t1]
    exact ⟨0, rfl, Or.inl rfl, fun h => absurd h (by decide), fun h => absurd h.1 t1⟩
theorem rb_word0 {M : RS} {w : Nat} (s : Nat) : fX10_isWord_b36 0 w M = some 0 := by
  unfold fX10_isWord_b36
  refine qa_lop0 (fun _ => ((0 : Int32), (0 : Int32))) 0 (by omega) (fun j hj => by omega) (fun k => ?_)
  show fX10_isWord_b39 k 0 0 w M = some 0
  unfold fX10_isWord_b39
  rw [if_pos rfl]
  rfl
theorem rb_worde {M : RS} {w : Nat} (h0 : ¬ mEc M = 0) : fX10_isWord w M = some 0 := by
  unfold fX10_isWord fX10_isWord_b0 fX10_isWord_b35
  rw [rb_fine, qa_b, if_neg h0, if_pos (rfl : (0 : Int32) = 0)]
  exact rb_word0 0
theorem rb_word {M : RS} {w : Nat} {l : List Int32} (hw : zB w = l) (h20 : l.length ≤ 20) (h0 : mEc M = 0) {a e : Nat} (ha : mTs M = nI a) (he : mPo M = nI e) (hae : a ≤ e) (h5 : e ≤ 500) : ∃ b, fX10_isWord w M = some b ∧ (b = 0 ∨ b = 1) ∧ (b = 1 ↔ mTo M = 1 ∧ mPo M - mTs M = nI l.length ∧ ∀ j, j < l.length → mTx M (a + j) = l.getD j 0) := by
  have hL := qa_nI (n := l.length) (by omega)
  have hA := qa_nI (n := a) (by omega)
  have hE := qa_nI (n := e) (by omega)
  unfold fX10_isWord fX10_isWord_b0 fX10_isWord_b35
  rw [rb_fine, qa_b, if_pos h0, if_neg n10]
  by_cases t1 : mTo M = 1
  · have el : fJ0_length_8abf5 w = some (nI l.length) := by
      unfold fJ0_length_8abf5
      rw [hw]
      rfl
    rw [if_pos t1, el, qa_b]
    by_cases t2 : mPo M - mTs M = nI l.length
    · rw [if_pos t2]
      have t3 : a + l.length = e := by
        have := congrArg Int32.toInt t2
        rw [he, ha, qa_sub (by omega) (by omega)] at this
        omega
      obtain ⟨i, _, k2, k3, k4⟩ := run_end (fun j => mTx M (a + j) = l.getD j 0) l.length l.length 0 (by omega)
      have lp : fX10_isWord_b36 1 w M = some (if i = l.length then 1 else 0) := by
        unfold fX10_isWord_b36
        by_cases q : i = l.length
        · rw [if_pos q]
          refine qa_lop0 (fun j => ((1 : Int32), nI j)) i (by omega) (fun j hj k => ?_) (fun k => ?_)
          · have hj' := qa_nI (n := j) (by omega)
            have k3' := k3 j (by omega) hj
            have ea : (mTs M + nI j).toInt = ((a + j : Nat) : Int) := by
              rw [ha, qa_add (by omega) (by omega)]
              omega
            show fX10_isWord_b39 k 1 (nI j) w M = k (1, nI (j + 1))
            unfold fX10_isWord_b39 fJ0_charAt_5068e fX10_isWord_b75
            rw [if_neg n10, el, qa_b, if_neg (by rw [qa_le]; omega), qa_gi (by omega) (by omega), hw, qa_gi (by omega) (by omega), qa_b, qa_ix hj', qa_ix ea, if_pos k3', nI_1]
          · have hj' := qa_nI (n := i) (by omega)
            show fX10_isWord_b39 k 1 (nI i) w M = _
            unfold fX10_isWord_b39
            rw [if_neg n10, el, qa_b, if_pos (by rw [qa_le]; omega)]
            rfl
        · rw [if_neg q]
          have k4' := k4.resolve_left q
          refine qa_lop0 (fun j => ((if j ≤ i then 1 else 0 : Int32), nI j)) (i + 1) (by omega) (fun j hj k => ?_) (fun k => ?_)
          · have hj' := qa_nI (n := j) (by omega)
            have ea : (mTs M + nI j).toInt = ((a + j : Nat) : Int) := by
              rw [ha, qa_add (by omega) (by omega)]
              omega
            show fX10_isWord_b39 k (if j ≤ i then 1 else 0) (nI j) w M = k ((if j + 1 ≤ i then 1 else 0), nI (j + 1))
            rw [if_pos (by omega : j ≤ i)]
            unfold fX10_isWord_b39 fJ0_charAt_5068e fX10_isWord_b75
            rw [if_neg n10, el, qa_b, if_neg (by rw [qa_le]; omega), qa_gi (by omega) (by omega), hw, qa_gi (by omega) (by omega), qa_b, qa_ix hj', qa_ix ea, nI_1]
            by_cases q2 : j = i
            · rw [if_neg (by rw [q2]; exact k4'), if_neg (by omega : ¬ j + 1 ≤ i)]
            · rw [if_pos (k3 j (by omega) (by omega)), if_pos (by omega : j + 1 ≤ i)]
          · show fX10_isWord_b39 k (if i + 1 ≤ i then 1 else 0) (nI (i + 1)) w M = some 0
            rw [if_neg (by omega : ¬ i + 1 ≤ i)]
            unfold fX10_isWord_b39
            rw [if_pos rfl]
            rfl
      rw [lp]
      by_cases q : i = l.length
      · rw [if_pos q]
        exact ⟨1, rfl, Or.inr rfl, fun _ => ⟨t1, t2, fun j hj => k3 j (by omega) (by omega)⟩, fun _ => rfl⟩
      · rw [if_neg q]
        exact ⟨0, rfl, Or.inl rfl, fun h => absurd h (by decide), fun h => absurd (h.2.2 i (by omega)) (k4.resolve_left q)⟩
    · rw [if_neg t2, rb_word0 0]
      exact ⟨0, rfl, Or.inl rfl, fun h => absurd h (by decide), fun h => absurd h.2.1 t2⟩
  · rw [if_neg t1, rb_word0 0]
    exact ⟨0, rfl, Or.inl rfl, fun h => absurd h (by decide), fun h => absurd h.1 t1⟩
/-- is this word here? -/
theorem wd_sim {p : PS} {M : RS} {n : Nat} (L : pRl p M n) {w v : Nat} {l : List Int32} (hw : zB w = l) (hv : zB v = l) (h20 : l.length ≤ 20) (h1 : 1 ≤ l.length) : ∃ b, fX6_isHere w p = some b ∧ fX10_isWord v M = some (if pEc p = 0 then b else 0) ∧ (b = 0 ∨ b = 1) ∧ (b = 1 → pTy p = 1) := by
  obtain ⟨P, l1, l2, a, e, w1, w2, w3, w4, l3⟩ := L
  obtain ⟨b, c1, c2, c3⟩ := sb_word (p := p) hw h20
  by_cases h0 : pEc p = 0
  · have k := l3 h0
    have n5 := P.1
    obtain ⟨b', d1, d2, d3⟩ := rb_word (M := M) hv h20 (by rw [← l1]; exact h0) k.2.2.2.1 k.2.2.2.2.2.1 w1 (by omega)
    refine ⟨b, c1, ?_, c2, fun h => (c3.mp h).1⟩
    rw [if_pos h0, d1]
    have hA := qa_nI (n := a) (by omega)
    have hE := qa_nI (n := e) (by omega)
    have hL := qa_nI (n := l.length) (by omega)
    have ty : pTy p = 1 ↔ mTo M = 1 := by
      rcases k.2.2.2.2.2.2 with h | h | h | h | h | h
      · exact ⟨fun z => absurd (h.2.1.symm.trans z) (by decide), fun z => absurd (h.2.2.symm.trans z) (by decide)⟩
      · exact ⟨fun _ => h.2.2, fun _ => h.2.1⟩
      · exact ⟨fun z => absurd (h.2.1.symm.trans z) (by decide), fun z => absurd (h.2.2.1.symm.trans z) (by decide)⟩
      · exact ⟨fun z => absurd (h.2.1.symm.trans z) (by decide), fun z => absurd (h.2.2.symm.trans z) (by decide)⟩
      · exact ⟨fun z => absurd (h.2.1.symm.trans z) (by decide), fun z => absurd (h.2.2.symm.trans z) (by decide)⟩
      · exact ⟨fun z => absurd (h.2.1.symm.trans z) (by decide), fun z => absurd (h.2.2.symm.trans z) (by decide)⟩
    have q : b = 1 ↔ b' = 1 := by
      rw [c3, d3, ty, w3, w4, k.2.2.2.1, k.2.2.2.2.2.1]
      have bt : nI e - nI a = nI l.length → ∀ j, j < l.length → (fX9_at (nI a + nI j) 500 (pBy p) = some (l.getD j 0) ↔ mTx M (a + j) = l.getD j 0) := by
        intro h j hj
        have hJ := qa_nI (n := j) (by omega)
        have := congrArg Int32.toInt h
        rw [qa_sub (by omega) (by omega)] at this
        rw [sc_at (a + j) (by rw [qa_add (by omega) (by omega)]; omega) (by omega) (by omega), (P.2.2.2 (a + j) (by omega)).1]
        exact ⟨fun h => Option.some.inj h, fun h => congrArg some h⟩
      exact ⟨fun h => ⟨h.1, h.2.1, fun j hj => (bt h.2.1 j hj).mp (h.2.2 j hj)⟩, fun h => ⟨h.1, h.2.1, fun j hj => (bt h.2.1 j hj).mpr (h.2.2 j hj)⟩⟩
    congr 1
    rcases c2 with c | c
    · rcases d2 with d | d
      · rw [c, d]
      · exact absurd (q.mpr d) (by rw [c]; decide)
    · rw [c, q.mp c]
  · refine ⟨b, c1, ?_, c2, fun h => (c3.mp h).1⟩
    rw [if_neg h0]
    exact rb_worde (by rw [← l1]; exact h0)
/-- a word that must be here -/
theorem rw_sim {p : PS} {M : RS} {n : Nat} (L : pRl p M n) {w v : Nat} {l : List Int32} (hw : zB w = l) (hv : zB v = l) (h20 : l.length ≤ 20) (h1 : 1 ≤ l.length) : ∃ p' M', fX6_readWord w p = some p' ∧ fX10_parseWord v M = some M' ∧ pSp p p' M M' n := by
  obtain ⟨b, c1, c2, c3, c4⟩ := wd_sim L hw hv h20 h1
  unfold fX6_readWord fX6_readWord_b0 fX10_parseWord fX10_parseWord_b0
  rw [c1, c2, qa_b, qa_b]
  by_cases h0 : pEc p = 0
  · rw [if_pos h0]
    rcases c3 with c | c
    · subst c
      obtain ⟨p', M', e1, e2, e3, e4, e5, e6⟩ := fl_sim L (c := 1) n10
      rw [if_pos rfl, e1, e2, qa_b, qa_b, pd_e e5, qa_b]
      exact ⟨p', M', rfl, rfl, e3⟩
    · subst c
      obtain ⟨p', M', e1, e2, e3, _⟩ := pr_sim L
      rw [if_neg n10, e1, rq_1, qa_b, qa_b, e2, qa_b]
      exact ⟨p', M', rfl, rfl, e3⟩
  · have hm : ¬ mEc M = 0 := by rw [← L.2.1]; exact h0
    rw [rq_e hm, qa_b, pd_e hm, qa_b, rd_e h0]
    unfold fX6_fail fX6_fail_b0
    rw [fl_e h0, qa_b, qa_b]
    refine ⟨p, M, ?_, rfl, pSp.refl L⟩
    split <;> rfl
/-- the semicolon -/
theorem se_sim {p : PS} {M : RS} {n : Nat} (L : pRl p M n) : ∃ p' M', fX6_readSemicolon p = some p' ∧ fX10_parseEnd M = some M' ∧ pSp p p' M M' n ∧ (pEc p' = 0 → (pSt p).toInt < (pSt p').toInt) := by
  unfold fX6_readSemicolon fX6_readSemicolon_b0 fX10_parseEnd fX10_parseEnd_b0 fX10_parseEnd_b14
  by_cases h0 : pEc p = 0
  · obtain ⟨P, l1, l2, a, e, w1, w2, w3, w4, l3⟩ := id L
    have n5 := P.1
    have k := l3 h0
    have hA := qa_nI (n := a) (by omega)
    have hE := qa_nI (n := e) (by omega)
    have ty : (pTy p = 4 ∧ mTo M = 4 ∧ a < e) ∨ (¬ pTy p = 4 ∧ ¬ mTo M = 4) := by
      rcases k.2.2.2.2.2.2 with h | h | h | h | h | h
      · right
        rw [h.2.1, h.2.2]
        decide
      · right
        rw [h.2.1, h.2.2]
        decide
      · right
        rw [h.2.1, h.2.2.1]
        decide
      · right
        rw [h.2.1, h.2.2]
        decide
      · exact Or.inl ⟨h.2.1, h.2.2, h.1⟩
      · right
        rw [h.2.1, h.2.2]
        decide
    rcases ty with ⟨t1, t2, t3⟩ | ⟨t1, t2⟩
    · obtain ⟨p', M', e1, e2, e3, e4, e5, e6⟩ := pr_sim L
      rw [if_pos t1, if_pos t2, e1, rq_1, qa_b, qa_b, e2, qa_b]
      refine ⟨p', M', rfl, rfl, e3, fun _ => ?_⟩
      have := e5 h0
      rw [w4] at this
      rw [w3]
      omega
    · obtain ⟨p', M', e1, e2, e3, e4, e5, e6⟩ := fl_sim L (c := 1) n10
      rw [if_neg t1, if_neg t2, e1, e2, qa_b, qa_b, pd_e e5, qa_b]
      exact ⟨p', M', rfl, rfl, e3, fun h => absurd h e4⟩
  · have hm : ¬ mEc M = 0 := by rw [← L.2.1]; exact h0
    rw [rq_e hm, rq_e hm, qa_b, pd_e hm, qa_b, rd_e h0]
    unfold fX6_fail fX6_fail_b0
    rw [fl_e h0, qa_b]
    refine ⟨p, M, ?_, ?_, pSp.refl L, fun h => absurd h h0⟩
    · split <;> rfl
    · split <;> rfl
theorem lk_e {M : RS} (hm : ¬ mEc M = 0) (lo hi : Int32) : fX10_look lo hi M = some (lo, M) := by
  unfold fX10_look fX10_look_b0 fX10_look_b14
  have e : ∀ x, bnd (fX10_require x 1 M) (fun u15 => bnd (fX10_isBetween (mNu u15) lo hi) (fun r25 => bnd (fX10_require r25 2 u15) (fun u29 => bnd (fX10_isFine u29) (fun r33 => (if r33 = 0 then some (lo, u29) else some (mNu u29, u29)))))) = some (lo, M) := by
    intro x
    rw [rq_e hm, qa_b, rb_between, qa_b, rq_e hm, qa_b, rb_fine, qa_b, if_neg hm, if_pos (rfl : (0 : Int32) = 0)]
  rw [e, e]
  split <;> rfl
theorem lk_n {M M' : RS} (h : ¬ mTo M = 2) (e2 : fX10_require 0 1 M = some M') (e6 : ¬ mEc M' = 0) (lo hi : Int32) : fX10_look lo hi M = some (lo, M') := by
  unfold fX10_look fX10_look_b0 fX10_look_b14
  rw [if_neg h, e2, qa_b, rb_between, qa_b, rq_e e6, qa_b, rb_fine, qa_b, if_neg e6, if_pos (rfl : (0 : Int32) = 0)]
theorem lk_o {M M' : RS} (h : mTo M = 2) {lo hi : Int32} (ho : (mNu M).toInt < lo.toInt ∨ hi.toInt < (mNu M).toInt) (e2 : fX10_require 0 2 M = some M') (e6 : ¬ mEc M' = 0) : fX10_look lo hi M = some (lo, M') := by
  unfold fX10_look fX10_look_b0 fX10_look_b14
  rw [if_pos h, rq_1, qa_b, bt_0 ho, qa_b, e2, qa_b, rb_fine, qa_b, if_neg e6, if_pos (rfl : (0 : Int32) = 0)]
theorem lk_y {M : RS} (h : mTo M = 2) (hm : mEc M = 0) {lo hi : Int32} (h1 : lo.toInt ≤ (mNu M).toInt) (h2 : (mNu M).toInt ≤ hi.toInt) : fX10_look lo hi M = some (mNu M, M) := by
  unfold fX10_look fX10_look_b0 fX10_look_b14
  rw [if_pos h, rq_1, qa_b, bt_1 h1 h2, qa_b, rq_1, qa_b, rb_fine, qa_b, if_pos hm, if_neg n10]
/-- a number within bounds -/
theorem lk_sim {p : PS} {M : RS} {n : Nat} (L : pRl p M n) {lo hi : Int32} (b0 : 0 ≤ lo.toInt) (b1 : lo.toInt ≤ hi.toInt) (b2 : hi.toInt ≤ 99999) : ∃ r r' p1 M1 M2, fX6_readNumber lo hi p = some (r, p1) ∧ fX10_look lo hi M = some (r', M1) ∧ fX10_proceed M1 = some M2 ∧ pSp p p1 M M2 n ∧ (lo.toInt ≤ r.toInt ∧ r.toInt ≤ hi.toInt) ∧ (lo.toInt ≤ r'.toInt ∧ r'.toInt ≤ hi.toInt) ∧ (pEc p1 = 0 → r = r' ∧ M1 = M) ∧ (¬ pEc p1 = 0 → ¬ mEc M1 = 0 ∧ M2 = M1) ∧ (¬ pEc p = 0 → p1 = p ∧ M2 = M) := by
  obtain ⟨P, l1, l2, a, e, w1, w2, w3, w4, l3⟩ := id L
  have n5 := P.1
  unfold fX6_readNumber fX6_readNumber_b0 fX6_readNumber_b30
  have nh := sb_number P w1 w2 w3 w4
  by_cases h0 : pEc p = 0
  · have k := l3 h0
    have hm : mEc M = 0 := by rw [← l1]; exact h0
    have ty : (pTy p = 2 ∧ mTo M = 2 ∧ (∀ i, i < e - a → 48 ≤ (mTx M (a + i)).toInt ∧ (mTx M (a + i)).toInt ≤ 57) ∧ mNu M = nvR (mTx M) a (e - a)) ∨ (¬ pTy p = 2 ∧ ¬ mTo M = 2) := by
      rcases k.2.2.2.2.2.2 with h | h | h | h | h | h
      · exact Or.inr ⟨fun z => absurd (h.2.1.symm.trans z) (by decide), fun z => absurd (h.2.2.symm.trans z) (by decide)⟩
      · exact Or.inr ⟨fun z => absurd (h.2.1.symm.trans z) (by decide), fun z => absurd (h.2.2.symm.trans z) (by decide)⟩
      · exact Or.inl h.2
      · exact Or.inr ⟨fun z => absurd (h.2.1.symm.trans z) (by decide), fun z => absurd (h.2.2.symm.trans z) (by decide)⟩
      · exact Or.inr ⟨fun z => absurd (h.2.1.symm.trans z) (by decide), fun z => absurd (h.2.2.symm.trans z) (by decide)⟩
      · exact Or.inr ⟨fun z => absurd (h.2.1.symm.trans z) (by decide), fun z => absurd (h.2.2.symm.trans z) (by decide)⟩
    rcases ty with ⟨t1, t2, t3, t4⟩ | ⟨t1, t2⟩
    · have rel := nv_rel (mTx M) a (e - a) t3
      rw [← t4] at rel
      rw [if_pos t1, nh, qa_b]
      generalize nvC (mTx M) a (e - a) = v at rel ⊢
      by_cases q : lo.toInt ≤ v.toInt ∧ v.toInt ≤ hi.toInt
      · have ev : v = mNu M := qa_eq.mpr (by omega)
        obtain ⟨p', M', e1, e2, e3, e4, e5, e6⟩ := pr_sim L
        rw [if_neg (by rw [qa_lt]; omega), if_pos (by rw [qa_le]; omega), e1, qa_b, lk_y t2 hm (by omega) (by omega)]
        exact ⟨v, mNu M, p', M, M', rfl, rfl, e2, e3, q, by rw [← ev]; exact q, fun _ => ⟨ev, rfl⟩, fun h => absurd (e4.trans h0) h, fun h => absurd h0 h⟩
      · obtain ⟨p', M', e1, e2, e3, e4, e5, e6⟩ := fl_sim L (c := 2) (by decide)
        rw [e1, qa_b, lk_o t2 (lo := lo) (hi := hi) (by omega) e2 e5]
        refine ⟨lo, lo, p', M', M', ?_, rfl, pd_e e5, e3, ⟨Int.le_refl _, b1⟩, ⟨Int.le_refl _, b1⟩, fun h => absurd h e4, fun _ => ⟨e5, rfl⟩, fun h => absurd h0 h⟩
        by_cases q2 : v < lo
        · rw [if_pos q2]
        · rw [if_neg q2, if_neg]
          intro h
          exact q ⟨by rw [qa_lt] at q2; omega, qa_le.mp h⟩
    · obtain ⟨p', M', e1, e2, e3, e4, e5, e6⟩ := fl_sim L (c := 1) n10
      rw [if_neg t1, e1, qa_b, lk_n t2 e2 e5]
      exact ⟨lo, lo, p', M', M', rfl, rfl, pd_e e5, e3, ⟨Int.le_refl _, b1⟩, ⟨Int.le_refl _, b1⟩, fun h => absurd h e4, fun _ => ⟨e5, rfl⟩, fun h => absurd h0 h⟩
  · have hm : ¬ mEc M = 0 := by rw [← l1]; exact h0
    unfold fX6_fail fX6_fail_b0
    rw [lk_e hm, nh, qa_b, fl_e h0, qa_b, qa_b, rd_e h0, qa_b, fl_e h0, qa_b, qa_b]
    generalize nvC (mTx M) a (e - a) = v
    have fin : ∀ r, lo.toInt ≤ r.toInt ∧ r.toInt ≤ hi.toInt → ∃ r1 r' p1 M1 M2, some (r, p) = some (r1, p1) ∧ some (lo, M) = some (r', M1) ∧ fX10_proceed M1 = some M2 ∧ pSp p p1 M M2 n ∧ (lo.toInt ≤ r1.toInt ∧ r1.toInt ≤ hi.toInt) ∧ (lo.toInt ≤ r'.toInt ∧ r'.toInt ≤ hi.toInt) ∧ (pEc p1 = 0 → r1 = r' ∧ M1 = M) ∧ (¬ pEc p1 = 0 → ¬ mEc M1 = 0 ∧ M2 = M1) ∧ (¬ pEc p = 0 → p1 = p ∧ M2 = M) :=
      fun r hr => ⟨r, lo, p, M, M, rfl, rfl, pd_e hm, pSp.refl L, hr, ⟨Int.le_refl _, b1⟩, fun h => absurd h h0, fun _ => ⟨hm, rfl⟩, fun _ => ⟨rfl, rfl⟩⟩
    by_cases t1 : pTy p = 2
    · rw [if_pos t1]
      by_cases q2 : v < lo
      · rw [if_pos q2]
        exact fin lo ⟨Int.le_refl _, b1⟩
      · rw [if_neg q2]
        by_cases q3 : v ≤ hi
        · rw [if_pos q3]
          exact fin v ⟨by rw [qa_lt] at q2; omega, qa_le.mp q3⟩
        · rw [if_neg q3]
          exact fin lo ⟨Int.le_refl _, b1⟩
    · rw [if_neg t1]
      exact fin lo ⟨Int.le_refl _, b1⟩
/-- a number, read and passed -/
theorem rn_sim {p : PS} {M : RS} {n : Nat} (L : pRl p M n) {lo hi : Int32} (b0 : 0 ≤ lo.toInt) (b1 : lo.toInt ≤ hi.toInt) (b2 : hi.toInt ≤ 99999) : ∃ r r' p1 M1, fX6_readNumber lo hi p = some (r, p1) ∧ fX10_parseNumber lo hi M = some (r', M1) ∧ pSp p p1 M M1 n ∧ (lo.toInt ≤ r.toInt ∧ r.toInt ≤ hi.toInt) ∧ (lo.toInt ≤ r'.toInt ∧ r'.toInt ≤ hi.toInt) ∧ (pEc p1 = 0 → r = r') := by
  obtain ⟨r, r', p1, M1, M2, e1, e2, e3, e4, e5, e6, e7, e8, e9⟩ := lk_sim L b0 b1 b2
  unfold fX10_parseNumber fX10_parseNumber_b0
  rw [e2, qa_b2, e3, qa_b]
  exact ⟨r, r', p1, M2, e1, rfl, e4, e5, e6, fun h => (e7 h).1⟩
theorem eFp.left {p p1 : PS} {M M2 : RS} (h : eFp p p1 M M2) : eFp p p1 M M := ⟨h.1, rfl, rfl, rfl, rfl, rfl, rfl, rfl, rfl, rfl, rfl, rfl, rfl, rfl, rfl, rfl, rfl, rfl⟩
theorem hk_b {p : PS} {M : RS} {n : Nat} (L : pRl p M n) {lo lo' hi : Int32} (hl : pEc p = 0 → lo = lo') (b0 : 0 ≤ hi.toInt) (b2 : hi.toInt ≤ 500) (s : Int32) : ∃ v v' p1 M1 M2 M3, fX6_readHeight_b29 lo hi s p = some (v, p1) ∧ fX10_lookHeight_b22 hi s M = some (v', M1) ∧ fX10_require (if v' < lo' then 0 else 1) 2 M1 = some M2 ∧ fX10_proceed M2 = some M3 ∧ pSp p p1 M M3 n ∧ (-hi.toInt ≤ v.toInt ∧ v.toInt ≤ hi.toInt) ∧ (-hi.toInt ≤ v'.toInt ∧ v'.toInt ≤ hi.toInt) ∧ (pEc p1 = 0 → v = v' ∧ lo.toInt ≤ v.toInt) := by
  obtain ⟨r, r', p1, M1, M2, e1, e2, e3, e4, e5, e6, e7, e8, e9⟩ := lk_sim L (lo := 0) (hi := hi) (by rw [qa_0]; omega) (by rw [qa_0]; omega) (by omega)
  rw [qa_0] at e5 e6
  have hb : fX6_readHeight_b29 lo hi s p = fX6_readHeight_b55 lo (pSt p) (if s = 0 then r else -r) p1 := by
    unfold fX6_readHeight_b29
    rw [e1, qa_b2]
    split <;> rfl
  have hr : fX10_lookHeight_b22 hi s M = some (if s = 0 then r' else -r', M1) := by
    unfold fX10_lookHeight_b22
    rw [e2, qa_b2]
    split <;> rfl
  rw [hb, hr]
  have ng : ∀ x : Int32, 0 ≤ x.toInt → x.toInt ≤ hi.toInt → -hi.toInt ≤ (if s = 0 then x else -x).toInt ∧ (if s = 0 then x else -x).toInt ≤ hi.toInt := by
    intro x h1 h2
    by_cases q : s = 0
    · rw [if_pos q]
      omega
    · rw [if_neg q, qa_neg (by omega)]
      omega
  have nv := ng r e5.1 e5.2
  have nv' := ng r' e6.1 e6.2
  unfold fX6_readHeight_b55
  by_cases h1 : pEc p1 = 0
  · obtain ⟨e71, e72⟩ := e7 h1
    subst e71
    subst e72
    have h0 := (e4.2.2 h1).1
    have hl' := hl h0
    subst hl'
    rw [if_pos h1]
    generalize (if s = 0 then r else -r) = v at nv ⊢
    by_cases q : lo ≤ v
    · have q' := qa_le.mp q
      have hq : ¬ v < lo := by
        rw [qa_lt]
        omega
      rw [if_pos q]
      exact ⟨v, v, p1, M1, M1, M2, rfl, rfl, by rw [if_neg hq, rq_1], e3, e4, nv, nv, fun _ => ⟨rfl, q'⟩⟩
    · have q' : v.toInt < lo.toInt := by
        rw [qa_le] at q
        omega
      rw [if_neg q]
      have hm : mEc M1 = 0 := by rw [← L.2.1]; exact h0
      obtain ⟨p2, M4, f1, f2, f3, f4, f5, f6⟩ := fe_sim (L.1.fp e4.2.1.left) e4.1.w h1 hm (c := 2) (x := pSt p) (by decide) (L.ts h0)
      rw [f1, qa_b]
      exact ⟨v, v, p2, M1, M4, M4, rfl, rfl, by rw [if_pos (qa_lt.mpr q'), f2], pd_e f6, ⟨f3, e4.2.1.left.trans f4, fun h => absurd h f5⟩, nv, nv, fun h => absurd h f5⟩
  · obtain ⟨e81, e82⟩ := e8 h1
    subst e82
    rw [if_neg h1]
    exact ⟨_, _, p1, M2, M2, M2, rfl, rfl, rq_e e81 _ _, e3, e4, nv, nv', fun h => absurd h h1⟩
/-- a height, looked at -/
theorem hk_sim {p : PS} {M : RS} {n : Nat} (L : pRl p M n) {lo lo' hi : Int32} (hl : pEc p = 0 → lo = lo') (b0 : 0 ≤ hi.toInt) (b2 : hi.toInt ≤ 500) : ∃ v v' p1 M1 M2 M3, fX6_readHeight lo hi p = some (v, p1) ∧ fX10_lookHeight hi M = some (v', M1) ∧ fX10_require (if v' < lo' then 0 else 1) 2 M1 = some M2 ∧ fX10_proceed M2 = some M3 ∧ pSp p p1 M M3 n ∧ (-hi.toInt ≤ v.toInt ∧ v.toInt ≤ hi.toInt) ∧ (-hi.toInt ≤ v'.toInt ∧ v'.toInt ≤ hi.toInt) ∧ (pEc p1 = 0 → v = v' ∧ lo.toInt ≤ v.toInt) := by
  have bz : (if (0 : Int32) = 0 then fX6_readHeight_b29 lo hi 0 p else bnd (fX6_readToken p) (fun u26 => fX6_readHeight_b29 lo hi 0 u26)) = fX6_readHeight_b29 lo hi 0 p := if_pos rfl
  unfold fX6_readHeight fX6_readHeight_b0 fX6_readHeight_b19 fX6_readHeight_b20 fX10_lookHeight fX10_lookHeight_b0 fX10_lookHeight_b13
  rw [bz, if_neg n10, if_neg n10, if_pos (rfl : (0 : Int32) = 0)]
  by_cases h0 : pEc p = 0
  · obtain ⟨P, l1, l2, a, e, w1, w2, w3, w4, l3⟩ := id L
    have k := l3 h0
    have ty : (pTy p = 3 ∧ mTo M = 3) ∨ (¬ pTy p = 3 ∧ ¬ mTo M = 3) := by
      rcases k.2.2.2.2.2.2 with h | h | h | h | h | h
      · exact Or.inr ⟨fun z => absurd (h.2.1.symm.trans z) (by decide), fun z => absurd (h.2.2.symm.trans z) (by decide)⟩
      · exact Or.inr ⟨fun z => absurd (h.2.1.symm.trans z) (by decide), fun z => absurd (h.2.2.symm.trans z) (by decide)⟩
      · exact Or.inr ⟨fun z => absurd (h.2.1.symm.trans z) (by decide), fun z => absurd (h.2.2.1.symm.trans z) (by decide)⟩
      · exact Or.inl ⟨h.2.1, h.2.2⟩
      · exact Or.inr ⟨fun z => absurd (h.2.1.symm.trans z) (by decide), fun z => absurd (h.2.2.symm.trans z) (by decide)⟩
      · exact Or.inr ⟨fun z => absurd (h.2.1.symm.trans z) (by decide), fun z => absurd (h.2.2.symm.trans z) (by decide)⟩
    rw [if_pos h0]
    rcases ty with ⟨t1, t2⟩ | ⟨t1, t2⟩
    · rw [if_pos t1, if_pos t2]
      obtain ⟨p', M', e1, e2, e3, e4, e5, e6⟩ := pr_sim L
      rw [e1, e2, qa_b, qa_b]
      obtain ⟨v, v', p1, M1, M2, M3, f1, f2, f3, f4, f5, f6, f7, f8⟩ := hk_b e3.1 (lo := lo) (lo' := lo') (fun h => hl (e4.symm.trans h)) b0 b2 1
      exact ⟨v, v', p1, M1, M2, M3, f1, f2, f3, f4, e3.trans f5, f6, f7, f8⟩
    · rw [if_neg t1, if_neg t2]
      exact hk_b L hl b0 b2 0
  · have hm : ¬ mEc M = 0 := by rw [← L.2.1]; exact h0
    rw [if_neg h0, pd_e hm, qa_b]
    obtain ⟨v, v', p1, M1, M2, M3, f1, f2, f3, f4, f5, f6, f7, f8⟩ := hk_b L (lo := lo) (lo' := lo') hl b0 b2 0
    have g2 : ∀ s, fX10_lookHeight_b22 hi s M = some (if s = 0 then 0 else -0, M) := by
      intro s
      unfold fX10_lookHeight_b22
      rw [lk_e hm, qa_b2]
      split <;> rfl
    have z0 : (-0 : Int32) = 0 := by decide
    rw [g2, g2, f1, z0]
    have h1 : ¬ pEc p1 = 0 := fun h => h0 (f5.2.2 h).1
    refine ⟨v, 0, p1, M, M, M, rfl, ?_, rq_e hm _ _, pd_e hm, ?_, f6, by rw [qa_0]; omega, fun h => absurd h h1⟩
    · split
      · rfl
      · rfl
    · have := g2 0
      rw [f2] at this
      have := (Prod.mk.inj (Option.some.inj this)).2
      subst this
      rw [rq_e hm] at f3
      have := Option.some.inj f3
      subst this
      rw [pd_e hm] at f4
      have := Option.some.inj f4
      subst this
      exact f5
/-- a height, read and passed -/
theorem ph_sim {p : PS} {M : RS} {n : Nat} (L : pRl p M n) {lo hi : Int32} (hlo : lo.toInt = -hi.toInt) (b0 : 0 ≤ hi.toInt) (b2 : hi.toInt ≤ 500) : ∃ v v' p1 M1, fX6_readHeight lo hi p = some (v, p1) ∧ fX10_parseHeight hi M = some (v', M1) ∧ pSp p p1 M M1 n ∧ (-hi.toInt ≤ v.toInt ∧ v.toInt ≤ hi.toInt) ∧ (-hi.toInt ≤ v'.toInt ∧ v'.toInt ≤ hi.toInt) ∧ (pEc p1 = 0 → v = v') := by
  obtain ⟨v, v', p1, M1, M2, M3, f1, f2, f3, f4, f5, f6, f7, f8⟩ := hk_sim L (lo := lo) (lo' := lo) (fun _ => rfl) b0 b2
  rw [if_neg (by rw [qa_lt]; omega), rq_1] at f3
  have := Option.some.inj f3
  subst this
  unfold fX10_parseHeight fX10_parseHeight_b0
  rw [f2, qa_b2, f4, qa_b]
  exact ⟨v, v', p1, M3, f1, rfl, f5, f6, f7, fun h => (f8 h).1⟩
