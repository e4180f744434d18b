/-! one statement of a set-up -/
theorem bnd_id {α : Type} (o : Option α) : bnd o (fun v => some v) = o := by
  cases o <;> rfl
def sRes (p p' : PS) (u' : KS) (M M' : RS) (n : Nat) : Prop := pRl p' M' n ∧ eFl M M' ∧ (pEc p' = 0 → dQ u' (mSt M') ∧ eS (mSt M') ∧ eBt (pSo p') (mTd M') ∧ pKo p' = mTk M' ∧ (pSt p).toInt < (pSt p').toInt) ∧ (sT u' 2).toInt ≤ 1000
theorem go_sim {p : PS} {u : KS} {M : RS} {n : Nat} {x : Int32} {T : RS → Option RS} (L : pRl p M n) (D : pEc p = 0 → dQ u (mSt M) ∧ eS (mSt M)) (K : pEc p = 0 → pKo p = mTk M)
    (TS : ∀ p1 M1, pRl p1 M1 n → (pEc p1 = 0 → dQ u (mSt M1) ∧ eS (mSt M1)) → (pEc p1 = 0 → pKo p1 = mTk M1) → ∃ p' u' M', fX6_readSettings x p1 u = some (p', u') ∧ T M1 = some M' ∧ pLd p1 p' u' M1 M' n) :
    ∃ p3 u2 M3, bnd (fX6_readToken p) (fun u81 => bnd (fX6_readSettings x u81 u) (fun u87 => bnd (fX6_readSemicolon u87.1) (fun u91 => some (u91, u87.2)))) = some (p3, u2) ∧ bnd (bnd (fX10_proceed M) T) (fun v => fX10_parseStatement_b135 v) = some M3 ∧
      pRl p3 M3 n ∧ eFl M M3 ∧ (pEc p3 = 0 → dQ u2 (mSt M3) ∧ eS (mSt M3) ∧ pSo p3 = pSo p ∧ mTd M3 = mTd M ∧ pKo p3 = mTk M3 ∧ (pSt p).toInt < (pSt p3).toInt) ∧ (sT u2 2).toInt ≤ 1000 := by
  obtain ⟨p1, M1, a1, a2, S, a4, _⟩ := pr_sim L
  obtain ⟨p2, u2, M2, b1, b2, P1, P2, P3, P4⟩ := TS p1 M1 S.1 (fun z => by rw [S.2.1.st]; exact D (S.2.2 z).1) (fun z => by rw [S.2.1.ko, S.2.1.tk]; exact K (S.2.2 z).1)
  obtain ⟨p3, M3, c1, c2, S3, c4⟩ := se_sim P1
  unfold fX10_parseStatement_b135
  rw [a1, qa_b, b1, qa_b, c1, qa_b, a2, qa_b, b2, qa_b, c2, qa_b]
  refine ⟨p3, u2, M3, rfl, rfl, S3.1, (S.2.1.o.l.trans P2).trans S3.2.1.o.l, fun z => ?_, P4⟩
  obtain ⟨q1, q2, q3, q4, q5, q6, q7⟩ := P3 (S3.2.2 z).1
  have z0 := (S.2.2 q1).1
  have ko : pKo p1 = mTk M1 := by
    rw [S.2.1.ko, S.2.1.tk]
    exact K z0
  refine ⟨by rw [S3.2.1.st]; exact q6, by rw [S3.2.1.st]; exact q7, S3.2.1.so.trans (q3.trans S.2.1.so), S3.2.1.td.trans (q4.trans S.2.1.td), S3.2.1.ko.trans ((q5 ko).trans S3.2.1.tk.symm), ?_⟩
  have := (S.2.2 q1).2
  have := c4 z
  omega
/-- a statement that comes once -/
theorem on_sim {p : PS} {u : KS} {M : RS} {n : Nat} (L : pRl p M n) (D : dQ u (mSt M) ∧ eS (mSt M)) (Bt : eBt (pSo p) (mTd M)) (K : pKo p = mTk M) (J : (sT u 2).toInt ≤ 1000) {k : Nat} (hk : k < 6) {x : Int32} (hx : x = nI k) {T : RS → Option RS} (TE : ∀ M', ¬ mEc M' = 0 → T M' = some M')
    (TS : ∀ p1 M1, pRl p1 M1 n → (pEc p1 = 0 → dQ u (mSt M1) ∧ eS (mSt M1)) → ∃ p' u' M', fX6_readSettings x p1 u = some (p', u') ∧ T M1 = some M' ∧ pLd p1 p' u' M1 M' n) :
    ∃ p' u' M', fX6_readStatement_b43 x p u = some (p', u') ∧ bnd (bnd (fX10_passOnce x M) T) (fun v => fX10_parseStatement_b135 v) = some M' ∧ sRes p p' u' M M' n := by
  have h6 : ¬ 6 ≤ x := by
    rw [hx, qa_le, qa_6, qa_nI (by omega)]
    omega
  have gt := Bt.get hk hx
  have st := Bt.set hk hx
  unfold fX6_readStatement_b43 fX6_readStatement_b68 fX10_passOnce fX10_passOnce_b0 fX10_passOnce_b17
  rw [if_neg h6]
  by_cases q : (pSo p >>> (x &&& 31)) &&& 1 = 0
  · rw [if_pos q, if_pos (gt.mp q), rq_1, qa_b, bnd_id]
    have L2 : pRl (tSo p (pSo p ||| (1 <<< (x &&& 31)))) (nTd M (mTd M ||| (1 <<< (x &&& 31)))) n := (L.cgP rfl rfl rfl rfl rfl rfl rfl).cgM rfl rfl rfl rfl rfl rfl rfl rfl
    obtain ⟨p3, u2, M3, c1, c2, c3, c4, c5, c6⟩ := go_sim (x := x) (T := T) L2 (u := u) (fun _ => D) (fun _ => K) (fun p1 M1 l d _ => TS p1 M1 l d)
    refine ⟨p3, u2, M3, c1, c2, c3, eFl.trans ⟨rfl, rfl, rfl, rfl, rfl, rfl, rfl, rfl, rfl, rfl⟩ c4, fun z => ?_, c6⟩
    obtain ⟨q1, q2, q3, q4, q5, q6⟩ := c5 z
    exact ⟨q1, q2, by rw [q3, q4]; exact st, q5, q6⟩
  · rw [if_neg q, if_neg (fun h => q (gt.mpr h))]
    obtain ⟨p', M', e1, e2, e3, e4, e5, e6⟩ := fl_sim L (c := 3) (by decide)
    have h5 : ¬ mEc (nTd M' (mTd M' ||| (1 <<< (x &&& 31)))) = 0 := e5
    rw [e1, e2, qa_b, qa_b, pd_e h5, qa_b, qa_b, TE _ h5, qa_b]
    unfold fX10_parseStatement_b135
    rw [pe_e h5, qa_b]
    exact ⟨p', u, _, rfl, rfl, e3.1.cgM rfl rfl rfl rfl rfl rfl rfl rfl, e3.2.1.o.l.trans ⟨rfl, rfl, rfl, rfl, rfl, rfl, rfl, rfl, rfl, rfl⟩, fun z => absurd z e4, J⟩
theorem pc_e {M : RS} (h : ¬ mEc M = 0) : (∀ s, fX10_parseCar_b18 s M = some M) ∧ fX10_parseCar M = some M := by
  have e : ∀ s, fX10_parseCar_b18 s M = some M := by
    intro s
    unfold fX10_parseCar_b18
    rw [rq_e h, qa_b, pd_e h, qa_b, pn_e h, qa_b2, pn_e h, qa_b2, rb_fine, qa_b, if_neg h, if_pos (rfl : (0 : Int32) = 0)]
  refine ⟨e, ?_⟩
  unfold fX10_parseCar fX10_parseCar_b0
  rw [e, e]
  split <;> rfl
theorem pt_0 (M : RS) : fX10_parseTide M = bnd (fX10_passOnce 0 M) rT0 := rfl
theorem pt_1 (M : RS) : fX10_parseQuay M = bnd (fX10_passOnce 1 M) rT1 := rfl
theorem pt_2 (M : RS) : fX10_parseDeck M = bnd (fX10_passOnce 2 M) rT2 := rfl
theorem pt_3 (M : RS) : fX10_parseLanes M = bnd (fX10_passOnce 3 M) rT3 := rfl
theorem pt_4 (M : RS) : fX10_parseWinch M = bnd (fX10_passOnce 4 M) rT4 := rfl
theorem pt_5 (M : RS) : fX10_parseCross M = bnd (fX10_passOnce 5 M) rT5 := rfl
theorem pt_6 (M : RS) : fX10_parseKind M = bnd (fX10_proceed M) rT6 := rfl
theorem wl_4 {p : PS} {w : Nat} {l : List Int32} (hw : zB w = l) (h20 : l.length ≤ 20) (h : fX6_isHere w p = some 1) : pEn p - pSt p = nI l.length := by
  obtain ⟨b, c1, c2, c3⟩ := sb_word (p := p) hw h20
  have := Option.some.inj (c1.symm.trans h)
  exact (c3.mp this).2.1
/-- a statement -/
theorem sm_sim {p : PS} {u : KS} {M : RS} {n : Nat} (L : pRl p M n) (h0 : pEc p = 0) (D : dQ u (mSt M) ∧ eS (mSt M)) (Bt : eBt (pSo p) (mTd M)) (K : pKo p = mTk M) : ∃ p' u' M', fX6_readStatement p u = some (p', u') ∧ fX10_parseStatement M = some M' ∧ sRes p p' u' M M' n := by
  have J : (sT u 2).toInt ≤ 1000 := by
    have h1 := D.1.1.2.1 2 (by omega)
    have h2 := D.2.1.2.2.2.2.1
    rw [h1]
    show (mSt M 17).toInt ≤ 1000
    omega
  obtain ⟨b0, c0, d0, q0, _⟩ := wd_sim L (w := 19) (v := 45) (l := [116, 105, 100, 101]) rfl rfl (by decide) (by decide)
  obtain ⟨b1, c1, d1, q1, _⟩ := wd_sim L (w := 20) (v := 46) (l := [113, 117, 97, 121]) rfl rfl (by decide) (by decide)
  obtain ⟨b2, c2, d2, q2, _⟩ := wd_sim L (w := 21) (v := 47) (l := [100, 101, 99, 107]) rfl rfl (by decide) (by decide)
  obtain ⟨b3, c3, d3, q3, _⟩ := wd_sim L (w := 22) (v := 48) (l := [108, 97, 110, 101, 115]) rfl rfl (by decide) (by decide)
  obtain ⟨b4, c4, d4, q4, _⟩ := wd_sim L (w := 25) (v := 49) (l := [107, 105, 110, 100]) rfl rfl (by decide) (by decide)
  obtain ⟨b5, c5, d5, q5, _⟩ := wd_sim L (w := 23) (v := 50) (l := [119, 105, 110, 99, 104]) rfl rfl (by decide) (by decide)
  obtain ⟨b6, c6, d6, q6, _⟩ := wd_sim L (w := 24) (v := 51) (l := [99, 114, 111, 115, 115]) rfl rfl (by decide) (by decide)
  obtain ⟨b7, c7, d7, q7, _⟩ := wd_sim L (w := 26) (v := 52) (l := [99, 97, 114]) rfl rfl (by decide) (by decide)
  rw [if_pos h0] at d0 d1 d2 d3 d4 d5 d6 d7
  have x45 : b4 = 1 → b5 = 0 ∧ b6 = 0 := by
    intro h
    rw [h] at c4
    have e4 := wl_4 (l := [107, 105, 110, 100]) rfl (by decide) c4
    have no : ¬ nI 4 = nI 5 := by decide
    refine ⟨q5.resolve_right fun h5 => ?_, q6.resolve_right fun h6 => ?_⟩
    · rw [h5] at c5
      exact no (e4.symm.trans (wl_4 (l := [119, 105, 110, 99, 104]) rfl (by decide) c5))
    · rw [h6] at c6
      exact no (e4.symm.trans (wl_4 (l := [99, 114, 111, 115, 115]) rfl (by decide) c6))
  have hs : fX6_statementHere p = some (if b0 = 0 then (if b1 = 0 then (if b2 = 0 then (if b3 = 0 then (if b5 = 0 then (if b6 = 0 then (if b4 = 0 then (if b7 = 0 then -1 else 7) else 6) else 5) else 4) else 3) else 2) else 1) else 0) := by
    unfold fX6_statementHere fX6_statementHere_b0
    rw [c0, c1, c2, c3, c5, c6, c4, c7]
    simp only [qa_b]
    repeat' (first | rfl | split)
  have hr : fX10_parseStatement M = (if b0 = 0 then (if b1 = 0 then (if b2 = 0 then (if b3 = 0 then (if b4 = 0 then (if b5 = 0 then (if b6 = 0 then bnd (fX10_require b7 1 M) (fun u128 => bnd (fX10_parseCar u128) (fun v => fX10_parseStatement_b135 v)) else bnd (bnd (fX10_passOnce 5 M) rT5) (fun v => fX10_parseStatement_b135 v)) else bnd (bnd (fX10_passOnce 4 M) rT4) (fun v => fX10_parseStatement_b135 v)) else bnd (bnd (fX10_proceed M) rT6) (fun v => fX10_parseStatement_b135 v)) else bnd (bnd (fX10_passOnce 3 M) rT3) (fun v => fX10_parseStatement_b135 v)) else bnd (bnd (fX10_passOnce 2 M) rT2) (fun v => fX10_parseStatement_b135 v)) else bnd (bnd (fX10_passOnce 1 M) rT1) (fun v => fX10_parseStatement_b135 v)) else bnd (bnd (fX10_passOnce 0 M) rT0) (fun v => fX10_parseStatement_b135 v)) := by
    unfold fX10_parseStatement fX10_parseStatement_b0
    rw [d0, d1, d2, d3, d4, d5, d6, d7, pt_0, pt_1, pt_2, pt_3, pt_4, pt_5, pt_6]
    rfl
  rw [hr]
  unfold fX6_readStatement fX6_readStatement_b0
  rw [hs, qa_b]
  clear hs hr
  rcases q0 with q | q
  rotate_left
  · subst q
    rw [if_neg n10, if_neg n10]
    rw [if_neg (by decide : ¬ (0 : Int32) = -1), if_neg (by decide : ¬ (0 : Int32) = 7)]
    exact on_sim L D Bt K J (k := 0) (by omega) (rfl : (0 : Int32) = nI 0) (fun M' h => (rT_e h).1) (fun p1 M1 l d => ss_0 l d)
  subst q
  rw [if_pos rfl, if_pos rfl]
  rcases q1 with q | q
  rotate_left
  · subst q
    rw [if_neg n10, if_neg n10]
    rw [if_neg (by decide : ¬ (1 : Int32) = -1), if_neg (by decide : ¬ (1 : Int32) = 7)]
    exact on_sim L D Bt K J (k := 1) (by omega) (rfl : (1 : Int32) = nI 1) (fun M' h => (rT_e h).2.1) (fun p1 M1 l d => ss_1 l d J)
  subst q
  rw [if_pos rfl, if_pos rfl]
  rcases q2 with q | q
  rotate_left
  · subst q
    rw [if_neg n10, if_neg n10]
    rw [if_neg (by decide : ¬ (2 : Int32) = -1), if_neg (by decide : ¬ (2 : Int32) = 7)]
    exact on_sim L D Bt K J (k := 2) (by omega) (rfl : (2 : Int32) = nI 2) (fun M' h => (rT_e h).2.2.1) (fun p1 M1 l d => ss_2 l d J)
  subst q
  rw [if_pos rfl, if_pos rfl]
  rcases q3 with q | q
  rotate_left
  · subst q
    rw [if_neg n10, if_neg n10]
    rw [if_neg (by decide : ¬ (3 : Int32) = -1), if_neg (by decide : ¬ (3 : Int32) = 7)]
    exact on_sim L D Bt K J (k := 3) (by omega) (rfl : (3 : Int32) = nI 3) (fun M' h => (rT_e h).2.2.2.1) (fun p1 M1 l d => ss_3 l d J)
  subst q
  rw [if_pos rfl, if_pos rfl]
  rcases q4 with q | q
  rotate_left
  · obtain ⟨x5, x6⟩ := x45 q
    subst q
    subst x5
    subst x6
    rw [if_pos rfl, if_pos rfl, if_neg n10, if_neg n10, if_neg (by decide : ¬ (6 : Int32) = -1), if_neg (by decide : ¬ (6 : Int32) = 7)]
    have L2 : pRl (tSo p (pSo p ||| (1 <<< ((6 : Int32) &&& 31)))) M n := L.cgP rfl rfl rfl rfl rfl rfl rfl
    obtain ⟨p3, u2, M3, k1, k2, k3, k4, k5, k6⟩ := go_sim (x := 6) (T := rT6) L2 (u := u) (fun _ => D) (fun _ => K) (fun p1 M1 l d k => ss_6 l d J k)
    unfold fX6_readStatement_b43 fX6_readStatement_b68
    rw [if_pos (by decide : (6 : Int32) ≤ 6)]
    refine ⟨p3, u2, M3, k1, k2, k3, k4, fun z => ?_, k6⟩
    obtain ⟨y1, y2, y3, y4, y5, y6⟩ := k5 z
    exact ⟨y1, y2, by rw [y3, y4]; exact Bt.set2 (x := 6) (by omega) (by omega) (rfl : (6 : Int32) = nI 6), y5, y6⟩
  rcases q5 with q5 | q5
  rotate_left
  · subst q
    subst q5
    rw [if_neg n10, if_pos rfl, if_neg n10]
    rw [if_neg (by decide : ¬ (4 : Int32) = -1), if_neg (by decide : ¬ (4 : Int32) = 7)]
    exact on_sim L D Bt K J (k := 4) (by omega) (rfl : (4 : Int32) = nI 4) (fun M' h => (rT_e h).2.2.2.2.1) (fun p1 M1 l d => ss_4 l d J)
  rcases q6 with q6 | q6
  rotate_left
  · subst q
    subst q5
    subst q6
    rw [if_pos rfl, if_neg n10, if_pos rfl, if_pos rfl, if_neg n10]
    rw [if_neg (by decide : ¬ (5 : Int32) = -1), if_neg (by decide : ¬ (5 : Int32) = 7)]
    exact on_sim L D Bt K J (k := 5) (by omega) (rfl : (5 : Int32) = nI 5) (fun M' h => (rT_e h).2.2.2.2.2) (fun p1 M1 l d => ss_5 l d J)
  subst q
  subst q5
  subst q6
  rw [if_pos rfl, if_pos rfl, if_pos rfl, if_pos rfl, if_pos rfl, if_pos rfl]
  rcases q7 with q | q
  · subst q
    obtain ⟨p', M', e1, e2, e3, e4, e5, e6⟩ := fl_sim L (c := 1) n10
    rw [if_pos rfl, if_pos rfl, e1, qa_b, e2, qa_b, (pc_e e5).2, qa_b]
    unfold fX10_parseStatement_b135
    rw [pe_e e5, qa_b]
    exact ⟨p', u, M', rfl, rfl, e3.1, e3.2.1.o.l, fun z => absurd z e4, J⟩
  · subst q
    rw [if_neg n10, if_neg (by decide : ¬ (7 : Int32) = -1), if_pos (rfl : (7 : Int32) = 7), rq_1, qa_b]
    have hq := D.1.2.2.1.q
    have hQ := qa_nIx (i := mSt M 14) (by rw [hq.1]; omega)
    have C1 : sC u 1 = nI (eQ (mSt M)) := D.1.1.1.2.1.trans hQ.symm
    have C3 : sC u 3 = nI (eQ (mSt M)) := D.1.1.1.2.2.1.trans (D.1.2.2.2.2.2.2.2.trans hQ.symm)
    have v20 : (20 : Int32).toInt = 20 := by decide
    unfold fX10_parseCar fX10_parseCar_b0
    rw [C3]
    by_cases h : eQ (mSt M) < 20
    · have hI := qa_nI (n := eQ (mSt M)) (by omega)
      rw [if_pos (by rw [qa_lt, v20]; omega), if_neg (by rw [qa_le, v20]; omega)]
      have L2 : pRl (tSo p (pSo p ||| (1 <<< ((7 : Int32) &&& 31)))) M n := L.cgP rfl rfl rfl rfl rfl rfl rfl
      obtain ⟨p3, u2, M3, k1, k2, k3, k4, k5, k6⟩ := go_sim (x := 7) (T := rT7) L2 (u := u) (fun _ => D) (fun _ => K) (fun p1 M1 l d k => ss_7 l d J h C3 C1)
      unfold fX6_readStatement_b43 fX6_readStatement_b68
      rw [if_pos (by decide : (6 : Int32) ≤ 7)]
      have er : fX10_parseCar_b18 1 M = bnd (fX10_proceed M) rT7 := by
        unfold fX10_parseCar_b18
        rw [rq_1, qa_b]
        rfl
      rw [er]
      refine ⟨p3, u2, M3, k1, k2, k3, k4, fun z => ?_, k6⟩
      obtain ⟨y1, y2, y3, y4, y5, y6⟩ := k5 z
      exact ⟨y1, y2, by rw [y3, y4]; exact Bt.set2 (x := 7) (by omega) (by omega) (rfl : (7 : Int32) = nI 7), y5, y6⟩
    · have hI := qa_nI (n := eQ (mSt M)) (by omega)
      rw [if_neg (by rw [qa_lt, v20]; omega), if_pos (by rw [qa_le, v20]; omega)]
      obtain ⟨p', M', e1, e2, e3, e4, e5, e6⟩ := fl_sim L (c := 4) (by decide)
      have er : fX10_parseCar_b18 0 M = some M' := by
        rw [← (pc_e e5).1 0]
        unfold fX10_parseCar_b18
        rw [e2, rq_e e5]
      rw [e1, qa_b, er, qa_b]
      unfold fX10_parseStatement_b135
      rw [pe_e e5, qa_b]
      exact ⟨p', u, M', rfl, rfl, e3.1, e3.2.1.o.l, fun z => absurd z e4, J⟩
