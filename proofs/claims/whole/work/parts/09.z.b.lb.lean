/-! a set-up's statements, both parsers -/
/-- the state behind a statement's words -/
def pLd (p p' : PS) (u' : KS) (M M' : RS) (n : Nat) : Prop := pRl p' M' n ∧ eFl M M' ∧ (pEc p' = 0 → pEc p = 0 ∧ (pSt p).toInt ≤ (pSt p').toInt ∧ pSo p' = pSo p ∧ mTd M' = mTd M ∧ (pKo p = mTk M → pKo p' = mTk M') ∧ dQ u' (mSt M') ∧ eS (mSt M')) ∧ (sT u' 2).toInt ≤ 1000
/-- a statement under way: what is read, and what is set in the reference -/
def pLs (p p' : PS) (M M' : RS) (n : Nat) : Prop := pRl p' M' n ∧ eFl M M' ∧ (pEc p' = 0 → pEc p = 0 ∧ (pSt p).toInt ≤ (pSt p').toInt) ∧ pSo p' = pSo p ∧ mTd M' = mTd M ∧ pKo p' = pKo p ∧ mTk M' = mTk M
theorem pLs.refl {p : PS} {M : RS} {n : Nat} (L : pRl p M n) : pLs p p M M n := ⟨L, eFl.refl M, fun z => ⟨z, Int.le_refl _⟩, rfl, rfl, rfl, rfl⟩
theorem pLs.step {p p1 p2 : PS} {M M1 M2 : RS} {n : Nat} (h : pLs p p1 M M1 n) (S : pSp p1 p2 M1 M2 n) : pLs p p2 M M2 n :=
  ⟨S.1, h.2.1.trans S.2.1.o.l, fun z => ⟨(h.2.2.1 (S.2.2 z).1).1, Int.le_trans (h.2.2.1 (S.2.2 z).1).2 (S.2.2 z).2⟩, S.2.1.so.trans h.2.2.2.1, S.2.1.td.trans h.2.2.2.2.1, S.2.1.ko.trans h.2.2.2.2.2.1, S.2.1.tk.trans h.2.2.2.2.2.2⟩
theorem pLs.set {p p1 : PS} {M M1 : RS} {n : Nat} (h : pLs p p1 M M1 n) {i : Nat} (hi : i < 561) {x : Int32} (hx : x = nI i) (v : Int32) : ∃ M2, fX10_set x v M1 = some M2 ∧ pLs p p1 M M2 n ∧ (pEc p1 = 0 → mSt M2 = upd (mSt M1) i v) := by
  obtain ⟨M2, e1, e2, e3, e4, e5, e6⟩ := set_sim h.1 hi hx v
  exact ⟨M2, e1, ⟨e2, h.2.1.trans e3, h.2.2.1, h.2.2.2.1, e4.trans h.2.2.2.2.1, h.2.2.2.2.2.1, e5.trans h.2.2.2.2.2.2⟩, e6⟩
theorem pLs.fin {p p1 : PS} {u' : KS} {M M1 : RS} {n : Nat} (h : pLs p p1 M M1 n) (J : (sT u' 2).toInt ≤ 1000) (E : pEc p1 = 0 → dQ u' (mSt M1) ∧ eS (mSt M1)) : pLd p p1 u' M M1 n :=
  ⟨h.1, h.2.1, fun z => ⟨(h.2.2.1 z).1, (h.2.2.1 z).2, h.2.2.2.1, h.2.2.2.2.1, fun e => by rw [h.2.2.2.2.2.1, h.2.2.2.2.2.2]; exact e, (E z).1, (E z).2⟩, J⟩
def rT1 (u : RS) : Option RS := bnd2 (fX10_parseHeight 500 u) (fun r12 u12 => bnd (fX10_set 18 r12 u12) (fun u15 => some u15))
def rT2 (u : RS) : Option RS := bnd2 (fX10_parseNumber 0 300 u) (fun r13 u13 => bnd (fX10_set 19 r13 u13) (fun u16 => bnd (fX10_parseWord 41 u16) (fun u22 => bnd2 (fX10_parseNumber 1 999 u22) (fun r33 u33 => bnd (fX10_set 20 r33 u33) (fun u36 => some u36)))))
def rT3 (u : RS) : Option RS := bnd2 (fX10_parseNumber 1 30 u) (fun r12 u12 => bnd (fX10_set 21 r12 u12) (fun u15 => bnd (fX10_parseWord 42 u15) (fun u21 => bnd2 (fX10_parseNumber 1 9999 u21) (fun r32 u32 => bnd (fX10_set 22 r32 u32) (fun u35 => bnd (fX10_parseWord 43 u35) (fun u41 => bnd2 (fX10_parseNumber 0 9999 u41) (fun r52 u52 => bnd (fX10_set 23 r52 u52) (fun u55 => some u55))))))))
def rT4 (u : RS) : Option RS := bnd2 (fX10_parseNumber 1 20 u) (fun r12 u12 => bnd (fX10_set 24 r12 u12) (fun u15 => bnd2 (fX10_parseNumber 0 50 u15) (fun r25 u25 => bnd (fX10_set 25 r25 u25) (fun u28 => bnd2 (fX10_parseNumber 0 20 u28) (fun r38 u38 => bnd (fX10_set 26 r38 u38) (fun u41 => some u41))))))
def rT5 (u : RS) : Option RS := bnd2 (fX10_parseNumber 1 20 u) (fun r12 u12 => bnd (fX10_set 27 r12 u12) (fun u15 => bnd (fX10_parseWord 44 u15) (fun u22 => bnd2 (fX10_parseNumber 1 50 u22) (fun r32 u32 => bnd (fX10_set 28 r32 u32) (fun u35 => some u35)))))
def rT0 (u2 : RS) : Option RS := bnd2 (fX10_parseHeight 500 u2) (fun r9 u9 => bnd2 (fX10_lookHeight 500 u9) (fun r17 u17 => (if r17 < r9 then fX10_parseTide_b32 r9 r17 0 u17 else fX10_parseTide_b32 r9 r17 1 u17)))
theorem rT_e {M : RS} (h : ¬ mEc M = 0) : rT0 M = some M ∧ rT1 M = some M ∧ rT2 M = some M ∧ rT3 M = some M ∧ rT4 M = some M ∧ rT5 M = some M := by
  refine ⟨?_, ?_, ?_, ?_, ?_, ?_⟩
  · unfold rT0 fX10_parseTide_b32
    simp only [ph_e h, lh_e h, rq_e h, pd_e h, pw_e h, pn_e h, set_e h, qa_b, qa_b2]
    split <;> rfl
  · unfold rT1
    simp only [ph_e h, set_e h, qa_b, qa_b2]
  · unfold rT2
    simp only [pn_e h, pw_e h, set_e h, qa_b, qa_b2]
  · unfold rT3
    simp only [pn_e h, pw_e h, set_e h, qa_b, qa_b2]
  · unfold rT4
    simp only [pn_e h, pw_e h, set_e h, qa_b, qa_b2]
  · unfold rT5
    simp only [pn_e h, pw_e h, set_e h, qa_b, qa_b2]
theorem ss_2 {p : PS} {u : KS} {M : RS} {n : Nat} (L : pRl p M n) (D : pEc p = 0 → dQ u (mSt M) ∧ eS (mSt M)) (J : (sT u 2).toInt ≤ 1000) : ∃ p' u' M', fX6_readSettings 2 p u = some (p', u') ∧ rT2 M = some M' ∧ pLd p p' u' M M' n := by
  have tv : (20 : Int32).toInt = 20 ∧ (30 : Int32).toInt = 30 ∧ (50 : Int32).toInt = 50 ∧ (99 : Int32).toInt = 99 ∧ (300 : Int32).toInt = 300 ∧ (500 : Int32).toInt = 500 ∧ (999 : Int32).toInt = 999 ∧ (9999 : Int32).toInt = 9999 := by decide
  obtain ⟨t20, t30, t50, t99, t300, t500, t999, t9999⟩ := tv
  obtain ⟨r1, s1, p1, M1, e1, f1, S1, b1, _, v1⟩ := rn_sim L (lo := 0) (hi := 300) (by decide) (by decide) (by decide)
  obtain ⟨M2, g1, T1, w1⟩ := ((pLs.refl L).step S1).set (i := 19) (by omega) (rfl : (19 : Int32) = nI 19) s1
  rw [qa_0, t300] at b1
  obtain ⟨p2, M3, e2, f2, S2⟩ := rw_sim T1.1 (w := 28) (v := 41) (l := [115, 105, 110, 107]) rfl rfl (by decide) (by decide)
  have T2 := T1.step S2
  obtain ⟨r3, s3, p3, M4, e3, f3, S3, b3, _, v3⟩ := rn_sim T2.1 (lo := 1) (hi := 999) (by decide) (by decide) (by decide)
  obtain ⟨M5, g3, T3, w3⟩ := (T2.step S3).set (i := 20) (by omega) (rfl : (20 : Int32) = nI 20) s3
  rw [qa_1, t999] at b3
  unfold fX6_readSettings fX6_readSettings_b0 rT2
  rw [if_neg (by decide : ¬ (2 : Int32) = 0), if_neg (by decide : ¬ (2 : Int32) = 1), if_pos (rfl : (2 : Int32) = 2), e1, qa_b2, e2, qa_b, e3, qa_b2, f1, qa_b2, g1, qa_b, f2, qa_b, f3, qa_b2, g3, qa_b]
  refine ⟨p3, _, M5, rfl, rfl, T3.fin J fun z3 => ?_⟩
  have z2 := (S3.2.2 z3).1
  have z1 := (S2.2.2 z2).1
  have z0 := (S1.2.2 z1).1
  obtain ⟨DQ, ES⟩ := D z0
  rw [w3 z3, S3.2.1.st, ← v3 z3, S2.2.1.st, w1 z1, S1.2.1.st, ← v1 z1]
  exact ⟨(DQ.set (j := 4) (x := r1) (by omega) (fun _ => by omega)).set (j := 5) (x := r3) (by omega) (fun _ => by omega), eS_20 (eS_19 ES b1.1 b1.2) b3.1 b3.2⟩
theorem ss_3 {p : PS} {u : KS} {M : RS} {n : Nat} (L : pRl p M n) (D : pEc p = 0 → dQ u (mSt M) ∧ eS (mSt M)) (J : (sT u 2).toInt ≤ 1000) : ∃ p' u' M', fX6_readSettings 3 p u = some (p', u') ∧ rT3 M = some M' ∧ pLd p p' u' M M' n := by
  have tv : (20 : Int32).toInt = 20 ∧ (30 : Int32).toInt = 30 ∧ (50 : Int32).toInt = 50 ∧ (99 : Int32).toInt = 99 ∧ (300 : Int32).toInt = 300 ∧ (500 : Int32).toInt = 500 ∧ (999 : Int32).toInt = 999 ∧ (9999 : Int32).toInt = 9999 := by decide
  obtain ⟨t20, t30, t50, t99, t300, t500, t999, t9999⟩ := tv
  obtain ⟨r1, s1, p1, M1, e1, f1, S1, b1, _, v1⟩ := rn_sim L (lo := 1) (hi := 30) (by decide) (by decide) (by decide)
  obtain ⟨M2, g1, T1, w1⟩ := ((pLs.refl L).step S1).set (i := 21) (by omega) (rfl : (21 : Int32) = nI 21) s1
  rw [qa_1, t30] at b1
  obtain ⟨p2, M3, e2, f2, S2⟩ := rw_sim T1.1 (w := 29) (v := 42) (l := [108, 111, 97, 100]) rfl rfl (by decide) (by decide)
  have T2 := T1.step S2
  obtain ⟨r3, s3, p3, M4, e3, f3, S3, b3, _, v3⟩ := rn_sim T2.1 (lo := 1) (hi := 9999) (by decide) (by decide) (by decide)
  obtain ⟨M5, g3, T3, w3⟩ := (T2.step S3).set (i := 22) (by omega) (rfl : (22 : Int32) = nI 22) s3
  rw [qa_1, t9999] at b3
  obtain ⟨p4, M6, e4, f4, S4⟩ := rw_sim T3.1 (w := 30) (v := 43) (l := [108, 105, 115, 116]) rfl rfl (by decide) (by decide)
  have T4 := T3.step S4
  obtain ⟨r5, s5, p5, M7, e5, f5, S5, b5, _, v5⟩ := rn_sim T4.1 (lo := 0) (hi := 9999) (by decide) (by decide) (by decide)
  obtain ⟨M8, g5, T5, w5⟩ := (T4.step S5).set (i := 23) (by omega) (rfl : (23 : Int32) = nI 23) s5
  rw [qa_0, t9999] at b5
  unfold fX6_readSettings fX6_readSettings_b0 rT3
  rw [if_neg (by decide : ¬ (3 : Int32) = 0), if_neg (by decide : ¬ (3 : Int32) = 1), if_neg (by decide : ¬ (3 : Int32) = 2), if_pos (rfl : (3 : Int32) = 3), e1, qa_b2, e2, qa_b, e3, qa_b2, e4, qa_b, e5, qa_b2, f1, qa_b2, g1, qa_b, f2, qa_b, f3, qa_b2, g3, qa_b, f4, qa_b, f5, qa_b2, g5, qa_b]
  refine ⟨p5, _, M8, rfl, rfl, T5.fin J fun z5 => ?_⟩
  have z4 := (S5.2.2 z5).1
  have z3 := (S4.2.2 z4).1
  have z2 := (S3.2.2 z3).1
  have z1 := (S2.2.2 z2).1
  have z0 := (S1.2.2 z1).1
  obtain ⟨DQ, ES⟩ := D z0
  rw [w5 z5, S5.2.1.st, ← v5 z5, S4.2.1.st, w3 z3, S3.2.1.st, ← v3 z3, S2.2.1.st, w1 z1, S1.2.1.st, ← v1 z1]
  exact ⟨((DQ.set (j := 6) (x := r1) (by omega) (fun _ => by omega)).set (j := 7) (x := r3) (by omega) (fun _ => by omega)).set (j := 8) (x := r5) (by omega) (fun _ => by omega), eS_23 (eS_22 (eS_21 ES b1.1 b1.2) b3.1 b3.2) b5.1 b5.2⟩
theorem ss_4 {p : PS} {u : KS} {M : RS} {n : Nat} (L : pRl p M n) (D : pEc p = 0 → dQ u (mSt M) ∧ eS (mSt M)) (J : (sT u 2).toInt ≤ 1000) : ∃ p' u' M', fX6_readSettings 4 p u = some (p', u') ∧ rT4 M = some M' ∧ pLd p p' u' M M' n := by
  have tv : (20 : Int32).toInt = 20 ∧ (30 : Int32).toInt = 30 ∧ (50 : Int32).toInt = 50 ∧ (99 : Int32).toInt = 99 ∧ (300 : Int32).toInt = 300 ∧ (500 : Int32).toInt = 500 ∧ (999 : Int32).toInt = 999 ∧ (9999 : Int32).toInt = 9999 := by decide
  obtain ⟨t20, t30, t50, t99, t300, t500, t999, t9999⟩ := tv
  obtain ⟨r1, s1, p1, M1, e1, f1, S1, b1, _, v1⟩ := rn_sim L (lo := 1) (hi := 20) (by decide) (by decide) (by decide)
  obtain ⟨M2, g1, T1, w1⟩ := ((pLs.refl L).step S1).set (i := 24) (by omega) (rfl : (24 : Int32) = nI 24) s1
  rw [qa_1, t20] at b1
  obtain ⟨r2, s2, p2, M3, e2, f2, S2, b2, _, v2⟩ := rn_sim T1.1 (lo := 0) (hi := 50) (by decide) (by decide) (by decide)
  obtain ⟨M4, g2, T2, w2⟩ := (T1.step S2).set (i := 25) (by omega) (rfl : (25 : Int32) = nI 25) s2
  rw [qa_0, t50] at b2
  obtain ⟨r3, s3, p3, M5, e3, f3, S3, b3, _, v3⟩ := rn_sim T2.1 (lo := 0) (hi := 20) (by decide) (by decide) (by decide)
  obtain ⟨M6, g3, T3, w3⟩ := (T2.step S3).set (i := 26) (by omega) (rfl : (26 : Int32) = nI 26) s3
  rw [qa_0, t20] at b3
  unfold fX6_readSettings fX6_readSettings_b0 rT4
  rw [if_neg (by decide : ¬ (4 : Int32) = 0), if_neg (by decide : ¬ (4 : Int32) = 1), if_neg (by decide : ¬ (4 : Int32) = 2), if_neg (by decide : ¬ (4 : Int32) = 3), if_pos (rfl : (4 : Int32) = 4), e1, qa_b2, e2, qa_b2, e3, qa_b2, f1, qa_b2, g1, qa_b, f2, qa_b2, g2, qa_b, f3, qa_b2, g3, qa_b]
  refine ⟨p3, _, M6, rfl, rfl, T3.fin J fun z3 => ?_⟩
  have z2 := (S3.2.2 z3).1
  have z1 := (S2.2.2 z2).1
  have z0 := (S1.2.2 z1).1
  obtain ⟨DQ, ES⟩ := D z0
  rw [w3 z3, S3.2.1.st, ← v3 z3, w2 z2, S2.2.1.st, ← v2 z2, w1 z1, S1.2.1.st, ← v1 z1]
  exact ⟨((DQ.set (j := 9) (x := r1) (by omega) (fun _ => by omega)).set (j := 10) (x := r2) (by omega) (fun _ => by omega)).set (j := 11) (x := r3) (by omega) (fun _ => by omega), eS_26 (eS_25 (eS_24 ES b1.1 b1.2) b2.1 b2.2) b3.1 b3.2⟩
theorem ss_5 {p : PS} {u : KS} {M : RS} {n : Nat} (L : pRl p M n) (D : pEc p = 0 → dQ u (mSt M) ∧ eS (mSt M)) (J : (sT u 2).toInt ≤ 1000) : ∃ p' u' M', fX6_readSettings 5 p u = some (p', u') ∧ rT5 M = some M' ∧ pLd p p' u' M M' n := by
  have tv : (20 : Int32).toInt = 20 ∧ (30 : Int32).toInt = 30 ∧ (50 : Int32).toInt = 50 ∧ (99 : Int32).toInt = 99 ∧ (300 : Int32).toInt = 300 ∧ (500 : Int32).toInt = 500 ∧ (999 : Int32).toInt = 999 ∧ (9999 : Int32).toInt = 9999 := by decide
  obtain ⟨t20, t30, t50, t99, t300, t500, t999, t9999⟩ := tv
  obtain ⟨r1, s1, p1, M1, e1, f1, S1, b1, _, v1⟩ := rn_sim L (lo := 1) (hi := 20) (by decide) (by decide) (by decide)
  obtain ⟨M2, g1, T1, w1⟩ := ((pLs.refl L).step S1).set (i := 27) (by omega) (rfl : (27 : Int32) = nI 27) s1
  rw [qa_1, t20] at b1
  obtain ⟨p2, M3, e2, f2, S2⟩ := rw_sim T1.1 (w := 31) (v := 44) (l := [112, 97, 116, 105, 101, 110, 99, 101]) rfl rfl (by decide) (by decide)
  have T2 := T1.step S2
  obtain ⟨r3, s3, p3, M4, e3, f3, S3, b3, _, v3⟩ := rn_sim T2.1 (lo := 1) (hi := 50) (by decide) (by decide) (by decide)
  obtain ⟨M5, g3, T3, w3⟩ := (T2.step S3).set (i := 28) (by omega) (rfl : (28 : Int32) = nI 28) s3
  rw [qa_1, t50] at b3
  unfold fX6_readSettings fX6_readSettings_b0 rT5
  rw [if_neg (by decide : ¬ (5 : Int32) = 0), if_neg (by decide : ¬ (5 : Int32) = 1), if_neg (by decide : ¬ (5 : Int32) = 2), if_neg (by decide : ¬ (5 : Int32) = 3), if_neg (by decide : ¬ (5 : Int32) = 4), if_pos (rfl : (5 : Int32) = 5), e1, qa_b2, e2, qa_b, e3, qa_b2, f1, qa_b2, g1, qa_b, f2, qa_b, f3, qa_b2, g3, qa_b]
  refine ⟨p3, _, M5, rfl, rfl, T3.fin J fun z3 => ?_⟩
  have z2 := (S3.2.2 z3).1
  have z1 := (S2.2.2 z2).1
  have z0 := (S1.2.2 z1).1
  obtain ⟨DQ, ES⟩ := D z0
  rw [w3 z3, S3.2.1.st, ← v3 z3, S2.2.1.st, w1 z1, S1.2.1.st, ← v1 z1]
  exact ⟨(DQ.set (j := 12) (x := r1) (by omega) (fun _ => by omega)).set (j := 13) (x := r3) (by omega) (fun _ => by omega), eS_28 (eS_27 ES b1.1 b1.2) b3.1 b3.2⟩
theorem ss_1 {p : PS} {u : KS} {M : RS} {n : Nat} (L : pRl p M n) (D : pEc p = 0 → dQ u (mSt M) ∧ eS (mSt M)) (J : (sT u 2).toInt ≤ 1000) : ∃ p' u' M', fX6_readSettings 1 p u = some (p', u') ∧ rT1 M = some M' ∧ pLd p p' u' M M' n := by
  have t500 : (500 : Int32).toInt = 500 := by decide
  obtain ⟨r1, s1, p1, M1, e1, f1, S1, b1, _, v1⟩ := ph_sim L (lo := (-500)) (hi := 500) (by decide) (by decide) (by decide)
  obtain ⟨M2, g1, T1, w1⟩ := ((pLs.refl L).step S1).set (i := 18) (by omega) (rfl : (18 : Int32) = nI 18) s1
  rw [t500] at b1
  unfold fX6_readSettings fX6_readSettings_b0 rT1
  rw [if_neg (by decide : ¬ (1 : Int32) = 0), if_pos (rfl : (1 : Int32) = 1), e1, qa_b2, f1, qa_b2, g1, qa_b]
  refine ⟨p1, _, M2, rfl, rfl, T1.fin J fun z1 => ?_⟩
  obtain ⟨DQ, ES⟩ := D (S1.2.2 z1).1
  rw [w1 z1, S1.2.1.st, ← v1 z1]
  exact ⟨DQ.set (j := 3) (x := r1) (by omega) (fun h => by omega), eS_18 ES b1.1 b1.2⟩
theorem ss_0 {p : PS} {u : KS} {M : RS} {n : Nat} (L : pRl p M n) (D : pEc p = 0 → dQ u (mSt M) ∧ eS (mSt M)) : ∃ p' u' M', fX6_readSettings 0 p u = some (p', u') ∧ rT0 M = some M' ∧ pLd p p' u' M M' n := by
  have t500 : (500 : Int32).toInt = 500 := by decide
  have t99 : (99 : Int32).toInt = 99 := by decide
  obtain ⟨r1, s1, p1, M1, e1, f1, S1, b1, c1, v1⟩ := ph_sim L (lo := (-500)) (hi := 500) (by decide) (by decide) (by decide)
  obtain ⟨r2, s2, p2, N1, N2, M2, e2, f2, f3, f4, S2, b2, c2, v2⟩ := hk_sim S1.1 (lo := r1) (lo' := s1) (hi := 500) v1 (by decide) (by decide)
  obtain ⟨p3, M3, e3, f5, S3⟩ := rw_sim S2.1 (w := 27) (v := 40) (l := [104, 97, 108, 102]) rfl rfl (by decide) (by decide)
  obtain ⟨r4, s4, p4, M4, e4, f6, S4, b4, _, v4⟩ := rn_sim S3.1 (lo := 1) (hi := 99) (by decide) (by decide) (by decide)
  obtain ⟨M5, g1, T1, w1⟩ := (((((pLs.refl L).step S1).step S2).step S3).step S4).set (i := 17) (by omega) (rfl : (17 : Int32) = nI 17) s4
  obtain ⟨M6, g2, T2, w2⟩ := T1.set (i := 15) (by omega) (rfl : (15 : Int32) = nI 15) s1
  obtain ⟨M7, g3, T3, w3⟩ := T2.set (i := 16) (by omega) (rfl : (16 : Int32) = nI 16) s2
  rw [t500] at b1 b2
  rw [qa_1, t99] at b4
  have eb : (if s2 < s1 then fX10_parseTide_b32 s1 s2 0 N1 else fX10_parseTide_b32 s1 s2 1 N1) = some M7 := by
    have : ∀ x, fX10_require x 2 N1 = some N2 → fX10_parseTide_b32 s1 s2 x N1 = some M7 := by
      intro x hx
      unfold fX10_parseTide_b32
      rw [hx, qa_b, f4, qa_b, f5, qa_b, f6, qa_b2, g1, qa_b, g2, qa_b, g3, qa_b]
    by_cases q : s2 < s1
    · rw [if_pos q] at f3 ⊢
      exact this 0 f3
    · rw [if_neg q] at f3 ⊢
      exact this 1 f3
  have es : sT (wT u 0 r1) 0 = r1 := uq_s (sT u) 0 r1
  unfold fX6_readSettings fX6_readSettings_b0 rT0
  rw [if_pos (rfl : (0 : Int32) = 0), e1, qa_b2, es, e2, qa_b2, e3, qa_b, e4, qa_b2, f1, qa_b2, f2, qa_b2, eb]
  refine ⟨p4, _, M7, rfl, rfl, T3.fin ?_ fun z4 => ?_⟩
  · show (upd (upd (upd (sT u) 0 r1) 1 r2) 2 r4 2).toInt ≤ 1000
    rw [uq_s]
    omega
  · have z3 := (S4.2.2 z4).1
    have z2 := (S3.2.2 z3).1
    have z1 := (S2.2.2 z2).1
    have z0 := (S1.2.2 z1).1
    obtain ⟨DQ, ES⟩ := D z0
    obtain ⟨v21, v22⟩ := v2 z2
    rw [w3 z4, w2 z4, w1 z4, S4.2.1.st, S3.2.1.st, S2.2.1.st, S1.2.1.st, ← v1 z1, ← v21, ← v4 z4]
    have E := eS_tide ES (x := r1) (x' := r2) (y := r4) b1.1 v22 b2.2 b4.1 b4.2
    refine ⟨?_, E⟩
    rw [upd_sw _ (by decide : (17 : Nat) ≠ 15), upd_sw _ (by decide : (17 : Nat) ≠ 16)]
    exact ((DQ.set (j := 0) (x := r1) (by omega) (fun h => by omega)).set (j := 1) (x := r2) (by omega) (fun h => by omega)).set (j := 2) (x := r4) (by omega) (fun h => by omega)
