/-! the other acts -/
theorem do_unload {B : Int} {F : FS} {M : RS} (A : eAll B F M) (h' : B + 400 ≤ 100000000) {l : Nat} (hl : l < 3) : ∃ s F' M', fX9_doUnload (nI l) F = some (s, F') ∧ fX10_unloadIt (nI l) M = some (s, M') ∧ eAll (B + 400) F' M' ∧ eKp F F' M M' := by
  have R := A.1
  have S := A.2.1.1
  have G := A.2.1.2.1
  have hn := G.1.n
  have hlI := qa_nI (n := l) (by omega)
  obtain ⟨d, d1, d2, d3, d4, d5, d6⟩ := R.2.2.1 l hl
  unfold fX9_doUnload fX9_doUnload_b0 fX10_unloadIt fX10_unloadIt_b0 fX8_lastOnDeck fX8_lastOnDeck_b0
  rw [if_neg (show ¬ nI l < 0 by rw [qa_lt, qa_0]; omega), if_pos (show nI l < 3 by rw [qa_lt, qa_3]; omega), qa_gi (by omega) (by omega), qa_ix hlI, d2, rb_standingMany G.1, qa_b, d3]
  by_cases d0 : d = 0
  · subst d0
    have e1 : (nI 0 - 1).toInt = -1 := by decide
    rw [sb_carOut (g := mSt M) hlI hl d2 d1 (Or.inl (by omega)), qa_b, qa_b, rb_stOut G.1 R.2.2.1 hl d2 d1 (Or.inl (by omega)), qa_b, if_pos (rfl : (-1 : Int32) = (-1)), if_pos (rfl : (-1 : Int32) = (-1))]
    exact do_refuse A h' (r := 1) (by omega) (by omega) rfl
  · obtain ⟨e, he⟩ : ∃ e, d = e + 1 := ⟨d - 1, by omega⟩
    subst he
    have heI := qa_nI (n := e) (by omega)
    obtain ⟨k1, k2, k3, k4⟩ := d4 e (by omega)
    have hcI := qa_nI (n := eX (fN F) l e) (by omega)
    have nm : ¬ nI (eX (fN F) l e) = (-1) := by
      intro h
      have h := congrArg Int32.toInt h
      rw [hcI, qa_m1] at h
      omega
    have c8 : sC (fN F) 8 = mSt M 4 := R.1.1.2.2.2.2.2.2.1
    rw [nI_pred, sb_carIn (g := mSt M) hlI hl d2 d1 heI (by omega), qa_b, qa_b, rb_stIn G.1 R.2.2.1 hl d2 d1 (by omega), qa_b, k1, if_neg nm, if_neg nm, c8]
    by_cases q4 : mSt M 4 = (-1)
    · rw [if_pos q4, if_pos q4, sb_carKind R.1 G.1 _ 0 hcI k2 qa_0 (by decide), qa_b, sb_carKind R.1 G.1 _ 1 hcI k2 qa_1 (by decide), qa_b, rb_slopeNow, qa_b, rb_kindOf G.1 _ 0 hcI k2 qa_0 (by decide), qa_b, rb_lipNow S G.1, qa_b, rb_kindOf G.1 _ 1 hcI k2 qa_1 (by decide), qa_b, R.2.2.2.2.1, R.2.2.2.2.2]
      by_cases q5 : eP (mSt M) ≤ eO (mSt M) (eX (fN F) l e) 0
      · rw [if_pos q5, if_pos q5]
        by_cases q6 : eI (mSt M) ≤ eO (mSt M) (eX (fN F) l e) 1
        · rw [if_pos q6, if_pos q6]
          obtain ⟨F1, M1, b1, b2, A1, K, n1, s1⟩ := ac_sim A
          obtain ⟨u', z1, z2, z3, z4, z5⟩ := ul_rel A1.1 A1.2.1 (by rw [s1]; exact q4) hl (by rw [n1]; exact d2) d1
          rw [n1] at z2 z3 z4 z5
          obtain ⟨w1, w2⟩ := do_set A1 K (by omega) h' z2 (z3.mono (by omega) h')
          rw [b1, qa_b, z1, qa_b, b2, qa_b, rb_layCar (eX (fN F) l e) 2 hcI (by omega) qa_2 (by decide), qa_b]
          refine ⟨_, _, _, rfl, ?_, w1, w2⟩
          have e10 : mSt (nStA M1 (upd (mSt M1) (61 + 7 * eX (fN F) l e + 2) 3)) 10 = mSt M1 10 := pk_un (by omega)
          rw [e10]
          rfl
        · rw [if_neg q6, if_neg q6]
          exact do_refuse A h' (r := 4) (by omega) (by omega) rfl
      · rw [if_neg q5, if_neg q5]
        exact do_refuse A h' (r := 3) (by omega) (by omega) rfl
    · rw [if_neg q4, if_neg q4]
      exact do_refuse A h' (r := 2) (by omega) (by omega) rfl
theorem do_gate {B : Int} {F : FS} {M : RS} (A : eAll B F M) (h' : B + 400 ≤ 100000000) {x : Int32} (hx : x = 0 ∨ x = 1) : ∃ s F' M', fX9_doSetGate x F = some (s, F') ∧ fX10_gateIt x M = some (s, M') ∧ eAll (B + 400) F' M' ∧ eKp F F' M M' := by
  have R := A.1
  have z13 := A.2.1.2.2.2.2.2.2.2.2.2.2.2.2.2.2.1
  have c16 : sC (fN F) 16 = mSt M 12 := R.1.1.2.2.2.2.2.2.2.2.2.2.2.2.2.2
  have hb : fX10_gateIt x M = fX10_gateIt_b16 x (mSt M 12) M := by
    unfold fX10_gateIt fX10_gateIt_b0
    rcases z13 with e | e
    · rw [e, if_neg (by decide)]
    · rw [e, if_pos rfl]
  rw [hb]
  unfold fX9_doSetGate fX9_doSetGate_b0 fX10_gateIt_b16
  rw [c16]
  by_cases q : mSt M 12 = x
  · rw [if_pos q, if_pos q]
    exact do_refuse A h' (r := 1) (by omega) (by omega) rfl
  · rw [if_neg q, if_neg q]
    obtain ⟨F1, M1, b1, b2, A1, K, n1, s1⟩ := ac_sim A
    obtain ⟨z1, z2⟩ := ga_rel A1.1 A1.2.1 hx
    obtain ⟨w1, w2⟩ := do_set A1 K (by omega) h' z1 (z2.mono (by omega) h')
    rw [b1, qa_b, b2, qa_b]
    rcases hx with e | e
    · rw [if_pos e]
      subst e
      exact ⟨_, _, _, rfl, rfl, w1, w2⟩
    · rw [if_neg (by rw [e]; decide)]
      subst e
      exact ⟨_, _, _, rfl, rfl, w1, w2⟩
theorem do_crank {B : Int} {F : FS} {M : RS} (A : eAll B F M) (h' : B + 400 ≤ 100000000) {x : Int32} (x0 : -20 ≤ x.toInt) (x1 : x.toInt ≤ 20) : ∃ s F' M', fX9_doCrank x F = some (s, F') ∧ fX10_crankIt x M = some (s, M') ∧ eAll (B + 400) F' M' ∧ eKp F F' M M' := by
  have R := A.1
  have c8 : sC (fN F) 8 = mSt M 4 := R.1.1.2.2.2.2.2.2.1
  unfold fX9_doCrank fX9_doCrank_b0 fX10_crankIt fX10_crankIt_b0
  rw [c8]
  by_cases q0 : x = 0
  · rw [if_pos q0, if_pos q0]
    exact do_refuse A h' (r := 1) (by omega) (by omega) rfl
  · rw [if_neg q0, if_neg q0]
    by_cases q4 : mSt M 4 = (-1)
    · rw [if_pos q4, if_pos q4]
      obtain ⟨F1, M1, b1, b2, A1, K, n1, s1⟩ := ac_sim A
      obtain ⟨u', z1, z2, z3⟩ := ck_rel A1.1 A1.2.1 (by omega) x0 x1
      obtain ⟨w1, w2⟩ := do_set A1 K (by omega) h' z2 (z3.mono (by omega) h')
      have m1 : fX8_measureRamp (fN (gN F1 (wC (fN F1) 4 (sC (fN F1) 4 + x)))) = some u' := z1
      have m2 : fX10_lipNow (mSt (nSt M1 1 (mSt M1 1 + x))) = some (eI (upd (mSt M1) 1 (mSt M1 1 + x))) := rb_lipNow z3.1 z3.2.1.1
      rw [b1, qa_b, m1, qa_b, b2, qa_b, m2, qa_b]
      refine ⟨_, _, _, rfl, ?_, w1, w2⟩
      show some (_, _) = some (si u', _)
      rw [z2.2.2.2.2.2]
      rfl
    · rw [if_neg q4, if_neg q4]
      exact do_refuse A h' (r := 2) (by omega) (by omega) rfl
theorem do_winch {B : Int} {F : FS} {M : RS} (A : eAll B F M) (h' : B + 400 ≤ 100000000) {a b c : Int32} (a0 : 1 ≤ a.toInt) (a1 : a.toInt ≤ 20) (b0 : 0 ≤ b.toInt) (b1 : b.toInt ≤ 50) (c0 : 0 ≤ c.toInt) (c1 : c.toInt ≤ 20) : ∃ s F' M', fX9_doSetWinch a b c F = some (s, F') ∧ fX10_winchIt a b c M = some (s, M') ∧ eAll (B + 400) F' M' ∧ eKp F F' M M' := by
  obtain ⟨F1, M1, k1, k2, A1, K, n1, s1⟩ := ac_sim A
  obtain ⟨z1, z2⟩ := sw_rel A1.1 A1.2.1 a0 a1 b0 b1 c0 c1
  obtain ⟨w1, w2⟩ := do_set A1 K (by omega) h' z1 (z2.mono (by omega) h')
  unfold fX9_doSetWinch fX9_doSetWinch_b0 fX10_winchIt fX10_winchIt_b0
  rw [k1, qa_b, k2, qa_b]
  exact ⟨_, _, _, rfl, rfl, w1, w2⟩
theorem do_cross {B : Int} {F : FS} {M : RS} (A : eAll B F M) (h' : B + 400 ≤ 100000000) {a b : Int32} (a0 : 1 ≤ a.toInt) (a1 : a.toInt ≤ 20) (b0 : 1 ≤ b.toInt) (b1 : b.toInt ≤ 50) : ∃ s F' M', fX9_doSetCross a b F = some (s, F') ∧ fX10_crossIt a b M = some (s, M') ∧ eAll (B + 400) F' M' ∧ eKp F F' M M' := by
  obtain ⟨F1, M1, k1, k2, A1, K, n1, s1⟩ := ac_sim A
  obtain ⟨z1, z2⟩ := sx_rel A1.1 A1.2.1 a0 a1 b0 b1
  obtain ⟨w1, w2⟩ := do_set A1 K (by omega) h' z1 (z2.mono (by omega) h')
  unfold fX9_doSetCross fX9_doSetCross_b0 fX10_crossIt fX10_crossIt_b0
  rw [k1, qa_b, k2, qa_b]
  exact ⟨_, _, _, rfl, rfl, w1, w2⟩
