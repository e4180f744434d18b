/-! the acts' own faces; undo, saved states, the output's bytes -/
theorem c1_of {B : Int} {n : String} {o : Option (Int32 × FS)} {o' : Option (Int32 × RS)} {F : FS} {M : RS} (h : ∃ s F' M', o = some (s, F') ∧ o' = some (s, M') ∧ eAll B F' M' ∧ eKp F F' M M') (h0 : mTh M = 0) : eC1 B n (bnd2 o (fun r u => some (.inr r, u))) (bnd2 o' (fun r u => some (r, u))) := by
  obtain ⟨s, F', M', e1, e2, e3, e4⟩ := h
  rw [e1, e2, qa_b2, qa_b2]
  exact ⟨_, _, _, _, rfl, rfl, e3, Or.inr ⟨rfl, by rw [e4.2.2.2, h0]⟩⟩
theorem c_tick {B : Int} {F : FS} {M : RS} (A : eAll B F M) (hB : B + 400 ≤ 100000000) (x : Int32) : eC1 (B + 400) xIA (fX9_tick x F) (fX10_tick x M) := by
  have v : (50 : Int32).toInt = 50 := by decide
  have A2 := A.mono (by omega : B ≤ B + 400) hB
  unfold fX9_tick fX9_tick_b0 fX9_tick_b11 fX10_tick fX10_tick_b0
  by_cases h0 : x.toInt < 1
  · rw [if_pos (by rw [qa_lt, qa_1]; exact h0), bt_0 (by rw [qa_1]; omega), qa_b, if_pos (rfl : (0 : Int32) = 0)]
    exact ⟨_, _, _, _, rfl, rfl, A2, Or.inl ⟨rfl, rfl⟩⟩
  rw [if_neg (by rw [qa_lt, qa_1]; exact h0)]
  by_cases h1 : x.toInt ≤ 50
  · have hx := qa_ixI (i := x) (by omega)
    rw [if_pos (by rw [qa_le, v]; exact h1), bt_1 (by rw [qa_1]; omega) (by rw [v]; omega), qa_b, if_neg n10]
    exact c1_of (do_tick (F := F) (M := nTh M 0) A hB (n := ix x) (by omega) hx) rfl
  · rw [if_neg (by rw [qa_le, v]; exact h1), bt_0 (by rw [v]; omega), qa_b, if_pos (rfl : (0 : Int32) = 0)]
    exact ⟨_, _, _, _, rfl, rfl, A2, Or.inl ⟨rfl, rfl⟩⟩
theorem c2_of {B : Int} {n n' : String} {o : Option (Int32 × FS)} {o' : Option (Int32 × RS)} {F : FS} {M : RS} (h : ∃ s F' M', o = some (s, F') ∧ o' = some (s, M') ∧ eAll B F' M' ∧ eKp F F' M M') (h0 : mTh M = 0) : eC2 B n n' (bnd2 o (fun r u => some (.inr r, u))) (bnd2 o' (fun r u => some (r, u))) := by
  obtain ⟨s, F', M', e1, e2, e3, e4⟩ := h
  rw [e1, e2, qa_b2, qa_b2]
  exact ⟨_, _, _, _, rfl, rfl, e3, Or.inr (Or.inr ⟨rfl, by rw [e4.2.2.2, h0]⟩)⟩
theorem c_arrive {B : Int} {F : FS} {M : RS} (A : eAll B F M) (hB : B + 400 ≤ 100000000) (x y : Int32) : eC2 (B + 400) xIO xIA (fX9_arrive x y F) (fX10_arrive x y M) := by
  have v : (999 : Int32).toInt = 999 := by decide
  have A2 := A.mono (by omega : B ≤ B + 400) hB
  unfold fX9_arrive fX9_arrive_b0 fX9_arrive_b9 fX9_arrive_b31 fX10_arrive fX10_arrive_b0
  by_cases h0 : x.toInt < 0
  · rw [if_pos (by rw [qa_lt, qa_0]; exact h0), isK_0 (Or.inl h0), qa_b, if_pos (rfl : (0 : Int32) = 0)]
    exact ⟨_, _, _, _, rfl, rfl, A2, Or.inl ⟨rfl, rfl⟩⟩
  rw [if_neg (by rw [qa_lt, qa_0]; exact h0)]
  by_cases h1 : x.toInt < 4
  · rw [if_pos (by rw [qa_lt, qa_4]; exact h1), isK_1 (by omega) (by omega), qa_b, if_neg n10]
    by_cases g0 : y.toInt < 1
    · rw [if_pos (by rw [qa_lt, qa_1]; exact g0), bt_0 (by rw [qa_1]; omega), qa_b, if_pos (rfl : (0 : Int32) = 0)]
      exact ⟨_, _, _, _, rfl, rfl, A2, Or.inr (Or.inl ⟨rfl, rfl⟩)⟩
    rw [if_neg (by rw [qa_lt, qa_1]; exact g0)]
    by_cases g1 : y.toInt ≤ 999
    · rw [if_pos (by rw [qa_le, v]; exact g1), bt_1 (by rw [qa_1]; omega) (by rw [v]; omega), qa_b, if_neg n10]
      exact c2_of (do_arrive (F := F) (M := nTh M 0) A hB (by omega) (by omega) (by omega) g1) rfl
    · rw [if_neg (by rw [qa_le, v]; exact g1), bt_0 (by rw [v]; omega), qa_b, if_pos (rfl : (0 : Int32) = 0)]
      exact ⟨_, _, _, _, rfl, rfl, A2, Or.inr (Or.inl ⟨rfl, rfl⟩)⟩
  · rw [if_neg (by rw [qa_lt, qa_4]; exact h1), isK_0 (Or.inr (by omega)), qa_b, if_pos (rfl : (0 : Int32) = 0)]
    exact ⟨_, _, _, _, rfl, rfl, A2, Or.inl ⟨rfl, rfl⟩⟩
theorem c_wave {B : Int} {F : FS} {M : RS} (A : eAll B F M) (hB : B + 400 ≤ 100000000) (x : Int32) : eC1 (B + 400) xIO (fX9_wave x F) (fX10_wave x M) := by
  have v : (60 : Int32).toInt = 60 := by decide
  have v' : (59 : Int32).toInt = 59 := by decide
  have A2 := A.mono (by omega : B ≤ B + 400) hB
  unfold fX9_wave fX9_wave_b0 fX9_wave_b10 fX10_wave fX10_wave_b0
  by_cases h0 : x.toInt < 0
  · rw [if_pos (by rw [qa_lt, qa_0]; exact h0), bt_0 (by rw [qa_0]; omega), qa_b, if_pos (rfl : (0 : Int32) = 0)]
    exact ⟨_, _, _, _, rfl, rfl, A2, Or.inl ⟨rfl, rfl⟩⟩
  rw [if_neg (by rw [qa_lt, qa_0]; exact h0)]
  by_cases h1 : x.toInt < 60
  · rw [if_pos (by rw [qa_lt, v]; exact h1), bt_1 (by rw [qa_0]; omega) (by rw [v']; omega), qa_b, if_neg n10]
    exact c1_of (do_wave (F := F) (M := nTh M 0) A hB x) rfl
  · rw [if_neg (by rw [qa_lt, v]; exact h1), bt_0 (by rw [v']; omega), qa_b, if_pos (rfl : (0 : Int32) = 0)]
    exact ⟨_, _, _, _, rfl, rfl, A2, Or.inl ⟨rfl, rfl⟩⟩
theorem c_dismiss {B : Int} {F : FS} {M : RS} (A : eAll B F M) (hB : B + 400 ≤ 100000000) (x : Int32) : eC1 (B + 400) xIO (fX9_dismiss x F) (fX10_dismiss x M) := by
  have v : (60 : Int32).toInt = 60 := by decide
  have v' : (59 : Int32).toInt = 59 := by decide
  have A2 := A.mono (by omega : B ≤ B + 400) hB
  unfold fX9_dismiss fX9_dismiss_b0 fX9_dismiss_b10 fX10_dismiss fX10_dismiss_b0
  by_cases h0 : x.toInt < 0
  · rw [if_pos (by rw [qa_lt, qa_0]; exact h0), bt_0 (by rw [qa_0]; omega), qa_b, if_pos (rfl : (0 : Int32) = 0)]
    exact ⟨_, _, _, _, rfl, rfl, A2, Or.inl ⟨rfl, rfl⟩⟩
  rw [if_neg (by rw [qa_lt, qa_0]; exact h0)]
  by_cases h1 : x.toInt < 60
  · rw [if_pos (by rw [qa_lt, v]; exact h1), bt_1 (by rw [qa_0]; omega) (by rw [v']; omega), qa_b, if_neg n10]
    exact c1_of (do_dismiss (F := F) (M := nTh M 0) A hB x) rfl
  · rw [if_neg (by rw [qa_lt, v]; exact h1), bt_0 (by rw [v']; omega), qa_b, if_pos (rfl : (0 : Int32) = 0)]
    exact ⟨_, _, _, _, rfl, rfl, A2, Or.inl ⟨rfl, rfl⟩⟩
theorem c_unload {B : Int} {F : FS} {M : RS} (A : eAll B F M) (hB : B + 400 ≤ 100000000) (x : Int32) : eC1 (B + 400) xIO (fX9_unload x F) (fX10_unload x M) := by
  have A2 := A.mono (by omega : B ≤ B + 400) hB
  unfold fX9_unload fX9_unload_b0 fX9_unload_b9 fX10_unload fX10_unload_b0
  by_cases h0 : x.toInt < 0
  · rw [if_pos (by rw [qa_lt, qa_0]; exact h0), isL_0 (Or.inl h0), qa_b, if_pos (rfl : (0 : Int32) = 0)]
    exact ⟨_, _, _, _, rfl, rfl, A2, Or.inl ⟨rfl, rfl⟩⟩
  rw [if_neg (by rw [qa_lt, qa_0]; exact h0)]
  by_cases h1 : x.toInt < 3
  · have hx := qa_ixI (i := x) (by omega)
    rw [if_pos (by rw [qa_lt, qa_3]; exact h1), isL_1 (by omega) (by omega), qa_b, if_neg n10, ← qa_nIx (i := x) (by omega)]
    exact c1_of (do_unload (F := F) (M := nTh M 0) A hB (l := ix x) (by omega)) rfl
  · rw [if_neg (by rw [qa_lt, qa_3]; exact h1), isL_0 (Or.inr (by omega)), qa_b, if_pos (rfl : (0 : Int32) = 0)]
    exact ⟨_, _, _, _, rfl, rfl, A2, Or.inl ⟨rfl, rfl⟩⟩
theorem c_setGate {B : Int} {F : FS} {M : RS} (A : eAll B F M) (hB : B + 400 ≤ 100000000) {x : Int32} (hx : x = 0 ∨ x = 1) : eCw (B + 400) (fX9_setGate x F) (fX10_setGate x M) := by
  have hb : fX9_setGate x F = bnd2 (fX9_doSetGate x F) (fun r u => some (r, u)) := by
    unfold fX9_setGate fX9_setGate_b0 fX9_setGate_b10
    rcases hx with e | e
    · rw [if_pos e, e]
    · rw [if_neg (by rw [e]; decide), e]
  rw [hb]
  unfold fX10_setGate fX10_setGate_b0
  obtain ⟨s, F', M', e1, e2, e3, e4⟩ := do_gate (F := F) (M := nTh M 0) A hB hx
  rw [e1, e2, qa_b2, qa_b2]
  exact ⟨_, _, _, rfl, rfl, e3⟩
theorem c_crank {B : Int} {F : FS} {M : RS} (A : eAll B F M) (hB : B + 400 ≤ 100000000) (x : Int32) : eC1 (B + 400) xIA (fX9_crank x F) (fX10_crank x M) := by
  have v : (20 : Int32).toInt = 20 := by decide
  have v' : (-20 : Int32).toInt = -20 := by decide
  have A2 := A.mono (by omega : B ≤ B + 400) hB
  unfold fX9_crank fX9_crank_b0 fX9_crank_b12 fX10_crank fX10_crank_b0
  by_cases h0 : x.toInt < -20
  · rw [if_pos (by rw [qa_lt, v']; exact h0), bt_0 (by rw [v']; omega), qa_b, if_pos (rfl : (0 : Int32) = 0)]
    exact ⟨_, _, _, _, rfl, rfl, A2, Or.inl ⟨rfl, rfl⟩⟩
  rw [if_neg (by rw [qa_lt, v']; exact h0)]
  by_cases h1 : x.toInt ≤ 20
  · rw [if_pos (by rw [qa_le, v]; exact h1), bt_1 (by rw [v']; omega) (by rw [v]; omega), qa_b, if_neg n10]
    exact c1_of (do_crank (F := F) (M := nTh M 0) A hB (by omega) h1) rfl
  · rw [if_neg (by rw [qa_le, v]; exact h1), bt_0 (by rw [v]; omega), qa_b, if_pos (rfl : (0 : Int32) = 0)]
    exact ⟨_, _, _, _, rfl, rfl, A2, Or.inl ⟨rfl, rfl⟩⟩
theorem c_setWinch {B : Int} {F : FS} {M : RS} (A : eAll B F M) (hB : B + 400 ≤ 100000000) (x y z : Int32) : eC1 (B + 400) xIA (fX9_setWinch x y z F) (fX10_setWinch x y z M) := by
  have v20 : (20 : Int32).toInt = 20 := by decide
  have v50 : (50 : Int32).toInt = 50 := by decide
  have A2 := A.mono (by omega : B ≤ B + 400) hB
  unfold fX9_setWinch fX9_setWinch_b0 fX9_setWinch_b11 fX9_setWinch_b31 fX9_setWinch_b51 fX10_setWinch fX10_setWinch_b0 fX10_setWinch_b39 fX10_setWinch_b40
  rw [if_pos (rfl : (0 : Int32) = 0), if_neg n10]
  by_cases h0 : x.toInt < 1
  · rw [if_pos (by rw [qa_lt, qa_1]; exact h0), bt_0 (by rw [qa_1]; omega), qa_b, if_pos (rfl : (0 : Int32) = 0)]
    exact ⟨_, _, _, _, rfl, rfl, A2, Or.inl ⟨rfl, rfl⟩⟩
  rw [if_neg (by rw [qa_lt, qa_1]; exact h0)]
  by_cases h1 : x.toInt ≤ 20
  · rw [if_pos (by rw [qa_le, v20]; exact h1), bt_1 (by rw [qa_1]; omega) (by rw [v20]; omega), qa_b, if_neg n10]
    by_cases g0 : y.toInt < 0
    · rw [if_pos (by rw [qa_lt, qa_0]; exact g0), bt_0 (by rw [qa_0]; omega), qa_b, if_pos (rfl : (0 : Int32) = 0)]
      exact ⟨_, _, _, _, rfl, rfl, A2, Or.inl ⟨rfl, rfl⟩⟩
    rw [if_neg (by rw [qa_lt, qa_0]; exact g0)]
    by_cases g1 : y.toInt ≤ 50
    · rw [if_pos (by rw [qa_le, v50]; exact g1), bt_1 (by rw [qa_0]; omega) (by rw [v50]; omega), qa_b, if_neg n10]
      by_cases k0 : z.toInt < 0
      · rw [if_pos (by rw [qa_lt, qa_0]; exact k0), bt_0 (by rw [qa_0]; omega), qa_b, if_pos (rfl : (0 : Int32) = 0)]
        exact ⟨_, _, _, _, rfl, rfl, A2, Or.inl ⟨rfl, rfl⟩⟩
      rw [if_neg (by rw [qa_lt, qa_0]; exact k0)]
      by_cases k1 : z.toInt ≤ 20
      · rw [if_pos (by rw [qa_le, v20]; exact k1), bt_1 (by rw [qa_0]; omega) (by rw [v20]; omega), qa_b, if_neg n10]
        exact c1_of (do_winch (F := F) (M := nTh M 0) A hB (by omega) h1 (by omega) g1 (by omega) k1) rfl
      · rw [if_neg (by rw [qa_le, v20]; exact k1), bt_0 (by rw [v20]; omega), qa_b, if_pos (rfl : (0 : Int32) = 0)]
        exact ⟨_, _, _, _, rfl, rfl, A2, Or.inl ⟨rfl, rfl⟩⟩
    · rw [if_neg (by rw [qa_le, v50]; exact g1), bt_0 (by rw [v50]; omega), qa_b, if_pos (rfl : (0 : Int32) = 0)]
      exact ⟨_, _, _, _, rfl, rfl, A2, Or.inl ⟨rfl, rfl⟩⟩
  · rw [if_neg (by rw [qa_le, v20]; exact h1), bt_0 (by rw [v20]; omega), qa_b, if_pos (rfl : (0 : Int32) = 0)]
    exact ⟨_, _, _, _, rfl, rfl, A2, Or.inl ⟨rfl, rfl⟩⟩
theorem c_setCross {B : Int} {F : FS} {M : RS} (A : eAll B F M) (hB : B + 400 ≤ 100000000) (x y : Int32) : eC1 (B + 400) xIA (fX9_setCross x y F) (fX10_setCross x y M) := by
  have v20 : (20 : Int32).toInt = 20 := by decide
  have v50 : (50 : Int32).toInt = 50 := by decide
  have A2 := A.mono (by omega : B ≤ B + 400) hB
  unfold fX9_setCross fX9_setCross_b0 fX9_setCross_b11 fX9_setCross_b32 fX10_setCross fX10_setCross_b0 fX10_setCross_b34
  by_cases h0 : x.toInt < 1
  · rw [if_pos (by rw [qa_lt, qa_1]; exact h0), bt_0 (by rw [qa_1]; omega), qa_b, if_pos (rfl : (0 : Int32) = 0)]
    exact ⟨_, _, _, _, rfl, rfl, A2, Or.inl ⟨rfl, rfl⟩⟩
  rw [if_neg (by rw [qa_lt, qa_1]; exact h0)]
  by_cases h1 : x.toInt ≤ 20
  · rw [if_pos (by rw [qa_le, v20]; exact h1), bt_1 (by rw [qa_1]; omega) (by rw [v20]; omega), qa_b, if_neg n10]
    by_cases g0 : y.toInt < 1
    · rw [if_pos (by rw [qa_lt, qa_1]; exact g0), bt_0 (by rw [qa_1]; omega), qa_b, if_pos (rfl : (0 : Int32) = 0)]
      exact ⟨_, _, _, _, rfl, rfl, A2, Or.inl ⟨rfl, rfl⟩⟩
    rw [if_neg (by rw [qa_lt, qa_1]; exact g0)]
    by_cases g1 : y.toInt ≤ 50
    · rw [if_pos (by rw [qa_le, v50]; exact g1), bt_1 (by rw [qa_1]; omega) (by rw [v50]; omega), qa_b, if_neg n10]
      exact c1_of (do_cross (F := F) (M := nTh M 0) A hB (by omega) h1 (by omega) g1) rfl
    · rw [if_neg (by rw [qa_le, v50]; exact g1), bt_0 (by rw [v50]; omega), qa_b, if_pos (rfl : (0 : Int32) = 0)]
      exact ⟨_, _, _, _, rfl, rfl, A2, Or.inl ⟨rfl, rfl⟩⟩
  · rw [if_neg (by rw [qa_le, v20]; exact h1), bt_0 (by rw [v20]; omega), qa_b, if_pos (rfl : (0 : Int32) = 0)]
    exact ⟨_, _, _, _, rfl, rfl, A2, Or.inl ⟨rfl, rfl⟩⟩
theorem c_output {B : Int} {F : FS} {M : RS} (A : eAll B F M) (x : Int32) : eCr B F (fX9_output x F) (fX10_output x M) := by
  obtain ⟨n, n1, n2, n3, n4⟩ := A.2.2.2.2.2.1
  have hnI := qa_nI (n := n) (by omega)
  have hs : (mOl (nTh M 0) - 1).toInt = (n : Int) - 1 := by
    rw [show mOl (nTh M 0) = nI n from n3, qa_sub (by rw [hnI, qa_1]; omega) (by rw [hnI, qa_1]; omega), hnI, qa_1]
  unfold fX9_output fX9_output_b0 fX10_output fX10_output_b0
  rw [n2]
  by_cases h0 : x.toInt < 0
  · rw [if_pos (by rw [qa_lt, qa_0]; exact h0), bt_0 (by rw [qa_0]; omega), qa_b, if_pos (rfl : (0 : Int32) = 0)]
    exact ⟨_, _, rfl, rfl, A⟩
  rw [if_neg (by rw [qa_lt, qa_0]; exact h0)]
  by_cases h1 : (n : Int) ≤ x.toInt
  · rw [if_pos (by rw [qa_le, hnI]; exact h1), bt_0 (by rw [hs]; omega), qa_b, if_pos (rfl : (0 : Int32) = 0)]
    exact ⟨_, _, rfl, rfl, A⟩
  · have hx := qa_ixI (i := x) (by omega)
    rw [if_neg (by rw [qa_le, hnI]; exact h1), bt_1 (by rw [qa_0]; omega) (by rw [hs]; omega), qa_b, if_neg n10, sc_at (ix x) hx (by omega) (by omega), qa_b, qa_gi (by omega) (by omega), n4 _ (by omega)]
    exact ⟨_, _, rfl, rfl, A⟩
theorem c_errorCode {B : Int} {F : FS} {M : RS} (A : eAll B F M) : eCr B F (fX9_errorCode F) (fX10_errorCode M) :=
  ⟨_, nTh M 0, rfl, by show some (mEc M, nTh M 0) = some (pEc (fP F), nTh M 0); rw [A.2.2.2.2.2.2.2.1], A⟩
theorem c_errorPosition {B : Int} {F : FS} {M : RS} (A : eAll B F M) : eCr B F (fX9_errorPosition F) (fX10_errorPosition M) :=
  ⟨_, nTh M 0, rfl, by show some (mEp M, nTh M 0) = some (pEp (fP F), nTh M 0); rw [A.2.2.2.2.2.2.2.2], A⟩
theorem gH_fH (F : FS) : gH F (fH F) = F := by
  obtain ⟨a1, a2, a3, a4, a5, a6, a7, a8, a9, a10, a11, a12, a13, a14, a15, a16, a17, a18, a19⟩ := F
  rfl
theorem fH_gH (F : FS) (h : HT) : fH (gH F h) = h := rfl
theorem hQ_iV (h : HT) (w : KS) (a b : Int32) (i : Nat) : hQ (iY (iX (iV h w) a) b) i = hQ h i := by
  unfold hQ
  split <;> rfl
theorem c_undo {B : Int} {F : FS} {M : RS} (A : eAll B F M) : eCw B (fX9_undo F) (fX10_undo M) := by
  have A0 := A
  obtain ⟨a1, a2, ⟨x, k, hx, hk, ex, ey, em, hj⟩, a4, a5, a6, a7⟩ := A
  have hm : mAc (nTh M 0) = nI k := em
  unfold fX9_undo fX9_undo_b0 fX10_undo fX10_undo_b0
  rw [hm]
  by_cases k0 : k = 0
  · subst k0
    have e : fX4_takeBack (fH F) = some ((-1), fH F) := by
      unfold fX4_takeBack fX4_takeBack_b0
      rw [show hY (fH F) = nI 0 from ey, if_neg (by decide)]
    rw [e, qa_b2, if_pos (show nI 0 = 0 from rfl), gH_fH]
    exact ⟨_, F, nTh M 0, rfl, rfl, A0⟩
  · obtain ⟨m, hm'⟩ : ∃ m, k = m + 1 := ⟨k - 1, by omega⟩
    subst hm'
    obtain ⟨w, ew, cw⟩ := sb_copy (fN F) (hQ (fH F) ((x + 7) % 8))
    have hb := hi_back (h := fH F) hx ex hk ey ew
    obtain ⟨o1, o2⟩ := hj m (by omega)
    rw [show (x + 8 - (m + 1) + m) % 8 = (x + 7) % 8 by omega] at o1
    have hw : eRel w (rowA (mPa M) (561 * m)) := o1.cp o2.2.1 cw
    have nm : ¬ nI (m + 1) = 0 := by
      intro h
      have h := congrArg Int32.toInt h
      rw [qa_nI (by omega), qa_0] at h
      omega
    have e5 : (561 * mAc (nAc (nTh M 0) (nI (m + 1) - 1))).toInt = ((561 * m : Nat) : Int) := by
      show (561 * (nI (m + 1) - 1)).toInt = _
      rw [nI_pred, qa_mul (by rw [qa_nI (by omega), show (561 : Int32).toInt = 561 by decide]; omega) (by rw [qa_nI (by omega), show (561 : Int32).toInt = 561 by decide]; omega), qa_nI (by omega), show (561 : Int32).toInt = 561 by decide]
      omega
    rw [hb, qa_b2, if_neg nm, rb_copy e5 (b := 0) qa_0 (by omega) (by omega) (by omega), qa_b]
    have eqr : ∀ i, i < 561 → va_cpy (mPa (nAc (nTh M 0) (nI (m + 1) - 1))) (mSt (nAc (nTh M 0) (nI (m + 1) - 1))) (561 * m) 0 561 i = rowA (mPa M) (561 * m) i := by
      intro i hi
      rw [pk_cpy_in (by omega) (by omega)]
      rfl
    refine ⟨nI m, gH F (iY (iX (iV (fH F) w) (nI ((x + 7) % 8))) (nI m)), nStA (nAc (nTh M 0) (nI m)) (va_cpy (mPa M) (mSt M) (561 * m) 0 561), rfl, ?_, ⟨hw.cong o2.2.1 eqr, o2.cong eqr, ⟨(x + 7) % 8, m, by omega, by omega, rfl, rfl, rfl, fun j hjm => ?_⟩, a4, a5, a6, a7⟩⟩
    · show some (mAc (nStA (nAc (nTh M 0) (nI (m + 1) - 1)) _), nStA (nAc (nTh M 0) (nI (m + 1) - 1)) _) = _
      rw [nI_pred]
      rfl
    · rw [fH_gH, hQ_iV, show ((x + 7) % 8 + 8 - m + j) % 8 = (x + 8 - (m + 1) + j) % 8 by omega]
      exact hj j (by omega)
