/-! play -/
theorem c_play {B : Int} {F : FS} {M : RS} (A : eAll B F M) (hB : B + 16400 ≤ 100000000) : eCw (B + 16400) (fX9_play F) (fX10_play M) := by
  obtain ⟨⟨n, n1, n2, n3, n4⟩, P2, P3⟩ := A.2.2.2.2.2.2
  have P : pRn (fP F) M n := ⟨n1, n2, n3, n4⟩
  obtain ⟨p', M', e1, e2, L, O, R⟩ := sc_sim P
  have A1 : eAll B (gP F (tLe p' 0)) (nTl M' 0) := (((A.alp.Th 0).fo O).P (tLe p' 0)).Tl 0 |>.all ⟨⟨0, by omega, rfl, rfl, fun i hi => absurd hi (by omega)⟩, L.2.1, L.2.2.1⟩
  unfold fX9_play fX9_play_b0 fX10_play
  rw [e1, qa_b2, e2, fP_P, gP_P]
  unfold fX10_play_b30
  rw [rb_fine, qa_b]
  by_cases h0 : pEc p' = 0
  · have hm : mEc (nTl M' 0) = 0 := L.2.1.symm.trans h0
    obtain ⟨c, PP⟩ := R h0
    obtain ⟨_, h40, hp, hc, hr⟩ := PP
    have hC := qa_nI (n := c) (by omega)
    rw [if_pos h0, if_neg n10, if_pos hm, if_neg n10]
    refine qa_lrel (fun j (s : Int32 × FS) (t : Int32 × RS) => ∃ F' M2, s = (nI j, F') ∧ t = (nI j, M2) ∧ eAll (B + 400 * j) F' M2 ∧ fP F' = tLe p' 0 ∧ mCo M2 = mCo M' ∧ mCc M2 = mCc M') (fun a b => eCw (B + 16400) a b) c ?_ 5000 5000 0 (0, gP F (tLe p' 0)) (0, nTl M' 0) ⟨gP F (tLe p' 0), nTl M' 0, rfl, rfl, A1.mono (by omega) (by omega), rfl, rfl, rfl⟩ (by omega) (by omega) (by omega)
    intro j s t k l hj ⟨F', M2, s1, s2, s3, s4, s5, s6⟩ hk
    subst s1
    subst s2
    have hJ := qa_nI (n := j) (by omega)
    show eCw (B + 16400) (fX9_play_b24 k (nI j) F') (fX10_play_b46 l (nI j) M2)
    unfold fX9_play_b24 fX10_play_b46
    have ep : pCc (fP F') = nI c := by
      rw [s4]
      exact hp
    rw [ep, s6, hc]
    by_cases q : j = c
    · rw [if_pos (by rw [qa_le]; omega), if_pos (by rw [qa_le]; omega)]
      exact ⟨nI j, F', M2, rfl, rfl, s3.mono (by omega) (by omega)⟩
    · have W : eRw (fP F') M2 j := by
        unfold eRw
        rw [s4, s5]
        exact hr j (by omega)
      obtain ⟨r, F2, M3, f1, f2, f3, ⟨f4, f5, f6, f7⟩⟩ := pm_sim s3 (by omega) (i := j) (c := c) (by omega) h40 ep W
      rw [if_neg (by rw [qa_le]; omega), if_neg (by rw [qa_le]; omega), f1, f2, qa_b2, qa_b2]
      by_cases neg : r < 0
      · rw [if_pos neg, if_pos neg]
        exact ⟨nI j, F2, M3, rfl, rfl, f3.mono (by omega) (by omega)⟩
      · rw [if_neg neg, if_neg neg, nI_1]
        refine hk _ _ (by omega) ⟨F2, M3, rfl, rfl, ?_, f4.trans s4, f5.trans s5, f6.trans s6⟩
        exact f3.mono (by omega) (by omega)
  · have hm : ¬ mEc (nTl M' 0) = 0 := fun h => h0 (L.2.1.trans h)
    rw [if_neg h0, if_pos (rfl : (0 : Int32) = 0), if_neg hm, if_pos (rfl : (0 : Int32) = 0)]
    exact ⟨-1, _, _, rfl, rfl, A1.mono (by omega) (by omega)⟩
