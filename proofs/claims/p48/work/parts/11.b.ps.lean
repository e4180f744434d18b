/-! ticks that pass, on both sides -/
theorem eBe.pre {g g1 g' : Nat → Int32} (h : eBe g1 g') (hB : eBg g1 = eBg g) (hN : eN g1 = eN g) (h2 : ∀ c, c < eN g → eC g1 c 2 = 0 → eC g c 2 = 0 ∧ ¬ g 4 = nI c) (h4 : g1 4 = g 4 ∨ g1 4 = (-1)) : (eBg g' = eBg g ∧ (g' 4 = g 4 ∨ g' 4 = (-1))) ∨ (eBg g' = eBg g + 1 ∧ ¬ g' 4 = g 4 ∧ ∃ c, c < eN g ∧ g' 4 = nI c) := by
  rcases h with ⟨a, b⟩ | ⟨c, a, b, d, e⟩
  · left
    rw [a, b, hB]
    exact ⟨rfl, h4⟩
  · right
    rw [hN] at a
    refine ⟨by rw [d, hB], ?_, c, a, e⟩
    rw [e]
    exact fun h => (h2 c a b).2 h.symm
/-- one tick -/
theorem tk_sim {u : KS} {g : Nat → Int32} {B : Int} (R : eRel u g) (I : eInv B g) (hB : B + 2 ≤ 100000000) :
    ∃ u1 u2 u3 u' g', fX8_measureAll (wC u 0 (sC u 0 + 1)) = some u1 ∧ fX8_runWinch u1 = some u2 ∧ fX8_runCarOnRamp u2 = some u3 ∧ fX8_runQueue u3 = some u' ∧ fX10_tickOnce g = some g' ∧ eRel u' g' ∧ eInv (B + 2) g' ∧
      ((eBg g' = eBg g ∧ (g' 4 = g 4 ∨ g' 4 = (-1))) ∨ (eBg g' = eBg g + 1 ∧ ¬ g' 4 = g 4 ∧ ∃ c, c < eN g ∧ g' 4 = nI c)) := by
  have hG := I.2.1
  have hn := hG.1.n
  obtain ⟨u1, a1, a2, a3, a4⟩ := tk_time R I (by omega)
  obtain ⟨u2, g2, b1, b2, b3, b4, b5, b6⟩ := wi_run a2 a3
  have F0 : eF g (upd g 0 (g 0 + 1)) := eF_upd g (by omega) _
  have F2 := F0.trans b5
  have T2 : eU g2 := b5.U (b6 0 (by omega) (by omega) (by omega)) a4
  have h42 : g2 4 = g 4 := by rw [b6 4 (by omega) (by omega) (by omega), pk_un (by omega)]
  unfold fX10_tickOnce fX10_tickOnce_b0
  rw [b2, qa_b]
  by_cases e4 : g2 4 = (-1)
  · rw [if_pos e4]
    have hr : fX8_runCarOnRamp u2 = some u2 := by
      unfold fX8_runCarOnRamp fX8_runCarOnRamp_b0
      rw [show sC u2 8 = g2 4 from b3.1.1.2.2.2.2.2.2.1, if_pos e4]
    obtain ⟨u', g', c1, c2, c3, c4, c5⟩ := aq_sim b3 b4 T2 (by omega)
    refine ⟨u1, u2, u2, u', g', a1, b1, hr, c1, c2, c3, c4.mono (by omega) hB, c5.pre F2.Bg F2.N (fun c hc h => ?_) (Or.inl h42)⟩
    rw [F2.C] at h
    refine ⟨h, fun h' => ?_⟩
    rw [← h42, e4] at h'
    have h' := congrArg Int32.toInt h'
    rw [qa_m1, qa_nI (by omega)] at h'
    omega
  · rw [if_neg e4]
    obtain ⟨u3, g3, d1, d2, d3, d4, d5, d6, d7⟩ := dr_sim b3 b4 T2 e4
    rw [d2, qa_b]
    obtain ⟨u', g', c1, c2, c3, c4, c5⟩ := aq_sim d3 d4 d5 (by omega)
    obtain ⟨d7, d8, d9⟩ := d7
    refine ⟨u1, u2, u3, u', g', a1, b1, d1, c1, c2, c3, c4.mono (by omega) hB, c5.pre (d6.trans F2.Bg) (d8.trans F2.N) (fun c hc h => ?_) ?_⟩
    · have h := d9 c (by rw [F2.N]; exact hc) h
      rw [F2.C] at h
      refine ⟨h, fun h' => ?_⟩
      have x2 := (hG.2.2.1.resolve_left (by rw [← h42]; exact e4)).2.2
      rw [h', qa_ixn (by omega), h] at x2
      exact absurd x2 (by decide)
    · rw [← h42]
      exact d7
/-- many ticks -/
theorem ps_sim {u : KS} {g : Nat → Int32} {B : Int} (R : eRel u g) (I : eInv B g) {n : Nat} (hn : n ≤ 200) (hB : B + 400 ≤ 100000000) {x : Int32} (hx : x.toInt = (n : Int)) :
    ∃ r u' g', fX8_passTicks x u = some (r, u') ∧ fX10_tickMany x g = some (r, g') ∧ eRel u' g' ∧ eInv (B + 2 * n) g' := by
  have c13 : sC u 13 = g 9 := R.1.1.2.2.2.2.2.2.2.2.2.2.2.1
  unfold fX8_passTicks fX8_passTicks_b0 fX10_tickMany fX10_tickMany_b0
  rw [c13]
  refine qa_lrel (fun j (s : Int32 × Int32 × Int32 × KS) (t : Int32 × Int32 × Int32 × (Nat → Int32)) => s.1 = x ∧ t.1 = x ∧ s.2.1 = g 9 ∧ t.2.1 = g 9 ∧ s.2.2.1 = nI j ∧ t.2.2.1 = nI j ∧ eRel s.2.2.2 t.2.2.2 ∧ eInv (B + 2 * j) t.2.2.2) (fun a b => ∃ r u' g', a = some (r, u') ∧ b = some (r, g') ∧ eRel u' g' ∧ eInv (B + 2 * n) g') n ?_ 5000 5000 0 _ _ ⟨rfl, rfl, rfl, rfl, rfl, rfl, R, by simpa using I⟩ (by omega) (by omega) (by omega)
  intro j s t k l hj hI hk
  obtain ⟨s1, s2, s3, v⟩ := s
  obtain ⟨t1, t2, t3, h⟩ := t
  obtain ⟨e1, e2, e3, e4, e5, e6, R', I'⟩ := hI
  have hjI := qa_nI (n := j) (by omega)
  have e1 : s1 = x := e1
  have e2 : t1 = x := e2
  have e3 : s2 = g 9 := e3
  have e4 : t2 = g 9 := e4
  have e5 : s3 = nI j := e5
  have e6 : t3 = nI j := e6
  have R' : eRel v h := R'
  have I' : eInv (B + 2 * j) h := I'
  show ∃ r u' g', fX8_passTicks_b10 k s1 s2 s3 v = some (r, u') ∧ fX10_tickMany_b10 l t1 t2 t3 h = some (r, g') ∧ eRel u' g' ∧ eInv (B + 2 * n) g'
  rw [e1, e2, e3, e4, e5, e6]
  unfold fX8_passTicks_b10 fX10_tickMany_b10
  by_cases q : j = n
  · rw [if_pos (by rw [qa_le]; omega), if_pos (by rw [qa_le]; omega), show sC v 13 = h 9 from R'.1.1.2.2.2.2.2.2.2.2.2.2.2.1]
    exact ⟨_, _, _, rfl, rfl, R', by rw [q] at I'; exact I'⟩
  · rw [if_neg (by rw [qa_le]; omega), if_neg (by rw [qa_le]; omega)]
    obtain ⟨u1, u2, u3, u', g', a1, a2, a3, a4, a5, a6, a7, -⟩ := tk_sim R' I' (by omega)
    rw [a1, qa_b, a2, qa_b, a3, qa_b, a4, qa_b, a5, qa_b, nI_1]
    exact hk _ _ (by omega) ⟨rfl, rfl, rfl, rfl, rfl, rfl, a6, a7.mono (by omega) (by omega)⟩
