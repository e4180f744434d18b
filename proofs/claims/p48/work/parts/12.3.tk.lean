/-! p48, pure: what a tick does, step by step, on the ghost row -/
theorem eF_I {g g' : Nat → Int32} (h : eF g g') (h0 : g' 0 = g 0) (h1 : g' 1 = g 1) : eI g' = eI g := by
  unfold eI
  rw [h.V, h0, h1]
theorem eF_P {g g' : Nat → Int32} (h : eF g g') (h1 : g' 1 = g 1) : eP g' = eP g := by
  unfold eP
  rw [h1, h 18 (by omega)]
/-- the step of the winch, and where it pulls to -/
def plS (g : Nat → Int32) : Int32 := if eI g < g 24 then eI g else g 24
def plD (g : Nat → Int32) : Int32 := if eV g (g 0) ≤ g 1 then -plS g else plS g
def plG (g : Nat → Int32) : Nat → Int32 := if eI g = plS g then upd (upd g 1 (g 1 + plD g)) 2 0 else upd g 1 (g 1 + plD g)
theorem pl_g {g : Nat → Int32} (S : eS g) (H : eH g) : fX10_pull g = some (plG g) := by
  unfold fX10_pull fX10_pull_b0 fX10_pull_b51
  rw [rb_deckAt S H, qa_b, rb_lipNow S H, qa_b]
  unfold plG plD
  by_cases h : eV g (g 0) ≤ g 1
  · rw [if_pos h, if_pos h, qa_g (by decide)]
    show (if eI g = plS g then some (upd (upd g 1 (g 1 + -plS g)) 2 0) else some (upd g 1 (g 1 + -plS g))) = _
    split <;> rfl
  · rw [if_neg h, if_neg h, qa_g (by decide)]
    show (if eI g = plS g then some (upd (upd g 1 (g 1 + plS g)) 2 0) else some (upd g 1 (g 1 + plS g))) = _
    split <;> rfl
def wn6 (g : Nat → Int32) : Nat → Int32 := if g 3 = 0 then plG (upd g 2 2) else g
def wnG (g : Nat → Int32) : Nat → Int32 := if g 2 = 0 then (if eI g ≤ g 25 then g else wn6 (upd (upd g 2 1) 3 (g 26))) else if g 2 = 1 then wn6 (upd g 3 (g 3 - 1)) else plG g
theorem n10' : ¬ (1 : Int32) = 2 := by decide
theorem n02' : ¬ (0 : Int32) = 2 := by decide
theorem n20' : ¬ (2 : Int32) = 0 := by decide
theorem n100' : ¬ (1 : Int32) = 0 := by decide
theorem b66_1 {g : Nat → Int32} (S : eS g) (H : eH g) (h2 : g 2 = 1) : fX10_winch_b66 g = some (wn6 g) := by
  unfold fX10_winch_b66 fX10_winch_b92 wn6
  rw [if_pos h2]
  by_cases h3 : g 3 = 0
  · have f := eF_upd g (k := 2) (by omega) 2
    rw [if_pos h3, if_pos h3, if_pos (show upd g 2 2 2 = 2 from pk_us), pl_g (f.S S) (f.H H)]
    rfl
  · rw [if_neg h3, if_neg h3, h2, if_neg n10']
theorem wn_g {g : Nat → Int32} (S : eS g) (H : eH g) (hw : g 2 = 0 ∨ g 2 = 1 ∨ g 2 = 2) : fX10_winch g = some (wnG g) := by
  unfold fX10_winch fX10_winch_b0 wnG
  rcases hw with h | h | h
  · rw [if_pos h, if_pos h, rb_lipNow S H, qa_b]
    by_cases hl : eI g ≤ g 25
    · rw [if_pos hl, if_pos hl]
      unfold fX10_winch_b66 fX10_winch_b92
      rw [h, if_neg n01, if_neg n02']
    · have f := (eF_upd g (k := 2) (by omega) 1).trans (eF_upd (upd g 2 1) (k := 3) (by omega) ((upd g 2 1) 26))
      have f : eF g (upd (upd g 2 1) 3 (g 26)) := f
      rw [if_neg hl, if_neg hl]
      exact b66_1 (f.S S) (f.H H) rfl
  · have f := eF_upd g (k := 3) (by omega) (g 3 - 1)
    rw [if_neg (show ¬ g 2 = 0 from by rw [h]; exact n100'), if_neg (show ¬ g 2 = 0 from by rw [h]; exact n100'), if_pos h, if_pos h]
    exact b66_1 (f.S S) (f.H H) ((pk_un (by omega)).trans h)
  · have h0 : ¬ g 2 = 0 := by rw [h]; exact n20'
    have h1 : ¬ g 2 = 1 := by rw [h]; exact n21
    rw [if_neg h0, if_neg h0, if_neg h1, if_neg h1]
    unfold fX10_winch_b66 fX10_winch_b92
    rw [if_neg (by rw [h]; exact n21), if_pos h, pl_g S H]
    rfl
/-- the winch leaves all but END, its own two numbers -/
theorem plG_fr (g : Nat → Int32) {i : Nat} (h1 : i ≠ 1) (h2 : i ≠ 2) : plG g i = g i := by
  unfold plG
  split
  · exact (pk_un h2).trans (pk_un h1)
  · exact pk_un h1
theorem wn6_fr (g : Nat → Int32) {i : Nat} (h1 : i ≠ 1) (h2 : i ≠ 2) : wn6 g i = g i := by
  unfold wn6
  split
  · exact (plG_fr _ h1 h2).trans (pk_un h2)
  · rfl
theorem wnG_fr (g : Nat → Int32) {i : Nat} (h1 : i ≠ 1) (h2 : i ≠ 2) (h3 : i ≠ 3) : wnG g i = g i := by
  unfold wnG
  split
  · split
    · rfl
    · exact (wn6_fr _ h1 h2).trans ((pk_un h3).trans (pk_un h2))
  · split
    · exact (wn6_fr _ h1 h2).trans (pk_un h3)
    · exact plG_fr _ h1 h2
theorem wnG_F (g : Nat → Int32) : eF g (wnG g) := fun i hi => wnG_fr g (by omega) (by omega) (by omega)
/-- when it pulls -/
def wnP (g : Nat → Int32) : Prop := g 2 = 2 ∨ (g 2 = 1 ∧ g 3 - 1 = 0) ∨ (g 2 = 0 ∧ ¬ eI g ≤ g 25 ∧ g 26 = 0)
theorem plG_v {g h : Nat → Int32} (f : eF g h) (h0 : h 0 = g 0) (h1 : h 1 = g 1) (h2 : h 2 = 2) : plG h 1 = g 1 + plD g ∧ plG h 2 = (if eI g = plS g then 0 else 2) := by
  have eI' := eF_I f h0 h1
  have eS' : plS h = plS g := by
    unfold plS
    rw [eI', f 24 (by omega)]
  have eD' : plD h = plD g := by
    unfold plD
    rw [eS', f.V, h0, h1]
  unfold plG
  rw [eI', eS', eD', h1]
  by_cases q : eI g = plS g
  · rw [if_pos q, if_pos q]
    exact ⟨(pk_un (by omega)).trans pk_us, pk_us⟩
  · rw [if_neg q, if_neg q]
    exact ⟨pk_us, (pk_un (by omega)).trans h2⟩
theorem wn_yes {g : Nat → Int32} (h : wnP g) : wnG g 1 = g 1 + plD g ∧ wnG g 2 = (if eI g = plS g then 0 else 2) ∧ (wnG g 3 = 0 ∨ (g 2 = 2 ∧ wnG g 3 = g 3)) := by
  unfold wnG
  rcases h with h | ⟨h, h3⟩ | ⟨h, hl, h3⟩
  · rw [if_neg (by rw [h]; exact n20'), if_neg (by rw [h]; exact n21)]
    obtain ⟨a, b⟩ := plG_v (eF.refl g) rfl rfl h
    exact ⟨a, b, Or.inr ⟨h, plG_fr g (by omega) (by omega)⟩⟩
  · rw [if_neg (by rw [h]; exact n100'), if_pos h]
    unfold wn6
    rw [if_pos (show upd g 3 (g 3 - 1) 3 = 0 from pk_us.trans h3)]
    obtain ⟨a, b⟩ := plG_v (g := g) (h := upd (upd g 3 (g 3 - 1)) 2 2) ((eF_upd g (by omega) _).trans (eF_upd _ (by omega) _)) rfl rfl pk_us
    exact ⟨a, b, Or.inl ((plG_fr _ (by omega) (by omega)).trans ((pk_un (by omega)).trans (pk_us.trans h3)))⟩
  · rw [if_pos h, if_neg hl]
    unfold wn6
    rw [if_pos (show upd (upd g 2 1) 3 (g 26) 3 = 0 from pk_us.trans h3)]
    obtain ⟨a, b⟩ := plG_v (g := g) (h := upd (upd (upd g 2 1) 3 (g 26)) 2 2) (((eF_upd g (by omega) _).trans (eF_upd _ (by omega) _)).trans (eF_upd _ (by omega) _)) rfl rfl pk_us
    exact ⟨a, b, Or.inl ((plG_fr _ (by omega) (by omega)).trans ((pk_un (by omega)).trans (pk_us.trans h3)))⟩
theorem wn_no {g : Nat → Int32} (hw : g 2 = 0 ∨ g 2 = 1 ∨ g 2 = 2) (h : ¬ wnP g) : wnG g 1 = g 1 ∧ (g 2 = 1 ∧ wnG g 2 = 1 ∧ wnG g 3 = g 3 - 1 ∨ g 2 = 0 ∧ ¬ eI g ≤ g 25 ∧ wnG g 2 = 1 ∧ wnG g 3 = g 26 ∨ g 2 = 0 ∧ eI g ≤ g 25 ∧ wnG g 2 = 0 ∧ wnG g 3 = g 3) := by
  unfold wnG
  rcases hw with q | q | q
  · rw [if_pos q]
    by_cases hl : eI g ≤ g 25
    · rw [if_pos hl]
      exact ⟨rfl, Or.inr (Or.inr ⟨q, hl, q, rfl⟩)⟩
    · rw [if_neg hl]
      unfold wn6
      rw [if_neg (show ¬ upd (upd g 2 1) 3 (g 26) 3 = 0 from fun z => h (Or.inr (Or.inr ⟨q, hl, pk_us.symm.trans z⟩)))]
      exact ⟨(pk_un (by omega)).trans (pk_un (by omega)), Or.inr (Or.inl ⟨q, hl, (pk_un (by omega)).trans pk_us, pk_us⟩)⟩
  · rw [if_neg (by rw [q]; exact n100'), if_pos q]
    unfold wn6
    rw [if_neg (show ¬ upd g 3 (g 3 - 1) 3 = 0 from fun z => h (Or.inr (Or.inl ⟨q, pk_us.symm.trans z⟩)))]
    exact ⟨pk_un (by omega), Or.inl ⟨q, (pk_un (by omega)).trans q, pk_us⟩⟩
  · exact absurd (Or.inl q) h
/-- the car on the ramp: it stands, drives, or comes on deck -/
def drX (g : Nat → Int32) : Nat → Int32 := upd (upd g 5 (g 5 + 1)) 11 (if g 11 < eP g then eP g else g 11)
def drG (g : Nat → Int32) : Nat → Int32 := if eO g (ix (g 4)) 0 < eP g then upd g 6 (g 6 + 1) else if eI g ≤ eO g (ix (g 4)) 1 then (if g 5 + 1 < g 27 then drX g else bdG (drX g)) else upd g 6 (g 6 + 1)
theorem dr_g {g : Nat → Int32} (S : eS g) (G : eG g) (h4 : ¬ g 4 = (-1)) : fX10_drive g = some (drG g) := by
  have H := G.1
  have hn60 : eN g ≤ 60 := by have := H.2.1; have := H.n; omega
  obtain ⟨x0, x1, x2⟩ := G.2.2.1.resolve_left h4
  have hx := qa_ixI x0
  unfold fX10_drive fX10_drive_b0 fX10_drive_b33 drG
  rw [rb_slopeNow, qa_b, rb_kindOf H (ix (g 4)) 0 hx x1 qa_0 (by omega), qa_b]
  by_cases h1 : eO g (ix (g 4)) 0 < eP g
  · rw [if_pos h1, if_pos h1]
  · rw [if_neg h1, if_neg h1, rb_lipNow S H, qa_b, rb_kindOf H (ix (g 4)) 1 hx x1 qa_1 (by omega), qa_b]
    by_cases h2 : eI g ≤ eO g (ix (g 4)) 1
    · have eP' : eP (upd g 5 (g 5 + 1)) = eP g := eF_P (eF_upd g (by omega) _) (pk_un (by omega))
      have eX : upd (upd g 5 (g 5 + 1)) 11 (if upd g 5 (g 5 + 1) 11 < eP g then eP g else upd g 5 (g 5 + 1) 11) = drX g := by
        unfold drX
        rw [show upd g 5 (g 5 + 1) 11 = g 11 from pk_un (by omega)]
      have d5 : drX g 5 = g 5 + 1 := (pk_un (by omega)).trans pk_us
      have d27 : drX g 27 = g 27 := (pk_un (by omega)).trans (pk_un (by omega))
      rw [if_pos h2, if_pos h2, rb_slopeNow, qa_b, eP', eX, d5, d27]
      by_cases h3 : g 5 + 1 < g 27
      · rw [if_pos h3, if_pos h3]
      · rw [if_neg h3, if_neg h3]
        have d4 : drX g 4 = g 4 := (pk_un (by omega)).trans (pk_un (by omega))
        exact bd_g (g := g) (X := drX g) rfl x0 (by rw [d4]; omega)
    · rw [if_neg h2, if_neg h2]
/-- who begins, or whether the crew is called -/
theorem b28_free {g : Nat → Int32} (h4 : ¬ g 4 = (-1)) : fX10_tickOnce_b28 g = some g := by
  unfold fX10_tickOnce_b28
  rw [if_neg h4]
theorem b28_none {g : Nat → Int32} (h4 : g 4 = (-1)) (h14 : g 14 ≤ 0) : fX10_tickOnce_b28 g = some g := by
  unfold fX10_tickOnce_b28
  rw [if_pos h4, if_pos h14]
/-- the first of the queue behind the first one that can begin; -1 -/
def crC (g : Nat → Int32) (x3 : Int32) : Prop := x3 = (-1) ∨ ∃ p, 1 ≤ p ∧ p < eQ g ∧ x3 = g (41 + p) ∧ eY g (ix (g (41 + p))) = 0
theorem cr_lp {g : Nat → Int32} (S : eS g) (G : eG g) {r f : Int32} : ∀ (k j : Nat) (m : Nat) (x3 : Int32), j + k = eQ g → 1 ≤ j → k + 1 < m → crC g x3 →
    ∃ z, crC g z ∧ lop (fun y (z : Int32 × Int32 × Int32 × Int32 × (Nat → Int32)) => fX10_callCrew_b13 y z.1 z.2.1 z.2.2.1 z.2.2.2.1 z.2.2.2.2) m (r, f, x3, nI j, g) = fX10_callCrew_b68 r f z g := by
  have q14 := G.q
  intro k
  induction k with
  | zero =>
    intro j m x3 hj h1 hm hc
    obtain ⟨m, rfl⟩ : ∃ q, m = q + 1 := ⟨m - 1, by omega⟩
    refine ⟨x3, hc, ?_⟩
    show fX10_callCrew_b13 _ r f x3 (nI j) g = _
    unfold fX10_callCrew_b13
    rw [if_pos (by rw [qa_le, q14.1, qa_nI (by omega)]; omega)]
  | succ k ih =>
    intro j m x3 hj h1 hm hc
    obtain ⟨m, rfl⟩ : ∃ q, m = q + 1 := ⟨m - 1, by omega⟩
    have hjq : j < eQ g := by omega
    obtain ⟨v1, v2, v3⟩ := G.2.2.2.2.1 j hjq
    have hin : inb (41 + nI j) 561 = true := inb_n (qx_41 (by omega)) (by omega)
    have hix : ix (41 + nI j) = 41 + j := qa_ix (qx_41 (by omega))
    show ∃ z, crC g z ∧ fX10_callCrew_b13 _ r f x3 (nI j) g = _
    unfold fX10_callCrew_b13 fX10_callCrew_b61
    rw [if_neg (by rw [qa_le, q14.1, qa_nI (by omega)]; omega)]
    by_cases h3 : x3 = (-1)
    · rw [if_pos h3, qa_g hin, hix, rb_whyNot S G.1 (ix (g (41 + j))) (qa_ixI v1) v2, qa_b, nI_1]
      by_cases hy : eY g (ix (g (41 + j))) = 0
      · rw [if_pos hy, qa_g hin]
        exact ih (j + 1) m (g (41 + j)) (by omega) (by omega) (by omega) (Or.inr ⟨j, h1, hjq, rfl, hy⟩)
      · rw [if_neg hy]
        exact ih (j + 1) m (-1) (by omega) (by omega) (by omega) (Or.inl rfl)
    · rw [if_neg h3]
      exact ⟨x3, hc, rfl⟩
theorem cr_g {g : Nat → Int32} (S : eS g) (G : eG g) (h0 : 0 < eQ g) (r : Int32) : ∃ z, crC g z ∧ fX10_callCrew r g = fX10_callCrew_b68 r (g 41) z g := by
  have q14 := G.q
  unfold fX10_callCrew fX10_callCrew_b0
  exact cr_lp S G (eQ g - 1) 1 LF (-1) (by omega) (by omega) (by show _ < 5000; omega) (Or.inl rfl)
