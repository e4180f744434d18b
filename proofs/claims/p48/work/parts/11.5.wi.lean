/-! the winch -/
theorem n01 : ¬ (0 : Int32) = 1 := by decide
theorem n21 : ¬ (2 : Int32) = 1 := by decide
theorem ab_le {x D : Int32} (hx1 : -100000000 ≤ x.toInt) (hx2 : x.toInt ≤ 100000000) (hD1 : -60500 ≤ D.toInt) (hD2 : D.toInt ≤ 800) : D.toInt ≤ x.toInt ∧ (ab (x - D)).toInt = x.toInt - D.toInt ∨ x.toInt < D.toInt ∧ (ab (x - D)).toInt = D.toInt - x.toInt := by
  have e : (x - D).toInt = x.toInt - D.toInt := qa_sub (by omega) (by omega)
  unfold ab
  by_cases h : 0 ≤ x - D
  · rw [if_pos h]
    rw [qa_le, qa_0, e] at h
    left
    exact ⟨by omega, e⟩
  · rw [if_neg h]
    rw [qa_le, qa_0, e] at h
    right
    refine ⟨by omega, ?_⟩
    rw [qa_sub (by rw [e, qa_0]; omega) (by rw [e, qa_0]; omega), e, qa_0]
    omega
theorem wi_pull {u : KS} {g : Nat → Int32} {B : Int} (R : eRel u g) (I : eInv B g) : ∃ u' g', fX8_pullEnd u = some u' ∧ fX10_pull g = some g' ∧ eRel u' g' ∧ eInv B g' ∧ eF g g' ∧ (∀ i, i ≠ 1 → i ≠ 2 → g' i = g i) := by
  obtain ⟨RA, RB, RL, RH⟩ := R
  obtain ⟨S, G, Z⟩ := I
  have hz := Z
  obtain ⟨z1, z2, z3, z4, z5, z6, z7, z8, z9, z10, z11, z12, z13, z14⟩ := hz
  have hv := eV_bnd S G z3
  have s24 := S.1
  have c4 : sC u 4 = g 1 := RA.1.2.2.2.1
  have t9 : sT u 9 = g 24 := RA.2.1 9 (by decide)
  have hI' : (eV g (g 0)).toInt ≤ (g 1).toInt ∧ (eI g).toInt = (g 1).toInt - (eV g (g 0)).toInt ∨ (g 1).toInt < (eV g (g 0)).toInt ∧ (eI g).toInt = (eV g (g 0)).toInt - (g 1).toInt := ab_le (x := g 1) (D := eV g (g 0)) (by omega) (by omega) hv.1 hv.2
  obtain ⟨y, hy⟩ : ∃ y, y = (if eI g < g 24 then eI g else g 24) := ⟨_, rfl⟩
  have hy2 : (if g 24 ≤ eI g then fX8_pullEnd_b28 (g 24) u else fX8_pullEnd_b28 (eI g) u) = fX8_pullEnd_b28 y u := by
    rw [hy]
    by_cases e : eI g < g 24
    · rw [if_pos e, if_neg (Int32.not_le.mpr e)]
    · rw [if_neg e, if_pos (Int32.not_lt.mp e)]
  have hyb : 0 ≤ y.toInt ∧ y.toInt ≤ (eI g).toInt := by
    rw [hy]
    split
    · omega
    · rename_i h
      rw [qa_lt] at h
      omega
  -- both, for the new end
  have key : ∀ e : Int32, ((eV g (g 0)).toInt ≤ (g 1).toInt ∧ e.toInt = (g 1).toInt - y.toInt ∨ (g 1).toInt < (eV g (g 0)).toInt ∧ e.toInt = (g 1).toInt + y.toInt) → ∃ u' g', bnd (fX8_measureRamp (wC u 4 e)) (fun u58 => (if (si u58) = 0 then some (wC u58 5 0) else some u58)) = some u' ∧ (if eI g = y then some (upd (upd g 1 e) 2 0) else some (upd g 1 e)) = some g' ∧ eRel u' g' ∧ eInv B g' ∧ eF g g' ∧ (∀ i, i ≠ 1 → i ≠ 2 → g' i = g i) := by
    intro e he
    have F : eF g (upd g 1 e) := eF_upd g (by omega) e
    have S' := F.S S
    have G' : eG (upd g 1 e) := F.G rfl (Int.le_refl _) G
    have RA' := eRA_4 RA e
    have he2 : -B ≤ e.toInt ∧ e.toInt ≤ B := by omega
    have Z' : eZ B (upd g 1 e) := ⟨z1, z2, z3, z4, he2.1, he2.2, z7, z8, z9, z10, z11, z12, z13, z14⟩
    have V' : eV (upd g 1 e) (upd g 1 e 0) = eV g (g 0) := by rw [F.V]; rfl
    obtain ⟨u', e1, e2⟩ := sb_measureRamp (u := wC u 4 e) RA' S' Z' (by rw [V']; exact RH.1) G'
    have hI2 := ab_le (x := e) (D := eV g (g 0)) (by omega) (by omega) hv.1 hv.2
    have hI3 : (eI (upd g 1 e)).toInt = (eI g).toInt - y.toInt := by
      unfold eI
      rw [V']
      show (ab (e - eV g (g 0))).toInt = (eI g).toInt - y.toInt
      omega
    have hsi : si u' = eI (upd g 1 e) := by rw [e2]; rfl
    have RA2 : eRA u' (upd g 1 e) := by rw [e2]; exact RA'
    have RB2 : eRB u' (upd g 1 e) := by rw [e2]; exact F.RB RB rfl rfl rfl rfl
    have RL2 : eRL u' (upd g 1 e) := by rw [e2]; exact F.RL RL rfl rfl
    have RH2 : eRH u' (upd g 1 e) := by
      rw [e2]
      exact ⟨by rw [V']; exact RH.1, rfl, rfl⟩
    by_cases q : eI g = y
    · have q0 : si u' = 0 := by
        rw [hsi]
        refine Int32.toInt_inj.mp ?_
        rw [hI3, q, qa_0]
        omega
      refine ⟨wC u' 5 0, upd (upd g 1 e) 2 0, by rw [e1, qa_b, if_pos q0], by rw [if_pos q], ?_, ?_, ?_, fun i h1 h2 => by rw [pk_un h2, pk_un h1]⟩
      · have F2 : eF (upd g 1 e) (upd (upd g 1 e) 2 0) := eF_upd _ (by omega) _
        refine ⟨eRA_5 RA2 0, F2.RB RB2 rfl rfl rfl rfl, F2.RL RL2 rfl rfl, ?_⟩
        obtain ⟨r1, r2, r3⟩ := RH2
        refine ⟨?_, r2, ?_⟩
        · rw [F2.V]
          exact r1
        · unfold eI
          rw [F2.V]
          exact r3
      · have F2 : eF (upd g 1 e) (upd (upd g 1 e) 2 0) := eF_upd _ (by omega) _
        exact ⟨F2.S S', F2.G rfl (Int.le_refl _) G', z1, z2, z3, z4, he2.1, he2.2, Or.inl rfl, z8, z9, fun h => absurd h n01, z11, z12, z13, z14⟩
      · exact (eF_upd g (by omega) e).trans (eF_upd _ (by omega) _)
    · have q0 : ¬ si u' = 0 := by
        rw [hsi]
        intro h
        have h := congrArg Int32.toInt h
        rw [hI3, qa_0] at h
        exact q (Int32.toInt_inj.mp (by omega))
      exact ⟨u', upd g 1 e, by rw [e1, qa_b, if_neg q0], by rw [if_neg q], ⟨RA2, RB2, RL2, RH2⟩, ⟨S', G', Z'⟩, F, fun i h1 h2 => pk_un h1⟩
  unfold fX8_pullEnd fX8_pullEnd_b0 fX10_pull fX10_pull_b0
  rw [rb_deckAt S G.1, qa_b, rb_lipNow S G.1, qa_b, t9, RH.2.2, hy2, ← hy]
  unfold fX8_pullEnd_b28 fX8_pullEnd_b55 fX10_pull_b51
  rw [RH.1, c4]
  have i4 : ix 4 = 4 := rfl
  have i1 : ix 1 = 1 := rfl
  rw [qa_gi (by decide) (by decide), qa_gi (by decide) (by decide), qa_gi (by decide) (by decide), qa_gi (by decide) (by decide), i4, i1]
  by_cases h : eV g (g 0) ≤ g 1
  · rw [if_pos h, if_pos h]
    have h' := qa_le.mp h
    refine key _ (Or.inl ⟨h', ?_⟩)
    rw [qa_add (by rw [qa_neg (by omega)]; omega) (by rw [qa_neg (by omega)]; omega), qa_neg (by omega)]
    omega
  · rw [if_neg h, if_neg h]
    have h' := Int32.not_le.mp h
    rw [qa_lt] at h'
    refine key _ (Or.inr ⟨h', ?_⟩)
    rw [qa_add (by omega) (by omega)]
theorem eRel.mv {u u' : KS} {g g' : Nat → Int32} (R : eRel u g) (A : eRA u' g') (F : eF g g') (h0 : g' 0 = g 0) (h1 : g' 1 = g 1) (h2 : sC u' 2 = sC u 2) (h7 : sC u' 7 = sC u 7) (hW : sW u' = sW u) (hN : sN u' = sN u) (hD : sD u' = sD u) (hO : sO u' = sO u) (hd : sd u' = sd u) (hp : sp u' = sp u) (hi : si u' = si u) : eRel u' g' := by
  obtain ⟨RA, RB, RL, RH⟩ := R
  refine ⟨A, F.RB RB h2 h7 hW hN, F.RL RL hD hO, ?_⟩
  obtain ⟨r1, r2, r3⟩ := RH
  refine ⟨?_, ?_, ?_⟩
  · rw [hd, F.V, h0]
    exact r1
  · rw [hp, r2]
    unfold eP
    rw [h1, F 18 (by omega)]
  · rw [hi, r3]
    unfold eI
    rw [h1, F.V, h0]
/-- what a step of the winch leaves -/
def eWi (g g' : Nat → Int32) : Prop := eF g g' ∧ ∀ i, i ≠ 1 → i ≠ 2 → i ≠ 3 → g' i = g i
theorem wi_95 {u : KS} {g : Nat → Int32} {B : Int} (R : eRel u g) (I : eInv B g) : ∃ u' g', fX8_runWinch_b95 u = some u' ∧ fX10_winch_b92 g = some g' ∧ eRel u' g' ∧ eInv B g' ∧ eWi g g' := by
  have c5 : sC u 5 = g 2 := R.1.1.2.2.2.2.1
  unfold fX8_runWinch_b95 fX10_winch_b92
  rw [c5]
  by_cases h : g 2 = 2
  · obtain ⟨u', g', e1, e2, e3, e4, e5, e6⟩ := wi_pull R I
    exact ⟨u', g', by rw [if_pos h, e1, qa_b], by rw [if_pos h, e2, qa_b], e3, e4, e5, fun i h1 h2 _ => e6 i h1 h2⟩
  · exact ⟨u, g, by rw [if_neg h], by rw [if_neg h], R, I, eF.refl g, fun _ _ _ _ => rfl⟩
theorem wi_68 {u : KS} {g : Nat → Int32} {B : Int} (R : eRel u g) (S : eS g) (G : eG g) (Z : eZ B (upd g 2 0)) (hw : g 2 = 0 ∨ g 2 = 1 ∨ g 2 = 2) : ∃ u' g', fX8_runWinch_b68 u = some u' ∧ fX10_winch_b66 g = some g' ∧ eRel u' g' ∧ eInv B g' ∧ eWi g g' := by
  have c5 : sC u 5 = g 2 := R.1.1.2.2.2.2.1
  have c6 : sC u 6 = g 3 := R.1.1.2.2.2.2.2.1
  obtain ⟨z1, z2, z3, z4, z5, z6, z7, z8, z9, z10, z11, z12, z13, z14⟩ := Z
  have z8 : 0 ≤ (g 3).toInt := z8
  unfold fX8_runWinch_b68 fX10_winch_b66
  rw [c5, c6]
  by_cases h : g 2 = 1
  · rw [if_pos h, if_pos h]
    by_cases h3 : g 3 = 0
    · rw [if_neg (by rw [h3]; decide), if_pos h3]
      have F : eF g (upd g 2 2) := eF_upd g (by omega) 2
      obtain ⟨u', g', e1, e2, e3, e4, e5, e6⟩ := wi_95 (R.mv (eRA_5 R.1 2) F rfl rfl rfl rfl rfl rfl rfl rfl rfl rfl rfl) (show eInv B (upd g 2 2) from ⟨F.S S, F.G rfl (Int.le_refl _) G, z1, z2, z3, z4, z5, z6, Or.inr (Or.inr rfl), z8, z9, fun h => absurd h n21, z11, z12, z13, z14⟩)
      exact ⟨u', g', e1, e2, e3, e4, F.trans e5, fun i h1 h2 h3 => by rw [e6 i h1 h2 h3, pk_un h2]⟩
    · have h3' : 1 ≤ (g 3).toInt := by
        have : ¬ (g 3).toInt = 0 := fun e => h3 (Int32.toInt_inj.mp (by rw [e, qa_0]))
        omega
      rw [if_pos (by rw [qa_lt, qa_0]; omega), if_neg h3]
      exact wi_95 R ⟨S, G, z1, z2, z3, z4, z5, z6, hw, z8, z9, fun _ => h3', z11, z12, z13, z14⟩
  · rw [if_neg h, if_neg h]
    exact wi_95 R ⟨S, G, z1, z2, z3, z4, z5, z6, hw, z8, z9, fun e => absurd e h, z11, z12, z13, z14⟩
theorem wi_run {u : KS} {g : Nat → Int32} {B : Int} (R : eRel u g) (I : eInv B g) : ∃ u' g', fX8_runWinch u = some u' ∧ fX10_winch g = some g' ∧ eRel u' g' ∧ eInv B g' ∧ eWi g g' := by
  obtain ⟨S, G, z1, z2, z3, z4, z5, z6, z7, z8, z9, z10, z11, z12, z13, z14⟩ := I
  have s := S.1
  have c5 : sC u 5 = g 2 := R.1.1.2.2.2.2.1
  have c6 : sC u 6 = g 3 := R.1.1.2.2.2.2.2.1
  have t10 : sT u 10 = g 25 := R.1.2.1 10 (by decide)
  have t11 : sT u 11 = g 26 := R.1.2.1 11 (by decide)
  have hi : si u = eI g := R.2.2.2.2.2
  have h47 : ∀ (h : ¬ g 2 = 0), ∃ u' g', fX8_runWinch_b47 u = some u' ∧ (if (g 2) = 1 then fX10_winch_b66 (upd g 3 ((g 3) - 1)) else fX10_winch_b66 g) = some g' ∧ eRel u' g' ∧ eInv B g' ∧ eWi g g' := by
    intro h
    unfold fX8_runWinch_b47
    rw [c5, c6]
    by_cases h1 : g 2 = 1
    · rw [if_pos h1, if_pos h1]
      have z10 := z10 h1
      have F : eF g (upd g 3 (g 3 - 1)) := eF_upd g (by omega) _
      have hs : (g 3 - 1).toInt = (g 3).toInt - 1 := by rw [qa_sub (by rw [qa_1]; omega) (by rw [qa_1]; omega), qa_1]
      obtain ⟨u', g', e1, e2, e3, e4, e5, e6⟩ := wi_68 (R.mv (eRA_6 R.1 (g 3 - 1)) F rfl rfl rfl rfl rfl rfl rfl rfl rfl rfl rfl) (F.S S) (F.G rfl (Int.le_refl _) G) (B := B) ⟨z1, z2, z3, z4, z5, z6, Or.inl rfl, by show 0 ≤ (g 3 - 1).toInt; omega, by show (g 3 - 1).toInt ≤ 20; omega, fun h => absurd h n01, z11, z12, z13, z14⟩ z7
      exact ⟨u', g', e1, e2, e3, e4, F.trans e5, fun i h1 h2 h3 => by rw [e6 i h1 h2 h3, pk_un h3]⟩
    · rw [if_neg h1, if_neg h1]
      exact wi_68 R S G ⟨z1, z2, z3, z4, z5, z6, Or.inl rfl, z8, z9, fun h => absurd h n01, z11, z12, z13, z14⟩ z7
  unfold fX8_runWinch fX8_runWinch_b0 fX10_winch fX10_winch_b0
  rw [c5, rb_lipNow S G.1, qa_b, hi, t10]
  by_cases h : g 2 = 0
  · rw [if_pos h, if_pos h]
    by_cases h2 : eI g ≤ g 25
    · rw [if_pos h2, if_pos h2]
      have e : fX8_runWinch_b47 u = fX8_runWinch_b68 u := by
        unfold fX8_runWinch_b47
        rw [c5, if_neg (by rw [h]; decide)]
      rw [e]
      exact wi_68 R S G ⟨z1, z2, z3, z4, z5, z6, Or.inl rfl, z8, z9, fun h => absurd h n01, z11, z12, z13, z14⟩ z7
    · rw [if_neg h2, if_neg h2]
      have F : eF g (upd (upd g 2 1) 3 (g 26)) := (eF_upd g (by omega) 1).trans (eF_upd _ (by omega) _)
      have A : eRA (wC (wC u 5 1) 6 (sT (wC u 5 1) 11)) (upd (upd g 2 1) 3 (g 26)) := by
        rw [show sT (wC u 5 1) 11 = g 26 from t11]
        exact eRA_6 (eRA_5 R.1 1) (g 26)
      obtain ⟨u', g', e1, e2, e3, e4, e5, e6⟩ := wi_68 (R.mv A F rfl rfl rfl rfl rfl rfl rfl rfl rfl rfl rfl) (F.S S) (F.G rfl (Int.le_refl _) G) (B := B) ⟨z1, z2, z3, z4, z5, z6, Or.inl rfl, by show 0 ≤ (g 26).toInt; omega, by show (g 26).toInt ≤ 20; omega, fun h => absurd h n01, z11, z12, z13, z14⟩ (Or.inr (Or.inl rfl))
      exact ⟨u', g', e1, e2, e3, e4, F.trans e5, fun i h1 h2 h3 => by rw [e6 i h1 h2 h3, pk_un h3, pk_un h2]⟩
  · rw [if_neg h, if_neg h]
    exact h47 h
