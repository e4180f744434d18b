/-! a set-up's beginning -/
theorem uq_e (f : Nat → Int32) {i j : Nat} (x : Int32) (h : j = i) : upd f i x j = x := if_pos h
def bnU (w v : KS) : Prop := sC v = sC w ∧ sW v = sW w ∧ sN v = sN w ∧ sD v = sD w ∧ sT v = sT w
def bnK (f : Nat → Int32) (o n : Nat) : Prop := ∀ d, d < n → f (o + 3 * d) = 100 ∧ f (o + 3 * d + 1) = 10 ∧ f (o + 3 * d + 2) = nI (d + 1)
theorem bk_s {f : Nat → Int32} {o j : Nat} (K : bnK f o j) {i0 i1 i2 : Nat} (h0 : i0 = o + 3 * j) (h1 : i1 = o + 3 * j + 1) (h2 : i2 = o + 3 * j + 2) : bnK (upd (upd (upd f i0 100) i1 10) i2 (nI (j + 1))) o (j + 1) := by
  intro d hd
  by_cases e : d = j
  · subst e
    rw [uq_o _ _ (by omega), uq_o _ _ (by omega), uq_e _ _ (by omega), uq_o _ _ (by omega), uq_e _ _ (by omega), uq_e _ _ (by omega)]
    exact ⟨rfl, rfl, rfl⟩
  · rw [uq_o _ _ (by omega), uq_o _ _ (by omega), uq_o _ _ (by omega), uq_o _ _ (by omega), uq_o _ _ (by omega), uq_o _ _ (by omega), uq_o _ _ (by omega), uq_o _ _ (by omega), uq_o _ _ (by omega)]
    exact K d (by omega)
theorem bn_k (w : KS) : ∃ v, lop (fun y (z : Int32 × KS) => fX8_setDefaults_b115 y z.1 z.2) LF (0, w) = some v ∧ bnU w v ∧ bnK (sK v) 0 4 := by
  refine qa_lind (fun j (s : Int32 × KS) => ∃ v, s = (nI j, v) ∧ bnU w v ∧ bnK (sK v) 0 j) (fun o => ∃ v, o = some v ∧ bnU w v ∧ bnK (sK v) 0 4) 4 ?_ 5000 0 (0, w) ⟨w, rfl, ⟨rfl, rfl, rfl, rfl, rfl⟩, fun d h => by omega⟩ (by omega) (by omega)
  intro j s k hj ⟨v, e, U, K⟩ hk
  subst e
  have hJ := qa_nI (n := j) (by omega)
  show ∃ v', fX8_setDefaults_b115 k (nI j) v = some v' ∧ _
  unfold fX8_setDefaults_b115
  by_cases q : j = 4
  · subst q
    rw [if_pos (by rw [qa_le, hJ, qa_4]; omega)]
    exact ⟨v, rfl, U, K⟩
  · rw [if_neg (by rw [qa_le, hJ, qa_4]; omega), kd_u (r := j) (by omega) hJ, qa_b, nI_1]
    refine hk _ (by omega) ⟨kdU v j 100 10 (nI (j + 1)), rfl, ?_, ?_⟩
    · unfold bnU at U ⊢
      dsimp only [kdU, wK, sC, sW, sN, sD, sT]
      exact U
    · show bnK (upd (upd (upd (sK v) (3 * j) 100) (3 * j + 1) 10) (3 * j + 2) (nI (j + 1))) 0 (j + 1)
      exact bk_s K (by omega) (by omega) (by omega)
def dfT (f : Nat → Int32) : Nat → Int32 := upd (upd (upd (upd (upd (upd (upd (upd (upd (upd (upd (upd (upd (upd f 0 0) 1 0) 2 10) 3 0) 4 0) 5 100) 6 10) 7 1000) 8 1000) 9 2) 10 5) 11 2) 12 3) 13 5
theorem df_t (f : Nat → Int32) : dfT f 0 = 0 ∧ dfT f 1 = 0 ∧ dfT f 2 = 10 ∧ dfT f 3 = 0 ∧ dfT f 4 = 0 ∧ dfT f 5 = 100 ∧ dfT f 6 = 10 ∧ dfT f 7 = 1000 ∧ dfT f 8 = 1000 ∧ dfT f 9 = 2 ∧ dfT f 10 = 5 ∧ dfT f 11 = 2 ∧ dfT f 12 = 3 ∧ dfT f 13 = 5 :=
  ⟨rfl, rfl, rfl, rfl, rfl, rfl, rfl, rfl, rfl, rfl, rfl, rfl, rfl, rfl⟩
theorem bn_d (w : KS) : ∃ v, fX8_setDefaults w = some v ∧ (sC v = sC w ∧ sW v = sW w ∧ sN v = sN w ∧ sD v = sD w) ∧ sT v = dfT (sT w) ∧ bnK (sK v) 0 4 := by
  unfold fX8_setDefaults fX8_setDefaults_b0
  obtain ⟨v, e, ⟨U1, U2, U3, U4, U5⟩, K⟩ := bn_k (wT (wT (wT (wT (wT (wT (wT (wT (wT (wT (wT (wT (wT (wT w 0 0) 1 0) 2 10) 3 0) 4 0) 5 100) 6 10) 7 1000) 8 1000) 9 2) 10 5) 11 2) 12 3) 13 5)
  rw [e]
  refine ⟨v, rfl, ?_, ?_, K⟩
  · rw [U1, U2, U3, U4]
    dsimp only [wT, sC, sW, sN, sD]
    exact ⟨rfl, rfl, rfl, rfl⟩
  · rw [U5]
    unfold dfT
    dsimp only [wT, sT]
theorem bn_l (w : KS) : ∃ v, lop (fun y (z : Int32 × KS) => fX8_becomeNew_b39 y z.1 z.2) LF (0, w) = some v ∧ sC v = sC w ∧ (∀ l, l < 3 → sW v l = 0 ∧ sN v l = 0 ∧ sD v l = 0) ∧ (∃ f, sT v = dfT f) ∧ bnK (sK v) 0 4 := by
  refine qa_lind (fun j (s : Int32 × KS) => ∃ v, s = (nI j, v) ∧ sC v = sC w ∧ ∀ l, l < j → sW v l = 0 ∧ sN v l = 0 ∧ sD v l = 0) (fun o => ∃ v, o = some v ∧ sC v = sC w ∧ (∀ l, l < 3 → sW v l = 0 ∧ sN v l = 0 ∧ sD v l = 0) ∧ (∃ f, sT v = dfT f) ∧ bnK (sK v) 0 4) 3 ?_ 5000 0 (0, w) ⟨w, rfl, rfl, fun d h => by omega⟩ (by omega) (by omega)
  intro j s k hj ⟨v, e, U, K⟩ hk
  subst e
  have hJ := qa_nI (n := j) (by omega)
  show ∃ v', fX8_becomeNew_b39 k (nI j) v = some v' ∧ _
  unfold fX8_becomeNew_b39
  by_cases q : j = 3
  · subst q
    rw [if_pos (by rw [qa_le, hJ, qa_3]; omega)]
    obtain ⟨v', e, ⟨e1, e2, e3, e4⟩, e5, e6⟩ := bn_d v
    rw [e, qa_b]
    exact ⟨v', rfl, e1.trans U, by rw [e2, e3, e4]; exact K, ⟨_, e5⟩, e6⟩
  · rw [if_neg (by rw [qa_le, hJ, qa_3]; omega), qa_gi (by omega) (by omega), qa_gi (by omega) (by omega), qa_gi (by omega) (by omega), qa_ix hJ, nI_1]
    refine hk _ (by omega) ⟨wN (wW (wD v j 0) j 0) j 0, rfl, U, fun l hl => ?_⟩
    show upd (sW v) j 0 l = 0 ∧ upd (sN v) j 0 l = 0 ∧ upd (sD v) j 0 l = 0
    by_cases e : l = j
    · rw [uq_e _ _ e, uq_e _ _ e, uq_e _ _ e]
      exact ⟨rfl, rfl, rfl⟩
    · rw [uq_o _ _ e, uq_o _ _ e, uq_o _ _ e]
      exact K l (by omega)
theorem bn_c (u : KS) : ∃ v, fX8_becomeNew u = some v ∧ (∀ i, i < 17 → sC v i = if i = 16 then 1 else if i = 8 then (-1) else 0) ∧ (∀ l, l < 3 → sW v l = 0 ∧ sN v l = 0 ∧ sD v l = 0) ∧ (∃ f, sT v = dfT f) ∧ bnK (sK v) 0 4 := by
  unfold fX8_becomeNew fX8_becomeNew_b0
  have t17 : (17 : Int32).toInt = 17 := by decide
  refine qa_lind (fun j (s : Int32 × KS) => ∃ v, s = (nI j, v) ∧ ∀ i, i < j → sC v i = 0) (fun o => ∃ v, o = some v ∧ (∀ i, i < 17 → sC v i = if i = 16 then 1 else if i = 8 then (-1) else 0) ∧ (∀ l, l < 3 → sW v l = 0 ∧ sN v l = 0 ∧ sD v l = 0) ∧ (∃ f, sT v = dfT f) ∧ bnK (sK v) 0 4) 17 ?_ 5000 0 (0, u) ⟨u, rfl, fun d h => by omega⟩ (by omega) (by omega)
  intro j s k hj ⟨v, e, K⟩ hk
  subst e
  have hJ := qa_nI (n := j) (by omega)
  show ∃ v', fX8_becomeNew_b2 k (nI j) v = some v' ∧ _
  unfold fX8_becomeNew_b2
  by_cases q : j = 17
  · subst q
    rw [if_pos (by rw [qa_le, hJ, t17]; omega)]
    obtain ⟨v', e, e1, e2, e3, e4⟩ := bn_l (wC (wC v 8 (-1)) 16 1)
    rw [e]
    refine ⟨v', rfl, fun i hi => ?_, e2, e3, e4⟩
    rw [e1]
    show upd (upd (sC v) 8 (-1)) 16 1 i = _
    unfold upd
    rw [K i hi]
  · rw [if_neg (by rw [qa_le, hJ, t17]; omega), qa_gi (by omega) (by omega), qa_ix hJ, nI_1]
    refine hk _ (by omega) ⟨wC v j 0, rfl, fun i hi => ?_⟩
    show upd (sC v) j 0 i = 0
    by_cases e : i = j
    · rw [uq_e _ _ e]
    · rw [uq_o _ _ e]
      exact K i (by omega)
def dfG (g : Nat → Int32) : Nat → Int32 := upd (upd (upd (upd (upd (upd (upd (upd (upd (upd (upd (upd g 4 (-1)) 12 1) 17 10) 20 100) 21 10) 22 1000) 23 1000) 24 2) 25 5) 26 2) 27 3) 28 5
theorem bg_k (w : Nat → Int32) : ∃ v, lop (fun y (z : Int32 × (Nat → Int32)) => fX10_begin_b126 y z.1 z.2) LF (0, w) = some v ∧ (∀ i, i < 29 → v i = w i) ∧ (∀ i, 41 ≤ i → v i = w i) ∧ bnK v 29 4 := by
  refine qa_lind (fun j (s : Int32 × (Nat → Int32)) => ∃ v, s = (nI j, v) ∧ (∀ i, i < 29 → v i = w i) ∧ (∀ i, 41 ≤ i → v i = w i) ∧ bnK v 29 j) (fun o => ∃ v, o = some v ∧ (∀ i, i < 29 → v i = w i) ∧ (∀ i, 41 ≤ i → v i = w i) ∧ bnK v 29 4) 4 ?_ 5000 0 (0, w) ⟨w, rfl, fun _ _ => rfl, fun _ _ => rfl, fun d h => by omega⟩ (by omega) (by omega)
  intro j s k hj ⟨v, e, U, U2, K⟩ hk
  subst e
  have hJ := qa_nI (n := j) (by omega)
  show ∃ v', fX10_begin_b126 k (nI j) v = some v' ∧ _
  unfold fX10_begin_b126
  by_cases q : j = 4
  · subst q
    rw [if_pos (by rw [qa_le, hJ, qa_4]; omega)]
    exact ⟨v, rfl, U, U2, K⟩
  · rw [if_neg (by rw [qa_le, hJ, qa_4]; omega), kd_g (r := j) (by omega) hJ, qa_b, nI_1]
    refine hk _ (by omega) ⟨kdG v j 100 10 (nI (j + 1)), rfl, fun i hi => ?_, fun i hi => ?_, ?_⟩
    · unfold kdG
      rw [uq_o _ _ (by omega), uq_o _ _ (by omega), uq_o _ _ (by omega)]
      exact U i hi
    · unfold kdG
      rw [uq_o _ _ (by omega), uq_o _ _ (by omega), uq_o _ _ (by omega)]
      exact U2 i hi
    · unfold kdG
      exact bk_s K rfl (by omega) (by omega)
theorem bg_0 (g : Nat → Int32) : ∃ v, fX10_begin g = some v ∧ (∃ z : Nat → Int32, (∀ i, i < 561 → z i = 0) ∧ (∀ i, i < 29 → v i = dfG z i) ∧ (∀ i, 41 ≤ i → v i = dfG z i)) ∧ bnK v 29 4 := by
  unfold fX10_begin fX10_begin_b0
  have t561 : (561 : Int32).toInt = 561 := by decide
  refine qa_lind (fun j (s : Int32 × (Nat → Int32)) => ∃ v, s = (nI j, v) ∧ ∀ i, i < j → v i = 0) (fun o => ∃ v, o = some v ∧ (∃ z : Nat → Int32, (∀ i, i < 561 → z i = 0) ∧ (∀ i, i < 29 → v i = dfG z i) ∧ (∀ i, 41 ≤ i → v i = dfG z i)) ∧ bnK v 29 4) 561 ?_ 5000 0 (0, g) ⟨g, rfl, fun d h => by omega⟩ (by omega) (by omega)
  intro j s k hj ⟨v, e, K⟩ hk
  subst e
  have hJ := qa_nI (n := j) (by omega)
  show ∃ v', fX10_begin_b2 k (nI j) v = some v' ∧ _
  unfold fX10_begin_b2
  by_cases q : j = 561
  · subst q
    rw [if_pos (by rw [qa_le, hJ, t561]; omega)]
    obtain ⟨v', e, e1, e2, e3⟩ := bg_k (dfG v)
    unfold dfG at e
    rw [e]
    exact ⟨v', rfl, ⟨v, K, e1, e2⟩, e3⟩
  · rw [if_neg (by rw [qa_le, hJ, t561]; omega), qa_gi (by omega) (by omega), qa_ix hJ, nI_1]
    refine hk _ (by omega) ⟨upd v j 0, rfl, fun i hi => ?_⟩
    by_cases e : i = j
    · rw [uq_e _ _ e]
    · rw [uq_o _ _ e]
      exact K i (by omega)
theorem bn_all (u : KS) (g : Nat → Int32) : ∃ u' g', fX8_becomeNew u = some u' ∧ fX10_begin g = some g' ∧ (dQ u' g' ∧ eS g') ∧ g' 15 = 0 ∧ g' 16 = 0 ∧ g' 17 = 10 ∧ g' 19 = 0 ∧ g' 20 = 100 := by
  obtain ⟨u', e1, c, w, ⟨f, t⟩, k⟩ := bn_c u
  obtain ⟨g', e2, ⟨z, z0, z1, z2⟩, h⟩ := bg_0 g
  have g0 : g' 0 = 0 := (z1 0 (by omega)).trans (z0 0 (by omega))
  have g1 : g' 1 = 0 := (z1 1 (by omega)).trans (z0 1 (by omega))
  have g2 : g' 2 = 0 := (z1 2 (by omega)).trans (z0 2 (by omega))
  have g3 : g' 3 = 0 := (z1 3 (by omega)).trans (z0 3 (by omega))
  have g4 : g' 4 = (-1) := (z1 4 (by omega)).trans rfl
  have g5 : g' 5 = 0 := (z1 5 (by omega)).trans (z0 5 (by omega))
  have g6 : g' 6 = 0 := (z1 6 (by omega)).trans (z0 6 (by omega))
  have g7 : g' 7 = 0 := (z1 7 (by omega)).trans (z0 7 (by omega))
  have g8 : g' 8 = 0 := (z1 8 (by omega)).trans (z0 8 (by omega))
  have g9 : g' 9 = 0 := (z1 9 (by omega)).trans (z0 9 (by omega))
  have g10 : g' 10 = 0 := (z1 10 (by omega)).trans (z0 10 (by omega))
  have g11 : g' 11 = 0 := (z1 11 (by omega)).trans (z0 11 (by omega))
  have g12 : g' 12 = 1 := (z1 12 (by omega)).trans rfl
  have g13 : g' 13 = 0 := (z1 13 (by omega)).trans (z0 13 (by omega))
  have g14 : g' 14 = 0 := (z1 14 (by omega)).trans (z0 14 (by omega))
  have g15 : g' 15 = 0 := (z1 15 (by omega)).trans (z0 15 (by omega))
  have g16 : g' 16 = 0 := (z1 16 (by omega)).trans (z0 16 (by omega))
  have g17 : g' 17 = 10 := (z1 17 (by omega)).trans rfl
  have g18 : g' 18 = 0 := (z1 18 (by omega)).trans (z0 18 (by omega))
  have g19 : g' 19 = 0 := (z1 19 (by omega)).trans (z0 19 (by omega))
  have g20 : g' 20 = 100 := (z1 20 (by omega)).trans rfl
  have g21 : g' 21 = 10 := (z1 21 (by omega)).trans rfl
  have g22 : g' 22 = 1000 := (z1 22 (by omega)).trans rfl
  have g23 : g' 23 = 1000 := (z1 23 (by omega)).trans rfl
  have g24 : g' 24 = 2 := (z1 24 (by omega)).trans rfl
  have g25 : g' 25 = 5 := (z1 25 (by omega)).trans rfl
  have g26 : g' 26 = 2 := (z1 26 (by omega)).trans rfl
  have g27 : g' 27 = 3 := (z1 27 (by omega)).trans rfl
  have g28 : g' 28 = 5 := (z1 28 (by omega)).trans rfl
  have gn : eN g' = 0 := by
    unfold eN
    rw [g13]
    rfl
  have gq : eQ g' = 0 := by
    unfold eQ
    rw [g14]
    rfl
  have W : ∀ c, c < eN g' → eC g' c 2 = 0 := fun c hc => by omega
  obtain ⟨t0, t1, t2, t3, t4, t5, t6, t7, t8, t9, t10, t11, t12, t13⟩ := df_t f
  refine ⟨u', g', e1, e2, ⟨⟨⟨?_, fun i hi => ?_, fun i hi => ?_, fun i hi => by omega, fun i hi => by omega, fun i hi hi2 => ?_⟩, ⟨c 2 (by omega), c 7 (by omega), w⟩, ?_, ?_, W, g0, g1, g13.trans g14.symm⟩, ?_, fun d hd => ?_⟩, g15, g16, g17, g19, g20⟩
  · rw [g0, g14, g13, g1, g2, g3, g4, g5, g6, g7, g8, g9, g10, g11, g12]
    exact ⟨c 0 (by omega), c 1 (by omega), c 3 (by omega), c 4 (by omega), c 5 (by omega), c 6 (by omega), c 8 (by omega), c 9 (by omega), c 10 (by omega), c 11 (by omega), c 12 (by omega), c 13 (by omega), c 14 (by omega), c 15 (by omega), c 16 (by omega)⟩
  · rw [t]
    have hc : i = 0 ∨ i = 1 ∨ i = 2 ∨ i = 3 ∨ i = 4 ∨ i = 5 ∨ i = 6 ∨ i = 7 ∨ i = 8 ∨ i = 9 ∨ i = 10 ∨ i = 11 ∨ i = 12 ∨ i = 13 := by omega
    rcases hc with e | e | e | e | e | e | e | e | e | e | e | e | e | e <;> subst e
    · exact t0.trans g15.symm
    · exact t1.trans g16.symm
    · exact t2.trans g17.symm
    · exact t3.trans g18.symm
    · exact t4.trans g19.symm
    · exact t5.trans g20.symm
    · exact t6.trans g21.symm
    · exact t7.trans g22.symm
    · exact t8.trans g23.symm
    · exact t9.trans g24.symm
    · exact t10.trans g25.symm
    · exact t11.trans g26.symm
    · exact t12.trans g27.symm
    · exact t13.trans g28.symm
  · obtain ⟨d, r, hd, hr, e⟩ : ∃ d r, d < 4 ∧ r < 3 ∧ i = 3 * d + r := ⟨i / 3, i % 3, by omega, by omega, by omega⟩
    subst e
    obtain ⟨a1, a2, a3⟩ := k d hd
    obtain ⟨b1, b2, b3⟩ := h d hd
    have hc : r = 0 ∨ r = 1 ∨ r = 2 := by omega
    rcases hc with e | e | e <;> subst e
    · rw [show 3 * d + 0 = 0 + 3 * d by omega, a1, show 29 + (0 + 3 * d) = 29 + 3 * d by omega, b1]
    · rw [show 3 * d + 1 = 0 + 3 * d + 1 by omega, a2, show 29 + (0 + 3 * d + 1) = 29 + 3 * d + 1 by omega, b2]
    · rw [show 3 * d + 2 = 0 + 3 * d + 2 by omega, a3, show 29 + (0 + 3 * d + 2) = 29 + 3 * d + 2 by omega, b3]
  · rw [g8, qa_0] at hi2
    omega
  · unfold eG eH
    rw [gn, gq, g13, g14, g4, g0, qa_0]
    refine ⟨⟨by omega, by omega, fun c hc => by omega⟩, fun c hc => by omega, Or.inl rfl, ⟨by omega, by omega⟩, fun i hi => by omega, fun i j _ hj => by omega, fun c hc => by omega, fun l hl => ?_⟩
    rw [((w_0 W).2.2 (nI l)).2.1, g21]
    decide
  · unfold eZ
    rw [g0, g1, g2, g3, g4, g5, g8, g12, qa_0]
    exact ⟨by omega, by omega, by omega, by omega, by omega, by omega, Or.inl rfl, by omega, by omega, fun h => absurd h (by decide), by omega, by omega, Or.inr rfl, fun _ => rfl⟩
  · rw [g15, g16, g17, g18, g19, g20, g21, g22, g23, g24, g25, g26, g27, g28]
    decide
  · obtain ⟨b1, b2, b3⟩ := h d hd
    have f0 : eK g' d 0 = 100 := b1
    have f1 : eK g' d 1 = 10 := b2
    have f2 : eK g' d 2 = nI (d + 1) := b3
    rw [f0, f1, f2, qa_nI (by omega)]
    refine ⟨by decide, by decide, by decide, by decide, by omega, by omega⟩
theorem bn_sim (u : KS) (g : Nat → Int32) : ∃ u' g', fX8_becomeNew u = some u' ∧ fX10_begin g = some g' ∧ dQ u' g' ∧ eS g' := by
  obtain ⟨u', g', h1, h2, ⟨h3, h4⟩, _⟩ := bn_all u g
  exact ⟨u', g', h1, h2, h3, h4⟩
