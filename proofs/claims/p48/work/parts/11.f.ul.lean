/-! the cars of a lane; the last one is unloaded -/
theorem sb_carIn {u : KS} {g : Nat → Int32} {x y : Int32} {l d i : Nat} (hx : x.toInt = (l : Int)) (hl : l < 3) (hd : sD u l = nI d) (d1 : d ≤ 30) (hy : y.toInt = (i : Int)) (hi : i < d) : fX8_carOnDeck x y u = some (sO u (30 * l + i)) := by
  have hdI := qa_nI (n := d) (by omega)
  have e : (x * 30 + y).toInt = ((30 * l + i : Nat) : Int) := qx_30 hx hl hy (by omega)
  unfold fX8_carOnDeck fX8_carOnDeck_b0
  rw [if_neg (by rw [qa_lt, qa_0]; omega), if_neg (by rw [qa_le, qa_3]; omega), if_neg (by rw [qa_lt, qa_0]; omega), qa_gi (by omega) (by omega), qa_ix hx, hd, if_pos (by rw [qa_lt]; omega), sc_at (30 * l + i) e (by omega) (by omega), qa_b]
theorem sb_carOut {u : KS} {g : Nat → Int32} {x y : Int32} {l d : Nat} (hx : x.toInt = (l : Int)) (hl : l < 3) (hd : sD u l = nI d) (d1 : d ≤ 30) (hy : y.toInt < 0 ∨ (d : Int) ≤ y.toInt) : fX8_carOnDeck x y u = some (-1) := by
  have hdI := qa_nI (n := d) (by omega)
  unfold fX8_carOnDeck fX8_carOnDeck_b0
  rw [if_neg (by rw [qa_lt, qa_0]; omega), if_neg (by rw [qa_le, qa_3]; omega)]
  by_cases q : y.toInt < 0
  · rw [if_pos (by rw [qa_lt, qa_0]; exact q)]
  · rw [if_neg (by rw [qa_lt, qa_0]; exact q), qa_gi (by omega) (by omega), qa_ix hx, hd, if_neg (by rw [qa_lt]; omega)]
theorem rb_stIn {u : KS} {g : Nat → Int32} (H : eH g) (L : eRL u g) {l : Nat} (hl : l < 3) {d : Nat} (hd : sD u l = nI d) (d1 : d ≤ 30) {i : Nat} (hi : i < d) : fX10_standingAt (nI l) (nI i) g = some (sO u (30 * l + i)) := by
  have hn := H.n
  obtain ⟨d', r1, r2, r3, r4, r5, r6⟩ := L l hl
  have ed : d' = d := by
    rw [hd] at r2
    exact ((nI_eq (by omega) (by omega)).mp r2).symm
  subst ed
  obtain ⟨k1, k2, k3, k4⟩ := r4 i hi
  unfold fX10_standingAt fX10_standingAt_b0
  refine qa_lop0 (fun j => (nI l, nI i, nI j)) (eX u l i) (by omega) (fun j hj k => ?_) (fun k => ?_)
  · show fX10_standingAt_b2 k (nI l) (nI i) (nI j) g = k (nI l, nI i, nI (j + 1))
    have hI := qa_nI (n := j) (by omega)
    unfold fX10_standingAt_b2 fX10_standingAt_b37 fX10_standingAt_b38 fX10_standingAt_b57
    rw [if_neg (rb_in H (by omega)), rb_ofCar j 2 hI (by omega) qa_2 (by decide), qa_b, nI_1, if_neg n10, if_pos (rfl : (0 : Int32) = 0)]
    by_cases e2 : eC g j 2 = 2
    · rw [if_pos e2, rb_ofCar j 3 hI (by omega) qa_3 (by decide), qa_b]
      by_cases e3 : eC g j 3 = nI l
      · rw [if_pos e3, rb_aheadOf H (nI l) j hI (by omega), qa_b]
        obtain ⟨i', i1, i2⟩ := r6 j (by omega) ⟨e2, e3⟩
        have h4 := (r4 i' i1).2.2.2
        rw [i2] at h4
        rw [h4, if_neg]
        intro e
        have := (nI_eq (by omega) (by omega)).mp e
        subst this
        omega
      · rw [if_neg e3]
    · rw [if_neg e2]
  · show fX10_standingAt_b2 k (nI l) (nI i) (nI (eX u l i)) g = _
    have hI := qa_nI (n := eX u l i) (by omega)
    unfold fX10_standingAt_b2 fX10_standingAt_b37 fX10_standingAt_b38 fX10_standingAt_b57
    rw [if_neg (rb_in H (by omega)), rb_ofCar (eX u l i) 2 hI (by omega) qa_2 (by decide), qa_b, if_pos k3.1, rb_ofCar (eX u l i) 3 hI (by omega) qa_3 (by decide), qa_b, if_pos k3.2, if_neg n10, rb_aheadOf H (nI l) (eX u l i) hI (by omega), qa_b, k4, if_pos rfl, k1]
theorem rb_stOut {u : KS} {g : Nat → Int32} (H : eH g) (L : eRL u g) {l : Nat} (hl : l < 3) {d : Nat} (hd : sD u l = nI d) (d1 : d ≤ 30) {y : Int32} (hy : y.toInt < 0 ∨ (d : Int) ≤ y.toInt) : fX10_standingAt (nI l) y g = some (-1) := by
  have hn := H.n
  obtain ⟨d', r1, r2, r3, r4, r5, r6⟩ := L l hl
  have ed : d' = d := by
    rw [hd] at r2
    exact ((nI_eq (by omega) (by omega)).mp r2).symm
  subst ed
  unfold fX10_standingAt fX10_standingAt_b0
  refine qa_lop0 (fun j => (nI l, y, nI j)) (eN g) (by omega) (fun j hj k => ?_) (fun k => ?_)
  · show fX10_standingAt_b2 k (nI l) y (nI j) g = k (nI l, y, nI (j + 1))
    have hI := qa_nI (n := j) (by omega)
    unfold fX10_standingAt_b2 fX10_standingAt_b37 fX10_standingAt_b38 fX10_standingAt_b57
    rw [if_neg (rb_in H (by omega)), rb_ofCar j 2 hI (by omega) qa_2 (by decide), qa_b, nI_1, if_neg n10, if_pos (rfl : (0 : Int32) = 0)]
    by_cases e2 : eC g j 2 = 2
    · rw [if_pos e2, rb_ofCar j 3 hI (by omega) qa_3 (by decide), qa_b]
      by_cases e3 : eC g j 3 = nI l
      · rw [if_pos e3, rb_aheadOf H (nI l) j hI (by omega), qa_b]
        obtain ⟨i', i1, i2⟩ := r6 j (by omega) ⟨e2, e3⟩
        have h4 := (r4 i' i1).2.2.2
        rw [i2] at h4
        rw [h4, if_neg]
        intro e
        rw [← e, qa_nI (by omega)] at hy
        omega
      · rw [if_neg e3]
    · rw [if_neg e2]
  · show fX10_standingAt_b2 k (nI l) y (nI (eN g)) g = _
    unfold fX10_standingAt_b2
    rw [if_pos (rb_out H)]
def ulG (g : Nat → Int32) (c : Nat) : Nat → Int32 := upd (upd g (61 + 7 * c + 2) 3) 10 (g 10 + 1)
theorem ul_rel {u : KS} {g : Nat → Int32} {B : Int} (R : eRel u g) (I : eInv B g) (h4 : g 4 = (-1)) {l d : Nat} (hl : l < 3) (hd : sD u l = nI (d + 1)) (d1 : d + 1 ≤ 30) : ∃ u', fX8_takeFromDeck (nI l) u = some u' ∧ eRel u' (ulG g (eX u l d)) ∧ eInv B (ulG g (eX u l d)) ∧ eX u l d < eN g ∧ sO u (30 * l + d) = nI (eX u l d) := by
  obtain ⟨RA, RB, RL, RH⟩ := R
  obtain ⟨S, G, Z⟩ := I
  have hn := G.1.n
  have hq := G.q
  have hlI := qa_nI (n := l) (by omega)
  have hdI := qa_nI (n := d) (by omega)
  obtain ⟨g1, g2, g3, g4, g5, g6, g7, g8⟩ := id G
  obtain ⟨d', r1, r2, r3, r4, r5, r6⟩ := RL l hl
  have ed : d' = d + 1 := by
    rw [hd] at r2
    exact ((nI_eq (by omega) (by omega)).mp r2).symm
  subst ed
  obtain ⟨k1, hc, k3, k4⟩ := r4 d (by omega)
  obtain ⟨c, ec⟩ : ∃ c, c = eX u l d := ⟨_, rfl⟩
  rw [← ec] at k1 hc k3 k4 ⊢
  have hcI := qa_nI (n := c) (by omega)
  obtain ⟨w1, w2, w3, w4, w5, w6, w7, w8, w9, w10⟩ := g2 c hc
  have x2 := k3.1
  have x3 := k3.2
  have A1 : sA u (7 * c + 1) = eC g c 1 := by
    rw [RA.2.2.2.2.1 _ (by omega), ← Nat.add_assoc]
    rfl
  have bl := RB.2.2 l hl
  obtain ⟨U, hU⟩ : ∃ U, U = wC (wC (wC (wA (wN (wW (wD u l (nI d)) l (eW g (nI l) - eC g c 1)) l (eL g (nI l) - eO g c 2)) (7 * c + 2) 3) 7 (eLd g - eC g c 1)) 2 (eD g - 1)) 14 (g 10 + 1) := ⟨_, rfl⟩
  have E : fX8_takeFromDeck (nI l) u = bnd (fX8_measureAll U) (fun u103 => some u103) := by
    have hk := G.1.2.2 c hc
    have hk2 := qa_ixI hk.1
    have cd : fX8_carOnDeck (nI l) (nI d) u = some (nI c) := by rw [sb_carIn (g := g) hlI hl hd d1 hdI (by omega), k1]
    have ck : ∀ v : KS, sA v = sA u → sK v = sK u → fX8_carKindFact (nI c) 2 v = some (eO g c 2) := by
      intro v e1 e2
      have : fX8_carKindFact (nI c) 2 v = fX8_carKindFact (nI c) 2 u := by
        unfold fX8_carKindFact fX8_carKindFact_b0 fX8_carFact fX8_carFact_b0 fX8_kindFact fX8_kindFact_b0
        rw [e1, e2]
      rw [this, sb_carKind RA G.1 c 2 hcI hc qa_2 (by decide)]
    unfold fX8_takeFromDeck fX8_takeFromDeck_b0 fX8_lastOnDeck fX8_lastOnDeck_b0
    rw [if_neg (by rw [qa_lt, qa_0]; omega), if_pos (by rw [qa_lt, qa_3]; omega), qa_gi (by omega) (by omega), qa_ix hlI, hd, nI_pred, cd, qa_b, qa_b, if_neg (by intro h; have h := congrArg Int32.toInt h; rw [hcI, qa_m1] at h; omega), if_neg (by rw [qa_lt, qa_0]; omega), if_pos (by rw [qa_lt, qa_3]; omega),
      sb_carU c 1 hcI (by omega) qa_1 (by decide), qa_b, qa_gi (by omega) (by omega), qa_gi (by omega) (by omega), qa_gi (by omega) (by omega), qa_gi (by omega) (by omega), qa_gi (by omega) (by omega), ck (wW (wD u l (nI d)) l (sW (wD u l (nI d)) l - sA u (7 * c + 1))) rfl rfl, qa_b, qa_gi (by omega) (by omega), sb_setCar c 2 hcI (by omega) qa_2 (by decide), qa_b]
    simp (disch := omega) only [qs_C, pk_us, pk_un]
    rw [A1, bl.1, bl.2, RB.1, RB.2.1, show sC u 14 = g 10 from RA.1.2.2.2.2.2.2.2.2.2.2.2.2.1, hU]
  obtain ⟨g', hg'⟩ : ∃ g', g' = ulG g c := ⟨_, rfl⟩
  rw [← hg']
  have oth : ∀ i, i ≠ 61 + 7 * c + 2 → i ≠ 10 → g' i = g i := by
    intro i q1 q2
    rw [hg']
    unfold ulG
    rw [pk_un q2, pk_un q1]
  have h10 : g' 10 = g 10 + 1 := by
    rw [hg']
    unfold ulG
    rw [pk_us]
  have hC2 : eC g' c 2 = 3 := by
    rw [hg']
    unfold ulG
    rw [eC_un (by omega), eC_us]
  have hCk : ∀ k, k < 7 → k ≠ 2 → eC g' c k = eC g c k := fun k hk q1 => oth _ (by omega) (by omega)
  have hCj : ∀ j, j ≠ c → ∀ k, k < 7 → eC g' j k = eC g j k := fun j hj k hk => oth _ (by omega) (by omega)
  have hz : ∀ i, i < 61 → i ≠ 10 → g' i = g i := fun i h1 h2 => oth i (by omega) h2
  have hK : ∀ i, 29 ≤ i → i < 41 → g' i = g i := fun i h1 h2 => hz i (by omega) (by omega)
  have hN : eN g' = eN g := by
    unfold eN
    rw [hz 13 (by omega) (by omega)]
  have hQ : eQ g' = eQ g := by
    unfold eQ
    rw [hz 14 (by omega) (by omega)]
  have hO : ∀ j, j < eN g → ∀ k, k < 3 → eO g' j k = eO g j k := by
    intro j hj k hk
    refine eO_c hK ?_ (g1.2.2 j hj) hk
    by_cases q : j = c
    · rw [q]
      exact hCk 0 (by decide) (by decide)
    · exact hCj j q 0 (by decide)
  have hJ := fun (j : Nat) (hj : j < eN g) (q : j ≠ c) => eJ (g := g) (g' := g') (hCj j q) (hO j hj 2 (by decide))
  have n2' : ¬ eC g' c 2 = 2 := by rw [hC2]; decide
  have n1' : ¬ eC g' c 2 = 1 := by rw [hC2]; decide
  have nA' : ∀ l', ¬ eAt g' l' c := fun l' h => n2' h.1
  have nF' : ∀ l', ¬ eFr g' l' c := fun l' h => h.1.elim n2' n1'
  have hLd : eLd g' = eLd g - eC g c 1 := by
    unfold eLd
    rw [hN, sI_dn (f := eWd g) (f' := eWd g') hc (fun j hj q => (hJ j hj q).1) (by unfold eWd; rw [if_neg n2'])]
    unfold eWd
    rw [if_pos x2]
  have hD : eD g' = eD g - 1 := by
    unfold eD
    rw [hN, sI_dn (f := eDf g) (f' := eDf g') hc (fun j hj q => (hJ j hj q).2.2.2.1) (by unfold eDf; rw [if_neg n2'])]
    unfold eDf
    rw [if_pos x2]
  have hFl : eFr g (nI l) c := ⟨Or.inl x2, x3⟩
  have nFl : ∀ l', l' ≠ nI l → ¬ eFr g l' c := fun l' q h => q (by rw [← h.2, x3])
  have hW : eW g' (nI l) = eW g (nI l) - eC g c 1 := by
    unfold eW
    rw [hN, sI_dn (f := eWf g (nI l)) (f' := eWf g' (nI l)) hc (fun j hj q => (hJ j hj q).2.1 _) (by unfold eWf; rw [if_neg (nF' _)])]
    unfold eWf
    rw [if_pos hFl]
  have hL : eL g' (nI l) = eL g (nI l) - eO g c 2 := by
    unfold eL
    rw [hN, sI_dn (f := eLf g (nI l)) (f' := eLf g' (nI l)) hc (fun j hj q => (hJ j hj q).2.2.1 _) (by unfold eLf; rw [if_neg (nF' _)])]
    unfold eLf
    rw [if_pos hFl]
  have hW' : ∀ l', l' ≠ nI l → eW g' l' = eW g l' := by
    intro l' q
    unfold eW
    rw [hN]
    exact sI_same hc (fun j hj q => (hJ j hj q).2.1 _) (by unfold eWf; rw [if_neg (nF' _), if_neg (nFl l' q)])
  have hL' : ∀ l', l' ≠ nI l → eL g' l' = eL g l' := by
    intro l' q
    unfold eL
    rw [hN]
    exact sI_same hc (fun j hj q => (hJ j hj q).2.2.1 _) (by unfold eLf; rw [if_neg (nF' _), if_neg (nFl l' q)])
  have nIne : ∀ l', l' < 3 → l' ≠ l → nI l' ≠ nI l := fun l' h q h' => q ((nI_eq (by omega) (by omega)).mp h')
  have uX : eX U = eX u := by rw [hU]; rfl
  have uO : sO U = sO u := by rw [hU]; rfl
  have uD : sD U = upd (sD u) l (nI d) := by rw [hU]; rfl
  have RA' : eRA U g' := by
    rw [hU, hg']
    unfold ulG
    have b0 : eRA (wN (wW (wD u l (nI d)) l (eW g (nI l) - eC g c 1)) l (eL g (nI l) - eO g c 2)) g := RA
    exact eRA_14 (eRA_c2 (eRA_c7 (eRA_car b0 hq.2 (by omega) (by decide) 3) _) _) _
  have RL' : eRL U g' := by
    intro l' hl'
    rw [uX, uO, uD, hN]
    by_cases q : l' = l
    · subst q
      have ne : ∀ i, i < d → eX u l' i ≠ c := by
        intro i hi e
        have := r5 i d hi (by omega)
        rw [e, ← ec] at this
        exact Int32.lt_irrefl this
      refine ⟨d, by omega, pk_us, ?_, fun i hi => ?_, fun i j hij hj => ?_, fun c' h1 h2 => ?_⟩
      · unfold eM
        rw [hN, sI_dn (f := eMf g (nI l')) (f' := eMf g' (nI l')) hc (fun j hj q => (hJ j hj q).2.2.2.2.1 _) (by unfold eMf; rw [if_neg (nA' _)])]
        have : sI (eMf g (nI l')) (eN g) = nI (d + 1) := r3
        rw [this]
        unfold eMf
        rw [if_pos k3, nI_pred]
      · obtain ⟨v1, v2, v3, v4⟩ := r4 i (by omega)
        refine ⟨v1, v2, ?_, ?_⟩
        · unfold eAt
          rw [hCj _ (ne i hi) 2 (by decide), hCj _ (ne i hi) 3 (by decide)]
          exact v3
        · rw [hCj _ (ne i hi) 5 (by decide), ← v4]
          refine sI_same hc (fun j hj q => (hJ j hj q).2.2.2.2.2.1 _ _) ?_
          have := r5 i d hi (by omega)
          rw [← ec] at this
          unfold eAf
          rw [if_neg (fun h => nA' _ h.1), if_neg (fun h => Int32.lt_asymm this h.2)]
      · rw [hCj _ (ne i (by omega)) 5 (by decide), hCj _ (ne j hj) 5 (by decide)]
        exact r5 i j hij (by omega)
      · have qc : c' ≠ c := fun q => nA' _ (by rw [← q]; exact h2)
        unfold eAt at h2
        rw [hCj _ qc 2 (by decide), hCj _ qc 3 (by decide)] at h2
        obtain ⟨i, i1, i2⟩ := r6 c' h1 h2
        have : i ≠ d := fun e => qc (by rw [← i2, e, ec])
        exact ⟨i, by omega, i2⟩
    · obtain ⟨d', s1, s2, s3, s4, s5, s6⟩ := RL l' hl'
      have nAl : ¬ eAt g (nI l') c := fun h => nIne l' hl' q (by rw [← h.2, x3])
      have ne : ∀ i, i < d' → eX u l' i ≠ c := fun i hi e => nAl (by rw [← e]; exact (s4 i hi).2.2.1)
      refine ⟨d', s1, by rw [pk_un q]; exact s2, ?_, fun i hi => ?_, fun i j hij hj => ?_, fun c' h1 h2 => ?_⟩
      · unfold eM
        rw [hN, ← s3]
        exact sI_same hc (fun j hj q => (hJ j hj q).2.2.2.2.1 _) (by unfold eMf; rw [if_neg (nA' _), if_neg nAl])
      · obtain ⟨v1, v2, v3, v4⟩ := s4 i hi
        refine ⟨v1, v2, ?_, ?_⟩
        · unfold eAt
          rw [hCj _ (ne i hi) 2 (by decide), hCj _ (ne i hi) 3 (by decide)]
          exact v3
        · rw [hCj _ (ne i hi) 5 (by decide), ← v4]
          exact sI_same hc (fun j hj q => (hJ j hj q).2.2.2.2.2.1 _ _) (by unfold eAf; rw [if_neg (fun h => nA' _ h.1), if_neg (fun h => nAl h.1)])
      · rw [hCj _ (ne i (by omega)) 5 (by decide), hCj _ (ne j hj) 5 (by decide)]
        exact s5 i j hij hj
      · have qc : c' ≠ c := fun q => nA' _ (by rw [← q]; exact h2)
        unfold eAt at h2
        rw [hCj _ qc 2 (by decide), hCj _ qc 3 (by decide)] at h2
        exact s6 c' h1 h2
  have RB' : eRB U g' := by
    refine ⟨?_, ?_, fun l' hl' => ?_⟩
    · rw [hD, hU]
      simp (disch := omega) only [qs_C, pk_us, pk_un]
    · rw [hLd, hU]
      simp (disch := omega) only [qs_C, pk_us, pk_un]
    · rw [hU]
      simp only [qs_C]
      by_cases q : l' = l
      · rw [q, pk_us, pk_us, hW, hL]
        exact ⟨rfl, rfl⟩
      · rw [pk_un q, pk_un q, hW' _ (nIne l' hl' q), hL' _ (nIne l' hl' q)]
        exact RB.2.2 l' hl'
  have S' : eS g' := by
    unfold eS
    rw [hz 15 (by omega) (by omega), hz 16 (by omega) (by omega), hz 17 (by omega) (by omega), hz 18 (by omega) (by omega), hz 19 (by omega) (by omega), hz 20 (by omega) (by omega), hz 21 (by omega) (by omega), hz 22 (by omega) (by omega), hz 23 (by omega) (by omega), hz 24 (by omega) (by omega), hz 25 (by omega) (by omega), hz 26 (by omega) (by omega), hz 27 (by omega) (by omega), hz 28 (by omega) (by omega)]
    refine ⟨S.1, fun d hd => ?_⟩
    have s2 := S.2 d hd
    unfold eK at s2 ⊢
    rw [hK _ (by omega) (by omega), hK _ (by omega) (by omega), hK _ (by omega) (by omega)]
    exact s2
  have ho := eO_bnd S g1 hc
  have hLb := eL_bnd S g1 (nI l)
  have hLb' : 0 ≤ (eL g' (nI l)).toInt ∧ (eL g' (nI l)).toInt ≤ 59940 := by
    have H' : eH g' := by
      unfold eH
      rw [hN, hz 13 (by omega) (by omega)]
      refine ⟨g1.1, g1.2.1, fun j hj => ?_⟩
      by_cases q : j = c
      · rw [q, hCk 0 (by decide) (by decide)]
        exact g1.2.2 c hc
      · rw [hCj j q 0 (by decide)]
        exact g1.2.2 j hj
    exact eL_bnd S' H' (nI l)
  have G' : eG g' := by
    refine ⟨?_, ?_, Or.inl ?_, ?_, ?_, ?_, ?_, ?_⟩
    · unfold eH
      rw [hN, hz 13 (by omega) (by omega)]
      refine ⟨g1.1, g1.2.1, fun j hj => ?_⟩
      by_cases q : j = c
      · rw [q, hCk 0 (by decide) (by decide)]
        exact g1.2.2 c hc
      · rw [hCj j q 0 (by decide)]
        exact g1.2.2 j hj
    · rw [hN, hz 4 (by omega) (by omega), hz 0 (by omega) (by omega), h4]
      intro j hj
      by_cases q : j = c
      · subst q
        rw [hC2, hCk 1 (by decide) (by decide), hCk 3 (by decide) (by decide), hCk 4 (by decide) (by decide), hCk 5 (by decide) (by decide)]
        exact ⟨w1, w2, fun h => absurd h (by decide), fun h => absurd h (by decide), w5, w6, w7, w8, fun h => absurd h (by decide), fun h => absurd h (by decide)⟩
      · obtain ⟨v1, v2, v3, v4, v5, v6, v7, v8, v9, v10⟩ := g2 j hj
        rw [hCj j q 1 (by decide), hCj j q 2 (by decide), hCj j q 3 (by decide), hCj j q 4 (by decide), hCj j q 5 (by decide)]
        exact ⟨v1, v2, fun h => by rw [← h4]; exact v3 h, v4, v5, v6, v7, v8, v9, fun _ h => absurd rfl h⟩
    · rw [hz 4 (by omega) (by omega)]
      exact h4
    · rw [hz 14 (by omega) (by omega)]
      exact g4
    · rw [hQ, hN]
      intro i hi
      obtain ⟨v1, v2, v3⟩ := g5 i hi
      rw [hz (41 + i) (by omega) (by omega)]
      refine ⟨v1, v2, ?_⟩
      rw [hCj _ (fun e => by rw [e, x2] at v3; exact absurd v3 (by decide)) 2 (by decide)]
      exact v3
    · rw [hQ]
      intro i j hij hj
      rw [hz (41 + i) (by omega) (by omega), hz (41 + j) (by omega) (by omega)]
      exact g6 i j hij hj
    · rw [hQ, hN]
      intro j hj h
      have q : j ≠ c := fun e => by
        rw [e, hC2] at h
        exact absurd h (by decide)
      rw [hCj j q 2 (by decide)] at h
      obtain ⟨i, i1, i2⟩ := g7 j hj h
      exact ⟨i, i1, by rw [hz (41 + i) (by omega) (by omega)]; exact i2⟩
    · intro l' hl'
      rw [hz 21 (by omega) (by omega)]
      by_cases q : l' = l
      · have h8 := g8 l hl
        rw [q, hL, qa_sub (by omega) (by omega)]
        omega
      · rw [hL' _ (nIne l' hl' q)]
        exact g8 l' hl'
  have Z' : eZ B g' := by
    unfold eZ
    rw [hz 0 (by omega) (by omega), hz 1 (by omega) (by omega), hz 2 (by omega) (by omega), hz 3 (by omega) (by omega), hz 4 (by omega) (by omega), hz 5 (by omega) (by omega), hz 8 (by omega) (by omega), hz 12 (by omega) (by omega)]
    exact Z
  rw [E, sb_measureAll RA' S' Z' RB'.2.1 G', qa_b]
  exact ⟨_, rfl, ⟨RA'.d _ _ _, RB', RL', ⟨rfl, rfl, rfl⟩⟩, ⟨S', G', Z'⟩, hc, k1⟩
