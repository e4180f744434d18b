/-! a car begins to drive: both sides -/
theorem bg_u {u : KS} {g : Nat → Int32} (R : eRel u g) (S : eS g) (G : eG g) {p c l : Nat} (hp : p < eQ g) (hc : c < eN g) (e : g (41 + p) = nI c) (hl3 : l < 3) (hl : eLn g (eO g c 2) (eC g c 1) 3 = nI l) : fX8_begin (nI p) u = some (bgU u p (eQ g) c l (eC g c 1) (eO g c 2) (g 0)) := by
  obtain ⟨RA, RB, RL, RH⟩ := R
  have hn := G.1.n
  have hq := G.q
  have hw := G.2.1 c hc
  have hk := G.1.2.2 c hc
  have hk2 := qa_ixI hk.1
  have hpI := qa_nI (n := p) (by omega)
  have hcI := qa_nI (n := c) (by omega)
  have hlI := qa_nI (n := l) (by omega)
  have q1 : sQ u p = nI c := by
    rw [RA.2.2.2.1 p hp]
    exact e
  have c1 : sC u 1 = nI (eQ g) := by
    rw [RA.1.2.1]
    exact (qa_nIx G.2.2.2.1.1).symm
  unfold fX8_begin fX8_begin_b0
  rw [sc_at p hpI (by omega) (by omega), qa_b, q1, sb_carFact RA G.1 c 1 hcI hc qa_1 (by decide), qa_b, sb_carFact RA G.1 c 0 hcI hc qa_0 (by decide), qa_b, sb_kindFact RA (ix (eC g c 0)) 2 hk2 (by omega) qa_2 (by decide), qa_b,
    sb_suiting RA RB S G (by omega) (by omega), qa_b]
  have hl' : eLn g (eK g (ix (eC g c 0)) 2) (eC g c 1) 3 = nI l := hl
  rw [hl', if_neg (by rw [qa_lt, qa_0]; omega), if_pos (by rw [qa_lt, qa_3]; omega), sb_take hq.2 hp c1, qa_b, sb_setCar c 2 hcI (by omega) qa_2 (by decide), qa_b, sb_setCar c 3 hcI (by omega) qa_3 (by decide), qa_b, sb_setCar c 5 hcI (by omega) qa_5 (by decide), qa_b,
    qa_gi (by omega) (by omega), qa_gi (by omega) (by omega), qa_gi (by omega) (by omega), qa_gi (by omega) (by omega), qa_ixn (by omega)]
  simp (disch := omega) only [qs_C, qs_A, pk_us, pk_un]
  rw [RA.1.1]
  rfl
theorem bg_g {g : Nat → Int32} (G : eG g) {p c l : Nat} (hp : p < eQ g) (hc : c < eN g) (e : g (41 + p) = nI c) (hl : eLn g (eO g c 2) (eC g c 1) 3 = nI l) : fX10_beginToDrive (nI c) g = some (bgG g p (eQ g) c (nI l)) := by
  have hn := G.1.n
  have hq := G.q
  have hcI := qa_nI (n := c) (by omega)
  have c1 : g 14 = nI (eQ g) := (qa_nIx G.2.2.2.1.1).symm
  have hd := G.2.2.2.2.2.1
  unfold fX10_beginToDrive fX10_beginToDrive_b0
  rw [rb_laneOf G.1 c hcI hc, qa_b, hl, rb_leave hq.2 hp c1 e (fun i hi h => hd i p hi hp (by rw [h, e])), qa_b, rb_layCar c 2 hcI (by omega) qa_2 (by decide), qa_b, rb_layCar c 3 hcI (by omega) qa_3 (by decide), qa_b, rb_layCar c 5 hcI (by omega) qa_5 (by decide), qa_b,
    pk_un (by omega), pk_un (by omega), lvG_oth g (by omega) (by omega) hq.2 hp]
  rfl
theorem bg_rel {u : KS} {g : Nat → Int32} {B : Int} (R : eRel u g) (I : eInv B g) (T : eU g) (h4 : g 4 = (-1)) {p c l : Nat} (hp : p < eQ g) (hc : c < eN g) (e : g (41 + p) = nI c) (hl3 : l < 3) (hl : eLn g (eO g c 2) (eC g c 1) 3 = nI l) :
    eRel (bgU u p (eQ g) c l (eC g c 1) (eO g c 2) (g 0)) (bgG g p (eQ g) c (nI l)) ∧ eInv B (bgG g p (eQ g) c (nI l)) ∧ sI (eBf (bgG g p (eQ g) c (nI l))) (eN g) = sI (eBf g) (eN g) + 1 ∧ eN (bgG g p (eQ g) c (nI l)) = eN g := by
  obtain ⟨RA, RB, RL, RH⟩ := R
  obtain ⟨S, G, Z⟩ := I
  have hn := G.1.n
  have hq := G.q
  obtain ⟨g1, g2, g3, g4, g5, g6, g7, g8⟩ := id G
  obtain ⟨w1, w2, w3, w4, w5, w6, w7, w8, w9, w10⟩ := g2 c hc
  have x2 : eC g c 2 = 0 := by
    have := (g5 p hp).2.2
    rw [e, qa_ixn (by omega)] at this
    exact this
  have hlI := qa_nI (n := l) (by omega)
  have z5 := Z.2.2.2.2.2.2.2.2.2.2.2.2.2 h4
  have z0 := Z.2.2.1
  have su : eSu g (eO g c 2) (eC g c 1) (nI l) := by
    have := eLn_suits (g := g) (len := eO g c 2) (w := eC g c 1) 3 (by omega) (by rw [hl]; intro h; have h := congrArg Int32.toInt h; rw [hlI, qa_m1] at h; omega)
    rw [hl] at this
    exact this
  have ho := eO_bnd S g1 hc
  have hLb := eL_bnd S g1 (nI l)
  have s21 := S.1
  obtain ⟨g', hg'⟩ : ∃ g', g' = bgG g p (eQ g) c (nI l) := ⟨_, rfl⟩
  obtain ⟨U, hU⟩ : ∃ U, U = bgU u p (eQ g) c l (eC g c 1) (eO g c 2) (g 0) := ⟨_, rfl⟩
  rw [← hg', ← hU]
  have oth : ∀ i, (i < 41 ∨ 61 ≤ i) → i ≠ 14 → i ≠ 61 + 7 * c + 2 → i ≠ 61 + 7 * c + 3 → i ≠ 61 + 7 * c + 5 → i ≠ 4 → i ≠ 5 → i ≠ 7 → g' i = g i := by
    intro i q0 q1 q2 q3 q4 q5 q6 q7
    rw [hg']
    unfold bgG
    rw [pk_un q7, pk_un q6, pk_un q5, pk_un q4, pk_un q3, pk_un q2, lvG_oth g q0 q1 hq.2 hp]
  have hC2 : eC g' c 2 = 1 := by
    rw [hg']
    unfold bgG
    rw [eC_un (by omega), eC_un (by omega), eC_un (by omega), eC_un (by omega), eC_un (by omega), eC_us]
  have hC3 : eC g' c 3 = nI l := by
    rw [hg']
    unfold bgG
    rw [eC_un (by omega), eC_un (by omega), eC_un (by omega), eC_un (by omega), eC_us]
  have hC5 : eC g' c 5 = g 0 := by
    rw [hg']
    unfold bgG
    rw [eC_un (by omega), eC_un (by omega), eC_un (by omega), eC_us]
  have hCk : ∀ k, k < 7 → k ≠ 2 → k ≠ 3 → k ≠ 5 → eC g' c k = eC g c k := fun k hk q1 q2 q3 => oth _ (by omega) (by omega) (by omega) (by omega) (by omega) (by omega) (by omega) (by omega)
  have hCj : ∀ j, j ≠ c → ∀ k, k < 7 → eC g' j k = eC g j k := fun j hj k hk => oth _ (by omega) (by omega) (by omega) (by omega) (by omega) (by omega) (by omega) (by omega)
  have hz : ∀ i, i < 41 → i ≠ 4 → i ≠ 5 → i ≠ 7 → i ≠ 14 → g' i = g i := fun i h1 h2 h3 h4 h5 => oth i (by omega) h5 (by omega) (by omega) (by omega) h2 h3 h4
  have h4' : g' 4 = nI c := by
    rw [hg']
    unfold bgG
    rw [pk_un (by omega), pk_un (by omega), pk_us]
  have h5' : g' 5 = 0 := by
    rw [hg']
    unfold bgG
    rw [pk_un (by omega), pk_us]
  have h7' : g' 7 = 0 := by
    rw [hg']
    unfold bgG
    rw [pk_us]
  have h14' : g' 14 = nI (eQ g - 1) := by
    rw [hg']
    unfold bgG
    rw [pk_un (by omega), pk_un (by omega), pk_un (by omega), pk_un (by omega), pk_un (by omega), pk_un (by omega), lvG_14 g hq.2 hp]
  have hqi : ∀ i, i < eQ g - 1 → g' (41 + i) = g (41 + (if i < p then i else i + 1)) := by
    intro i hi
    rw [hg']
    unfold bgG
    rw [pk_un (by omega), pk_un (by omega), pk_un (by omega), pk_un (by omega), pk_un (by omega), pk_un (by omega), lvG_q g hi]
  have hK : ∀ i, 29 ≤ i → i < 41 → g' i = g i := fun i h1 h2 => hz i (by omega) (by omega) (by omega) (by omega) (by omega)
  have hN : eN g' = eN g := by
    unfold eN
    rw [hz 13 (by omega) (by omega) (by omega) (by omega) (by omega)]
  have hQ : eQ g' = eQ g - 1 := by
    unfold eQ
    rw [h14', qa_ixn (by omega)]
    rfl
  have hO : ∀ j, j < eN g → ∀ k, k < 3 → eO g' j k = eO g j k := by
    intro j hj k hk
    refine eO_c hK ?_ (g1.2.2 j hj) hk
    by_cases q : j = c
    · rw [q]
      exact hCk 0 (by decide) (by decide) (by decide) (by decide)
    · exact hCj j q 0 (by decide)
  have hJ := fun (j : Nat) (hj : j < eN g) (q : j ≠ c) => eJ (g := g) (g' := g') (hCj j q) (hO j hj 2 (by decide))
  have hc1 : eC g' c 1 = eC g c 1 := hCk 1 (by decide) (by decide) (by decide) (by decide)
  have n2 : ¬ eC g c 2 = 2 := by
    rw [x2]
    decide
  have n2' : ¬ eC g' c 2 = 2 := by
    rw [hC2]
    decide
  have hLd : eLd g' = eLd g := by
    unfold eLd
    rw [hN]
    refine sI_same hc (fun j hj q => (hJ j hj q).1) ?_
    unfold eWd
    rw [if_neg n2, if_neg n2']
  have hD : eD g' = eD g := by
    unfold eD
    rw [hN]
    refine sI_same hc (fun j hj q => (hJ j hj q).2.2.2.1) ?_
    unfold eDf
    rw [if_neg n2, if_neg n2']
  have hM : ∀ l', eM g' l' = eM g l' := by
    intro l'
    unfold eM
    rw [hN]
    refine sI_same hc (fun j hj q => (hJ j hj q).2.2.2.2.1 l') ?_
    unfold eMf
    rw [if_neg (fun h => n2' h.1), if_neg (fun h => n2 h.1)]
  have nFr : ∀ l', ¬ eFr g l' c := by
    intro l' h
    have h := h.1
    rw [x2] at h
    revert h
    decide
  have hFr : eFr g' (nI l) c := ⟨Or.inr hC2, hC3⟩
  have nFr' : ∀ l', l' ≠ nI l → ¬ eFr g' l' c := fun l' q h => q (by rw [← h.2, hC3])
  have hW : eW g' (nI l) = eW g (nI l) + eC g c 1 := by
    unfold eW
    rw [hN, sI_up (f := eWf g (nI l)) (f' := eWf g' (nI l)) hc (fun j hj q => (hJ j hj q).2.1 _) (by unfold eWf; rw [if_neg (nFr _)])]
    unfold eWf
    rw [if_pos hFr, hc1]
  have hL : eL g' (nI l) = eL g (nI l) + eO g c 2 := by
    unfold eL
    rw [hN, sI_up (f := eLf g (nI l)) (f' := eLf g' (nI l)) hc (fun j hj q => (hJ j hj q).2.2.1 _) (by unfold eLf; rw [if_neg (nFr _)])]
    unfold eLf
    rw [if_pos hFr, hO c hc 2 (by decide)]
  have hW' : ∀ l', l' ≠ nI l → eW g' l' = eW g l' := by
    intro l' q
    unfold eW
    rw [hN]
    refine sI_same hc (fun j hj q => (hJ j hj q).2.1 _) ?_
    unfold eWf
    rw [if_neg (nFr _), if_neg (nFr' l' q)]
  have hL' : ∀ l', l' ≠ nI l → eL g' l' = eL g l' := by
    intro l' q
    unfold eL
    rw [hN]
    refine sI_same hc (fun j hj q => (hJ j hj q).2.2.1 _) ?_
    unfold eLf
    rw [if_neg (nFr _), if_neg (nFr' l' q)]
  have nIne : ∀ l', l' < 3 → l' ≠ l → nI l' ≠ nI l := fun l' h q h' => q ((nI_eq (by omega) (by omega)).mp h')
  have hT : eT g' = eT g := by
    funext t
    unfold eT eTr eTp
    rw [hz 15 (by omega) (by omega) (by omega) (by omega) (by omega), hz 16 (by omega) (by omega) (by omega) (by omega) (by omega), hz 17 (by omega) (by omega) (by omega) (by omega) (by omega)]
  have hV : eV g' = eV g := by
    funext t
    unfold eV
    rw [hT, hLd, hz 19 (by omega) (by omega) (by omega) (by omega) (by omega), hz 20 (by omega) (by omega) (by omega) (by omega) (by omega)]
  have uD : sD U = sD u := by
    rw [hU]
    unfold bgU
    simp only [qs_C, qs_A]
  have uO : sO U = sO u := by
    rw [hU]
    unfold bgU
    simp only [qs_C, qs_A]
  have uX : eX U = eX u := by
    funext a b
    unfold eX
    rw [uO]
  refine ⟨⟨?_, ?_, ?_, ?_⟩, ⟨?_, ?_, ?_⟩, ?_, hN⟩
  · -- what both hold alike
    obtain ⟨⟨h0, h1, h2, h3, h4, h5, h6, h7, h8, h9, h10, h11, h12, h13, h14⟩, k1, k2, k3, k4, k5⟩ := RA
    unfold eRA
    rw [hz 0 (by omega) (by omega) (by omega) (by omega) (by omega), hz 1 (by omega) (by omega) (by omega) (by omega) (by omega), hz 2 (by omega) (by omega) (by omega) (by omega) (by omega), hz 3 (by omega) (by omega) (by omega) (by omega) (by omega), h4', h5', hz 6 (by omega) (by omega) (by omega) (by omega) (by omega), h7', hz 8 (by omega) (by omega) (by omega) (by omega) (by omega), hz 9 (by omega) (by omega) (by omega) (by omega) (by omega), hz 10 (by omega) (by omega) (by omega) (by omega) (by omega), hz 11 (by omega) (by omega) (by omega) (by omega) (by omega), hz 12 (by omega) (by omega) (by omega) (by omega) (by omega), hz 13 (by omega) (by omega) (by omega) (by omega) (by omega), h14', hQ, hN, hU]
    unfold bgU
    simp (disch := omega) only [qs_C, qs_A, pk_us, pk_un]
    refine ⟨⟨h0, trivial, h2, h3, h4, h5, trivial, h7.trans z5, h8, trivial, h10, h11, h12, h13, h14⟩, fun i hi => ?_, fun i hi => ?_, fun i hi => ?_, fun i hi => ?_, fun i hi hj => ?_⟩
    · rw [hz (15 + i) (by omega) (by omega) (by omega) (by omega) (by omega)]
      exact k1 i hi
    · rw [hz (29 + i) (by omega) (by omega) (by omega) (by omega) (by omega)]
      exact k2 i hi
    · rw [hqi i hi]
      unfold shQ
      by_cases q : i < p
      · rw [if_neg (by omega), if_pos q]
        exact k3 i (by omega)
      · rw [if_pos (by omega), if_neg q]
        exact k3 (i + 1) (by omega)
    · by_cases q5 : i = 7 * c + 5
      · rw [q5, pk_us, ← Nat.add_assoc]
        exact hC5.symm
      · rw [pk_un q5]
        by_cases q3 : i = 7 * c + 3
        · rw [q3, pk_us, ← Nat.add_assoc]
          exact hC3.symm
        · rw [pk_un q3]
          by_cases q2 : i = 7 * c + 2
          · rw [q2, pk_us, ← Nat.add_assoc]
            exact hC2.symm
          · rw [pk_un q2, oth (61 + i) (by omega) (by omega) (by omega) (by omega) (by omega) (by omega) (by omega) (by omega)]
            exact k4 i hi
    · rw [oth (481 + i) (by omega) (by omega) (by omega) (by omega) (by omega) (by omega) (by omega) (by omega)]
      exact k5 i hi hj
  · -- the sums
    obtain ⟨b1, b2, b3⟩ := RB
    unfold eRB
    rw [hD, hLd, hU]
    unfold bgU
    simp (disch := omega) only [qs_C, qs_A, pk_us, pk_un]
    refine ⟨b1, b2, fun l' h' => ?_⟩
    by_cases q : l' = l
    · rw [q, pk_us, pk_us, hW, hL, (b3 l hl3).1, (b3 l hl3).2]
      exact ⟨rfl, rfl⟩
    · rw [pk_un q, pk_un q, hW' _ (nIne l' h' q), hL' _ (nIne l' h' q)]
      exact b3 l' h'
  · -- the lanes' cars
    intro l' hl'
    obtain ⟨d, d1, d2, d3, d4, d5, d6⟩ := RL l' hl'
    rw [uD, uO, uX, hM, hN]
    have ec : ∀ i, i < d → eX u l' i ≠ c := fun i hi q => n2 (by rw [← q]; exact (d4 i hi).2.2.1.1)
    refine ⟨d, d1, d2, d3, fun i hi => ?_, fun i j hij hj => ?_, fun c' h1 h2 => ?_⟩
    · obtain ⟨k1, k2, k3, k4⟩ := d4 i hi
      refine ⟨k1, k2, ?_, ?_⟩
      · unfold eAt
        rw [hCj _ (ec i hi) 2 (by decide), hCj _ (ec i hi) 3 (by decide)]
        exact k3
      · rw [hCj _ (ec i hi) 5 (by decide), ← k4]
        refine sI_same hc (fun j hj q => (hJ j hj q).2.2.2.2.2.1 _ _) ?_
        unfold eAf
        rw [if_neg (fun h => n2' h.1.1), if_neg (fun h => n2 h.1.1)]
    · rw [hCj _ (ec i (by omega)) 5 (by decide), hCj _ (ec j hj) 5 (by decide)]
      exact d5 i j hij hj
    · have qc : c' ≠ c := fun q => n2' (by rw [← q]; exact h2.1)
      unfold eAt at h2
      rw [hCj _ qc 2 (by decide), hCj _ qc 3 (by decide)] at h2
      exact d6 c' h1 h2
  · -- the heights
    obtain ⟨r1, r2, r3⟩ := RH
    unfold eRH eP eI
    rw [hV, hz 0 (by omega) (by omega) (by omega) (by omega) (by omega), hz 1 (by omega) (by omega) (by omega) (by omega) (by omega), hz 18 (by omega) (by omega) (by omega) (by omega) (by omega), hU]
    unfold bgU
    simp only [qs_C, qs_A]
    exact ⟨r1, r2, r3⟩
  · unfold eS
    rw [hz 15 (by omega) (by omega) (by omega) (by omega) (by omega), hz 16 (by omega) (by omega) (by omega) (by omega) (by omega), hz 17 (by omega) (by omega) (by omega) (by omega) (by omega), hz 18 (by omega) (by omega) (by omega) (by omega) (by omega), hz 19 (by omega) (by omega) (by omega) (by omega) (by omega), hz 20 (by omega) (by omega) (by omega) (by omega) (by omega), hz 21 (by omega) (by omega) (by omega) (by omega) (by omega), hz 22 (by omega) (by omega) (by omega) (by omega) (by omega), hz 23 (by omega) (by omega) (by omega) (by omega) (by omega), hz 24 (by omega) (by omega) (by omega) (by omega) (by omega), hz 25 (by omega) (by omega) (by omega) (by omega) (by omega), hz 26 (by omega) (by omega) (by omega) (by omega) (by omega), hz 27 (by omega) (by omega) (by omega) (by omega) (by omega), hz 28 (by omega) (by omega) (by omega) (by omega) (by omega)]
    refine ⟨S.1, fun d hd => ?_⟩
    have s2 := S.2 d hd
    unfold eK at s2 ⊢
    rw [hK _ (by omega) (by omega), hK _ (by omega) (by omega), hK _ (by omega) (by omega)]
    exact s2
  · refine ⟨?_, ?_, ?_, ?_, ?_, ?_, ?_, ?_⟩
    · unfold eH
      rw [hN, hz 13 (by omega) (by omega) (by omega) (by omega) (by omega)]
      refine ⟨g1.1, g1.2.1, fun j hj => ?_⟩
      by_cases q : j = c
      · rw [q, hCk 0 (by decide) (by decide) (by decide) (by decide)]
        exact g1.2.2 c hc
      · rw [hCj j q 0 (by decide)]
        exact g1.2.2 j hj
    · rw [hN, h4', hz 0 (by omega) (by omega) (by omega) (by omega) (by omega), qa_ixn (by omega), hC5]
      intro j hj
      by_cases q : j = c
      · subst q
        rw [hC2, hc1, hC5, hC3, hCk 4 (by decide) (by decide) (by decide) (by decide)]
        exact ⟨w1, w2, fun _ => rfl, fun _ => ⟨by omega, by omega, z0⟩, w5, w6, Int.le_refl _, Or.inr w6, fun h => absurd h (by decide), fun h => absurd h (by decide)⟩
      · obtain ⟨v1, v2, v3, v4, v5, v6, v7, v8, v9, v10⟩ := g2 j hj
        rw [hCj j q 1 (by decide), hCj j q 2 (by decide), hCj j q 3 (by decide), hCj j q 4 (by decide), hCj j q 5 (by decide)]
        refine ⟨v1, v2, fun h => ?_, v4, v5, v6, v7, v8, v9, fun h _ => ?_⟩
        · have := v3 h
          rw [h4] at this
          have h := congrArg Int32.toInt this
          rw [qa_m1, qa_nI (by omega)] at h
          omega
        · rw [qa_lt]
          exact T j hj
    · right
      rw [h4', qa_ixn (by omega), hN, qa_nI (by omega)]
      exact ⟨by omega, hc, hC2⟩
    · rw [h14', qa_nI (by omega)]
      omega
    · rw [hQ, hN]
      intro i hi
      rw [hqi i hi]
      have hlt : (if i < p then i else i + 1) < eQ g := by split <;> omega
      have hne : (if i < p then i else i + 1) ≠ p := by split <;> omega
      generalize (if i < p then i else i + 1) = i' at hlt hne
      obtain ⟨v1, v2, v3⟩ := g5 i' hlt
      refine ⟨v1, v2, ?_⟩
      have q : ix (g (41 + i')) ≠ c := by
        intro q
        have e' : g (41 + i') = g (41 + p) := by rw [e, ← q, qa_nIx v1]
        rcases Nat.lt_or_gt_of_ne hne with h | h
        · exact g6 i' p h hp e'
        · exact g6 p i' h hlt e'.symm
      rw [hCj _ q 2 (by decide)]
      exact v3
    · rw [hQ]
      intro i j hij hj
      rw [hqi i (by omega), hqi j hj]
      exact g6 _ _ (by split <;> split <;> omega) (by split <;> omega)
    · rw [hQ, hN]
      intro j hj h
      have q : j ≠ c := fun q => by
        rw [q, hC2] at h
        revert h
        decide
      rw [hCj j q 2 (by decide)] at h
      obtain ⟨i, i1, i2⟩ := g7 j hj h
      have ip : i ≠ p := by
        intro ip
        rw [ip, e] at i2
        exact q ((nI_eq (by omega) (by omega)).mp i2).symm
      by_cases lt : i < p
      · exact ⟨i, by omega, by rw [hqi i (by omega), if_pos lt]; exact i2⟩
      · exact ⟨i - 1, by omega, by rw [hqi (i - 1) (by omega), if_neg (by omega), show i - 1 + 1 = i by omega]; exact i2⟩
    · intro l' hl'
      rw [hz 21 (by omega) (by omega) (by omega) (by omega) (by omega)]
      by_cases q : l' = l
      · rw [q, hL]
        have h1 := su.1
        rw [qa_le, qa_sub (by omega) (by omega)] at h1
        rw [qa_add (by omega) (by omega)]
        omega
      · rw [hL' _ (nIne l' hl' q)]
        exact g8 l' hl'
  · obtain ⟨z1, z2, z3, z4, z5, z6, z7, z8, z9, z10, z11, z12, z13, z14⟩ := Z
    unfold eZ
    rw [hz 0 (by omega) (by omega) (by omega) (by omega) (by omega), hz 1 (by omega) (by omega) (by omega) (by omega) (by omega), hz 2 (by omega) (by omega) (by omega) (by omega) (by omega), hz 3 (by omega) (by omega) (by omega) (by omega) (by omega), hz 8 (by omega) (by omega) (by omega) (by omega) (by omega), hz 12 (by omega) (by omega) (by omega) (by omega) (by omega), h5']
    exact ⟨z1, z2, z3, z4, z5, z6, z7, z8, z9, z10, z11, z12, z13, fun _ => rfl⟩
  · rw [sI_up (f := eBf g) (f' := eBf (g')) hc (fun j hj q => (hJ j hj q).2.2.2.2.2.2) (by unfold eBf; rw [if_pos (w9 x2)])]
    unfold eBf
    rw [hC5, if_neg (fun h => by have h := congrArg Int32.toInt h; rw [qa_m1] at h; omega)]
