/-! a car is dismissed; the last car of a lane is unloaded -/
def dsG (g : Nat → Int32) (p q c : Nat) : Nat → Int32 := upd (lvG g p q) (61 + 7 * c + 2) 4
def dsU (u : KS) (p q c : Nat) : KS := wA (wC (wQA u (shQ (sQ u) p (q - 1))) 1 (nI (q - 1))) (7 * c + 2) 4
theorem ds_rel {u : KS} {g : Nat → Int32} {B : Int} (R : eRel u g) (I : eInv B g) {p c : Nat} (hp : p < eQ g) (hc : c < eN g) (e : g (41 + p) = nI c) : eRel (dsU u p (eQ g) c) (dsG g p (eQ g) c) ∧ eInv B (dsG g p (eQ g) c) := by
  obtain ⟨RA, RB, RL, RH⟩ := R
  obtain ⟨S, G, Z⟩ := I
  have hn := G.1.n
  have hq := G.q
  obtain ⟨g1, g2, g3, g4, g5, g6, g7, g8⟩ := id G
  obtain ⟨w1, w2, w3, w4, w5, w6, w7, w8, w9, w10⟩ := g2 c hc
  have x2 : eC g c 2 = 0 := by
    have := (g5 p hp).2.2
    rw [e, qa_ixn (by omega)] at this
    exact this
  obtain ⟨g', hg'⟩ : ∃ g', g' = dsG g p (eQ g) c := ⟨_, rfl⟩
  obtain ⟨U, hU⟩ : ∃ U, U = dsU u p (eQ g) c := ⟨_, rfl⟩
  rw [← hg', ← hU]
  have oth : ∀ i, (i < 41 ∨ 61 ≤ i) → i ≠ 14 → i ≠ 61 + 7 * c + 2 → g' i = g i := by
    intro i q0 q1 q2
    rw [hg']
    unfold dsG
    rw [pk_un q2, lvG_oth g q0 q1 hq.2 hp]
  have hC2 : eC g' c 2 = 4 := by
    rw [hg']
    unfold dsG
    rw [eC_us]
  have hCk : ∀ k, k < 7 → k ≠ 2 → eC g' c k = eC g c k := fun k hk q1 => oth _ (by omega) (by omega) (by omega)
  have hCj : ∀ j, j ≠ c → ∀ k, k < 7 → eC g' j k = eC g j k := fun j hj k hk => oth _ (by omega) (by omega) (by omega)
  have hz : ∀ i, i < 41 → i ≠ 14 → g' i = g i := fun i h1 h2 => oth i (by omega) h2 (by omega)
  have h14' : g' 14 = nI (eQ g - 1) := by
    rw [hg']
    unfold dsG
    rw [pk_un (by omega), lvG_14 g hq.2 hp]
  have hqi : ∀ i, i < eQ g - 1 → g' (41 + i) = g (41 + (if i < p then i else i + 1)) := by
    intro i hi
    rw [hg']
    unfold dsG
    rw [pk_un (by omega), lvG_q g hi]
  have hK : ∀ i, 29 ≤ i → i < 41 → g' i = g i := fun i h1 h2 => hz i (by omega) (by omega)
  have hN : eN g' = eN g := by
    unfold eN
    rw [hz 13 (by omega) (by omega)]
  have hQ : eQ g' = eQ g - 1 := by
    unfold eQ
    rw [h14', qa_ixn (by omega)]
    rfl
  have hO : ∀ j, j < eN g → ∀ k, k < 3 → eO g' j k = eO g j k := by
    intro j hj k hk
    refine eO_c hK ?_ (g1.2.2 j hj) hk
    by_cases q : j = c
    · rw [q]
      exact hCk 0 (by decide) (by decide)
    · exact hCj j q 0 (by decide)
  have hJ := fun (j : Nat) (hj : j < eN g) (q : j ≠ c) => eJ (g := g) (g' := g') (hCj j q) (hO j hj 2 (by decide))
  have n2 : ¬ eC g c 2 = 2 := by rw [x2]; decide
  have n2' : ¬ eC g' c 2 = 2 := by rw [hC2]; decide
  have n1 : ¬ eC g c 2 = 1 := by rw [x2]; decide
  have n1' : ¬ eC g' c 2 = 1 := by rw [hC2]; decide
  have hLd : eLd g' = eLd g := by
    unfold eLd
    rw [hN]
    exact sI_same hc (fun j hj q => (hJ j hj q).1) (by unfold eWd; rw [if_neg n2, if_neg n2'])
  have hD : eD g' = eD g := by
    unfold eD
    rw [hN]
    exact sI_same hc (fun j hj q => (hJ j hj q).2.2.2.1) (by unfold eDf; rw [if_neg n2, if_neg n2'])
  have hM : eM g' = eM g := by
    funext l
    unfold eM
    rw [hN]
    exact sI_same hc (fun j hj q => (hJ j hj q).2.2.2.2.1 l) (by unfold eMf; rw [if_neg (fun h => n2' h.1), if_neg (fun h => n2 h.1)])
  have hW : eW g' = eW g := by
    funext l
    unfold eW
    rw [hN]
    exact sI_same hc (fun j hj q => (hJ j hj q).2.1 l) (by unfold eWf; rw [if_neg (fun h => h.1.elim n2' n1'), if_neg (fun h => h.1.elim n2 n1)])
  have hL : eL g' = eL g := by
    funext l
    unfold eL
    rw [hN]
    exact sI_same hc (fun j hj q => (hJ j hj q).2.2.1 l) (by unfold eLf; rw [if_neg (fun h => h.1.elim n2' n1'), if_neg (fun h => h.1.elim n2 n1)])
  have hT : eT g' = eT g := by
    funext t
    unfold eT eTr eTp
    rw [hz 15 (by omega) (by omega), hz 16 (by omega) (by omega), hz 17 (by omega) (by omega)]
  have hV : eV g' = eV g := by
    funext t
    unfold eV
    rw [hT, hLd, hz 19 (by omega) (by omega), hz 20 (by omega) (by omega)]
  have uX : eX U = eX u := by rw [hU]; rfl
  refine ⟨⟨?_, ?_, ?_, ?_⟩, ⟨?_, ?_, ?_⟩⟩
  · obtain ⟨⟨h0, h1, h2, h3, h4, h5, h6, h7, h8, h9, h10, h11, h12, h13, h14⟩, k1, k2, k3, k4, k5⟩ := RA
    unfold eRA
    rw [hz 0 (by omega) (by omega), hz 1 (by omega) (by omega), hz 2 (by omega) (by omega), hz 3 (by omega) (by omega), hz 4 (by omega) (by omega), hz 5 (by omega) (by omega), hz 6 (by omega) (by omega), hz 7 (by omega) (by omega), hz 8 (by omega) (by omega), hz 9 (by omega) (by omega), hz 10 (by omega) (by omega), hz 11 (by omega) (by omega), hz 12 (by omega) (by omega), hz 13 (by omega) (by omega), h14', hQ, hN, hU]
    unfold dsU
    simp (disch := omega) only [qs_C, qs_A, pk_us, pk_un]
    refine ⟨⟨h0, trivial, h2, h3, h4, h5, h6, h7, h8, h9, h10, h11, h12, h13, h14⟩, fun i hi => ?_, fun i hi => ?_, fun i hi => ?_, fun i hi => ?_, fun i hi hj => ?_⟩
    · rw [hz (15 + i) (by omega) (by omega)]
      exact k1 i hi
    · rw [hz (29 + i) (by omega) (by omega)]
      exact k2 i hi
    · rw [hqi i hi]
      unfold shQ
      by_cases q : i < p
      · rw [if_neg (by omega), if_pos q]
        exact k3 i (by omega)
      · rw [if_pos (by omega), if_neg q]
        exact k3 (i + 1) (by omega)
    · by_cases q2 : i = 7 * c + 2
      · rw [q2, pk_us, ← Nat.add_assoc]
        exact hC2.symm
      · rw [pk_un q2, oth (61 + i) (by omega) (by omega) (by omega)]
        exact k4 i hi
    · rw [oth (481 + i) (by omega) (by omega) (by omega)]
      exact k5 i hi hj
  · unfold eRB
    rw [hD, hLd, hW, hL, hU]
    unfold dsU
    simp (disch := omega) only [qs_C, qs_A, pk_us, pk_un]
    exact RB
  · intro l' hl'
    obtain ⟨d, d1, d2, d3, d4, d5, d6⟩ := RL l' hl'
    rw [uX, hM, hN, show sD U = sD u by rw [hU]; rfl, show sO U = sO u by rw [hU]; rfl]
    have ec : ∀ i, i < d → eX u l' i ≠ c := fun i hi q => n2 (by rw [← q]; exact (d4 i hi).2.2.1.1)
    refine ⟨d, d1, d2, d3, fun i hi => ?_, fun i j hij hj => ?_, fun c' h1 h2 => ?_⟩
    · obtain ⟨k1, k2, k3, k4⟩ := d4 i hi
      refine ⟨k1, k2, ?_, ?_⟩
      · unfold eAt
        rw [hCj _ (ec i hi) 2 (by decide), hCj _ (ec i hi) 3 (by decide)]
        exact k3
      · rw [hCj _ (ec i hi) 5 (by decide), ← k4]
        exact sI_same hc (fun j hj q => (hJ j hj q).2.2.2.2.2.1 _ _) (by unfold eAf; rw [if_neg (fun h => n2' h.1.1), if_neg (fun h => n2 h.1.1)])
    · rw [hCj _ (ec i (by omega)) 5 (by decide), hCj _ (ec j hj) 5 (by decide)]
      exact d5 i j hij hj
    · have qc : c' ≠ c := fun q => n2' (by rw [← q]; exact h2.1)
      unfold eAt at h2
      rw [hCj _ qc 2 (by decide), hCj _ qc 3 (by decide)] at h2
      exact d6 c' h1 h2
  · obtain ⟨r1, r2, r3⟩ := RH
    unfold eRH eP eI
    rw [hV, hz 0 (by omega) (by omega), hz 1 (by omega) (by omega), hz 18 (by omega) (by omega), hU]
    exact ⟨r1, r2, r3⟩
  · unfold eS
    rw [hz 15 (by omega) (by omega), hz 16 (by omega) (by omega), hz 17 (by omega) (by omega), hz 18 (by omega) (by omega), hz 19 (by omega) (by omega), hz 20 (by omega) (by omega), hz 21 (by omega) (by omega), hz 22 (by omega) (by omega), hz 23 (by omega) (by omega), hz 24 (by omega) (by omega), hz 25 (by omega) (by omega), hz 26 (by omega) (by omega), hz 27 (by omega) (by omega), hz 28 (by omega) (by omega)]
    refine ⟨S.1, fun d hd => ?_⟩
    have s2 := S.2 d hd
    unfold eK at s2 ⊢
    rw [hK _ (by omega) (by omega), hK _ (by omega) (by omega), hK _ (by omega) (by omega)]
    exact s2
  · refine ⟨?_, ?_, ?_, ?_, ?_, ?_, ?_, ?_⟩
    · unfold eH
      rw [hN, hz 13 (by omega) (by omega)]
      refine ⟨g1.1, g1.2.1, fun j hj => ?_⟩
      by_cases q : j = c
      · rw [q, hCk 0 (by decide) (by decide)]
        exact g1.2.2 c hc
      · rw [hCj j q 0 (by decide)]
        exact g1.2.2 j hj
    · rw [hN, hz 4 (by omega) (by omega), hz 0 (by omega) (by omega)]
      intro j hj
      by_cases q : j = c
      · subst q
        rw [hC2, hCk 1 (by decide) (by decide), hCk 3 (by decide) (by decide), hCk 4 (by decide) (by decide), hCk 5 (by decide) (by decide)]
        exact ⟨w1, w2, fun h => absurd h (by decide), fun h => absurd h (by decide), w5, w6, w7, w8, fun h => absurd h (by decide), fun h => absurd h (by decide)⟩
      · obtain ⟨v1, v2, v3, v4, v5, v6, v7, v8, v9, v10⟩ := g2 j hj
        rw [hCj j q 1 (by decide), hCj j q 2 (by decide), hCj j q 3 (by decide), hCj j q 4 (by decide), hCj j q 5 (by decide)]
        refine ⟨v1, v2, v3, v4, v5, v6, v7, v8, v9, fun h h' => ?_⟩
        obtain ⟨y1, y2, y3⟩ := g3.resolve_left h'
        rw [hCj _ (fun q' => by rw [q', x2] at y3; exact absurd y3 (by decide)) 5 (by decide)]
        exact v10 h h'
    · rw [hz 4 (by omega) (by omega), hN]
      rcases g3 with h | ⟨y1, y2, y3⟩
      · exact Or.inl h
      · refine Or.inr ⟨y1, y2, ?_⟩
        rw [hCj _ (fun q' => by rw [q', x2] at y3; exact absurd y3 (by decide)) 2 (by decide)]
        exact y3
    · rw [h14', qa_nI (by omega)]
      omega
    · rw [hQ, hN]
      intro i hi
      rw [hqi i hi]
      have hlt : (if i < p then i else i + 1) < eQ g := by split <;> omega
      have hne : (if i < p then i else i + 1) ≠ p := by split <;> omega
      generalize (if i < p then i else i + 1) = i' at hlt hne
      obtain ⟨v1, v2, v3⟩ := g5 i' hlt
      refine ⟨v1, v2, ?_⟩
      have q : ix (g (41 + i')) ≠ c := by
        intro q
        have e' : g (41 + i') = g (41 + p) := by rw [e, ← q, qa_nIx v1]
        rcases Nat.lt_or_gt_of_ne hne with h | h
        · exact g6 i' p h hp e'
        · exact g6 p i' h hlt e'.symm
      rw [hCj _ q 2 (by decide)]
      exact v3
    · rw [hQ]
      intro i j hij hj
      rw [hqi i (by omega), hqi j hj]
      exact g6 _ _ (by split <;> split <;> omega) (by split <;> omega)
    · rw [hQ, hN]
      intro j hj h
      have q : j ≠ c := fun q => by
        rw [q, hC2] at h
        exact absurd h (by decide)
      rw [hCj j q 2 (by decide)] at h
      obtain ⟨i, i1, i2⟩ := g7 j hj h
      have ip : i ≠ p := by
        intro ip
        rw [ip, e] at i2
        exact q ((nI_eq (by omega) (by omega)).mp i2).symm
      by_cases lt : i < p
      · exact ⟨i, by omega, by rw [hqi i (by omega), if_pos lt]; exact i2⟩
      · exact ⟨i - 1, by omega, by rw [hqi (i - 1) (by omega), if_neg (by omega), show i - 1 + 1 = i by omega]; exact i2⟩
    · rw [hL, hz 21 (by omega) (by omega)]
      exact g8
  · unfold eZ
    rw [hz 0 (by omega) (by omega), hz 1 (by omega) (by omega), hz 2 (by omega) (by omega), hz 3 (by omega) (by omega), hz 4 (by omega) (by omega), hz 5 (by omega) (by omega), hz 8 (by omega) (by omega), hz 12 (by omega) (by omega)]
    exact Z
