/-! a car arrives -/
/-- the row behind a car's arrival -/
def adG (g : Nat → Int32) (n q : Nat) (k w : Int32) : Nat → Int32 :=
  upd (upd (upd (upd (upd (upd (upd (upd (upd (upd g 13 (nI (n + 1))) (61 + 7 * n + 0) k) (61 + 7 * n + 1) w) (61 + 7 * n + 2) 0) (61 + 7 * n + 3) (-1)) (61 + 7 * n + 4) (g 0)) (61 + 7 * n + 5) (-1)) (61 + 7 * n + 6) (-1)) (41 + q) (nI n)) 14 (nI (q + 1))
def adU (u : KS) (n q : Nat) (k w t : Int32) : KS :=
  wC (wC (wQ (wA (wA (wA (wA (wA (wA (wA u (7 * n + 0) k) (7 * n + 1) w) (7 * n + 2) 0) (7 * n + 3) (-1)) (7 * n + 4) t) (7 * n + 5) (-1)) (7 * n + 6) (-1)) q (nI n)) 3 (nI (n + 1))) 1 (nI (q + 1))
theorem ad_u {u : KS} {n q : Nat} (hn : n < 60) (hq : q < 20) (c3 : sC u 3 = nI n) (c1 : sC u 1 = nI q) (k w : Int32) : fX8_addCar k w u = some (nI n, adU u n q k w (sC u 0)) := by
  have hnI := qa_nI (n := n) (by omega)
  have hqI := qa_nI (n := q) (by omega)
  unfold fX8_addCar fX8_addCar_b0
  rw [c3, c1, if_neg (by rw [qa_lt, qa_0]; omega), if_neg (by rw [qa_le, hnI]; simp only [Int32.reduceToInt]; omega), if_neg (by rw [qa_lt, qa_0]; omega), if_pos (by rw [qa_lt, hqI]; simp only [Int32.reduceToInt]; omega),
    sb_setCar n 0 hnI hn qa_0 (by decide), qa_b, sb_setCar n 1 hnI hn qa_1 (by decide), qa_b, sb_setCar n 2 hnI hn qa_2 (by decide), qa_b, sb_setCar n 3 hnI hn qa_3 (by decide), qa_b, sb_setCar n 4 hnI hn qa_4 (by decide), qa_b, sb_setCar n 5 hnI hn qa_5 (by decide), qa_b, sb_setCar n 6 hnI hn qa_6 (by decide), qa_b,
    qa_gi (by omega) (by omega), qa_ix hqI]
  simp (disch := omega) only [qs_C, pk_us, pk_un]
  rw [c3, c1, nI_1, nI_1]
  rfl
theorem ad_g {g : Nat → Int32} {n q : Nat} (hn : n < 60) (hq : q < 20) (c3 : g 13 = nI n) (c1 : g 14 = nI q) (k w : Int32) : fX10_addCar k w g = some (nI n, adG g n q k w) := by
  have hnI := qa_nI (n := n) (by omega)
  have hqI := qa_nI (n := q) (by omega)
  have i41 : (41 + nI q).toInt = ((41 + q : Nat) : Int) := by
    simp only [qa_ar, hqI, Int32.reduceToInt]
    omega
  unfold fX10_addCar fX10_addCar_b0
  rw [c3, nI_1, rb_layCar n 0 hnI hn qa_0 (by decide), qa_b, rb_layCar n 1 hnI hn qa_1 (by decide), qa_b, rb_layCar n 2 hnI hn qa_2 (by decide), qa_b, rb_layCar n 3 hnI hn qa_3 (by decide), qa_b, rb_layCar n 4 hnI hn qa_4 (by decide), qa_b, rb_layCar n 5 hnI hn qa_5 (by decide), qa_b, rb_layCar n 6 hnI hn qa_6 (by decide), qa_b]
  have h14 : ∀ x, upd (upd (upd (upd (upd (upd (upd (upd g 13 (nI (n + 1))) (61 + 7 * n + 0) k) (61 + 7 * n + 1) w) (61 + 7 * n + 2) 0) (61 + 7 * n + 3) (-1)) (61 + 7 * n + 4) x) (61 + 7 * n + 5) (-1)) (61 + 7 * n + 6) (-1) 14 = nI q := by
    intro x
    rw [pk_un (by omega), pk_un (by omega), pk_un (by omega), pk_un (by omega), pk_un (by omega), pk_un (by omega), pk_un (by omega), pk_un (by omega), c1]
  have h0 : upd (upd (upd (upd (upd g 13 (nI (n + 1))) (61 + 7 * n + 0) k) (61 + 7 * n + 1) w) (61 + 7 * n + 2) 0) (61 + 7 * n + 3) (-1) 0 = g 0 := by
    rw [pk_un (by omega), pk_un (by omega), pk_un (by omega), pk_un (by omega), pk_un (by omega)]
  rw [h0, h14, qa_gi (by omega) (by omega), qa_ix i41, pk_un (by omega), h14, nI_1]
  rfl
theorem ad_rel {u : KS} {g : Nat → Int32} {B : Int} (RA : eRA u g) (RB : eRB u g) (RL : eRL u g) (I : eInv B g) (hn : eN g < 60) (hq : eQ g < 20) {k w : Int32} (k0 : 0 ≤ k.toInt) (k1 : k.toInt ≤ 3) (w0 : 1 ≤ w.toInt) (w1 : w.toInt ≤ 999) :
    eRA (adU u (eN g) (eQ g) k w (g 0)) (adG g (eN g) (eQ g) k w) ∧ eRB (adU u (eN g) (eQ g) k w (g 0)) (adG g (eN g) (eQ g) k w) ∧ eRL (adU u (eN g) (eQ g) k w (g 0)) (adG g (eN g) (eQ g) k w) ∧ eInv B (adG g (eN g) (eQ g) k w) ∧
      eV (adG g (eN g) (eQ g) k w) = eV g ∧ eN (adG g (eN g) (eQ g) k w) = eN g + 1 ∧ eQ (adG g (eN g) (eQ g) k w) = eQ g + 1 ∧ (∀ i, i < 41 → i ≠ 13 → i ≠ 14 → adG g (eN g) (eQ g) k w i = g i) := by
  obtain ⟨S, G, Z⟩ := I
  have hnI := qa_nI (n := eN g) (by omega)
  have hqI := qa_nI (n := eQ g) (by omega)
  have z0 := Z.2.2.1
  obtain ⟨n, en⟩ : ∃ n, n = eN g := ⟨_, rfl⟩
  obtain ⟨q, eq⟩ : ∃ q, q = eQ g := ⟨_, rfl⟩
  rw [← en, ← eq]
  rw [← en] at hn hnI
  rw [← eq] at hq hqI
  obtain ⟨g', hg'⟩ : ∃ g', g' = adG g n q k w := ⟨_, rfl⟩
  rw [← hg']
  obtain ⟨U, hU⟩ : ∃ U, U = adU u n q k w (g 0) := ⟨_, rfl⟩
  rw [← hU]
  have oth : ∀ i, i ≠ 13 → i ≠ 14 → i ≠ 41 + q → (i < 61 + 7 * n ∨ 61 + 7 * n + 6 < i) → g' i = g i := by
    intro i q1 q2 q3 q4
    rw [hg']
    unfold adG
    rw [pk_un q2, pk_un q3, pk_un (by omega), pk_un (by omega), pk_un (by omega), pk_un (by omega), pk_un (by omega), pk_un (by omega), pk_un (by omega), pk_un q1]
  have hz : ∀ i, i < 41 → i ≠ 13 → i ≠ 14 → g' i = g i := fun i h1 h2 h3 => oth i h2 h3 (by omega) (by omega)
  have h13 : g' 13 = nI (n + 1) := by
    rw [hg']
    unfold adG
    rw [pk_un (by omega), pk_un (by omega), pk_un (by omega), pk_un (by omega), pk_un (by omega), pk_un (by omega), pk_un (by omega), pk_un (by omega), pk_un (by omega), pk_us]
  have h14 : g' 14 = nI (q + 1) := by
    rw [hg']
    unfold adG
    rw [pk_us]
  have hqq : g' (41 + q) = nI n := by
    rw [hg']
    unfold adG
    rw [pk_un (by omega), pk_us]
  have hqo : ∀ i, i < q → g' (41 + i) = g (41 + i) := fun i hi => oth _ (by omega) (by omega) (by omega) (by omega)
  have hN : eN g' = n + 1 := by
    unfold eN
    rw [h13, qa_ixn (by omega)]
  have hQ : eQ g' = q + 1 := by
    unfold eQ
    rw [h14, qa_ixn (by omega)]
  have n0 : eC g' n 0 = k := by
    rw [hg']
    unfold adG
    rw [eC_un (by omega), eC_un (by omega), eC_un (by omega), eC_un (by omega), eC_un (by omega), eC_un (by omega), eC_un (by omega), eC_un (by omega), eC_us]
  have n1 : eC g' n 1 = w := by
    rw [hg']
    unfold adG
    rw [eC_un (by omega), eC_un (by omega), eC_un (by omega), eC_un (by omega), eC_un (by omega), eC_un (by omega), eC_un (by omega), eC_us]
  have n2 : eC g' n 2 = 0 := by
    rw [hg']
    unfold adG
    rw [eC_un (by omega), eC_un (by omega), eC_un (by omega), eC_un (by omega), eC_un (by omega), eC_un (by omega), eC_us]
  have n3 : eC g' n 3 = (-1) := by
    rw [hg']
    unfold adG
    rw [eC_un (by omega), eC_un (by omega), eC_un (by omega), eC_un (by omega), eC_un (by omega), eC_us]
  have n4 : eC g' n 4 = g 0 := by
    rw [hg']
    unfold adG
    rw [eC_un (by omega), eC_un (by omega), eC_un (by omega), eC_un (by omega), eC_us]
  have n5 : eC g' n 5 = (-1) := by
    rw [hg']
    unfold adG
    rw [eC_un (by omega), eC_un (by omega), eC_un (by omega), eC_us]
  have n6 : eC g' n 6 = (-1) := by
    rw [hg']
    unfold adG
    rw [eC_un (by omega), eC_un (by omega), eC_us]
  have hCj : ∀ j, j < n → ∀ k, k < 7 → eC g' j k = eC g j k := fun j hj k hk => oth _ (by omega) (by omega) (by omega) (by omega)
  have hK : ∀ i, 29 ≤ i → i < 41 → g' i = g i := fun i h1 h2 => hz i (by omega) (by omega) (by omega)
  have hO : ∀ j, j < n → ∀ k, k < 3 → eO g' j k = eO g j k := fun j hj k hk => eO_c hK (hCj j hj 0 (by decide)) (G.1.2.2 j (by omega)) hk
  have hJ := fun (j : Nat) (hj : j < n) => eJ (g := g) (g' := g') (hCj j hj) (hO j hj 2 (by decide))
  have nn2 : ¬ eC g' n 2 = 2 := by rw [n2]; decide
  have nn1 : ¬ eC g' n 2 = 1 := by rw [n2]; decide
  have sm : ∀ (f f' : Nat → Int32), (∀ j, j < n → f' j = f j) → f' n = 0 → sI f' (n + 1) = sI f n := by
    intro f f' h1 h2
    show sI f' n + f' n = sI f n
    rw [h2, Int32.add_zero]
    exact sI_congr h1
  have hLd : eLd g' = eLd g := by
    unfold eLd
    rw [hN, ← en]
    exact sm _ _ (fun j hj => (hJ j hj).1) (by unfold eWd; rw [if_neg nn2])
  have hW : eW g' = eW g := by
    funext l
    unfold eW
    rw [hN, ← en]
    exact sm _ _ (fun j hj => (hJ j hj).2.1 l) (by unfold eWf; rw [if_neg (fun h => h.1.elim nn2 nn1)])
  have hL : eL g' = eL g := by
    funext l
    unfold eL
    rw [hN, ← en]
    exact sm _ _ (fun j hj => (hJ j hj).2.2.1 l) (by unfold eLf; rw [if_neg (fun h => h.1.elim nn2 nn1)])
  have hD : eD g' = eD g := by
    unfold eD
    rw [hN, ← en]
    exact sm _ _ (fun j hj => (hJ j hj).2.2.2.1) (by unfold eDf; rw [if_neg nn2])
  have hM : eM g' = eM g := by
    funext l
    unfold eM
    rw [hN, ← en]
    exact sm _ _ (fun j hj => (hJ j hj).2.2.2.2.1 l) (by unfold eMf; rw [if_neg (fun h => nn2 h.1)])
  have hA : ∀ l b, sI (eAf g' l b) (n + 1) = sI (eAf g l b) n := fun l b => sm _ _ (fun j hj => (hJ j hj).2.2.2.2.2.1 l b) (by unfold eAf; rw [if_neg (fun h => nn2 h.1.1)])
  have hT : eT g' = eT g := by
    funext t
    unfold eT eTr eTp
    rw [hz 15 (by omega) (by omega) (by omega), hz 16 (by omega) (by omega) (by omega), hz 17 (by omega) (by omega) (by omega)]
  have hV : eV g' = eV g := by
    funext t
    unfold eV
    rw [hT, hLd, hz 19 (by omega) (by omega) (by omega), hz 20 (by omega) (by omega) (by omega)]
  have uD : sD U = sD u := by
    rw [hU]
    unfold adU
    simp only [qs_C]
  have uO : sO U = sO u := by
    rw [hU]
    unfold adU
    simp only [qs_C]
  have uX : eX U = eX u := by
    funext a b
    unfold eX
    rw [uO]
  refine ⟨?_, ?_, ?_, ⟨?_, ?_, ?_⟩, hV, hN, hQ, hz⟩
  · obtain ⟨⟨h0, h1, h2, h3, h4, h5, h6, h7, h8, h9, h10, h11, h12, h13', h14'⟩, m1, m2, m3, m4, m5⟩ := RA
    unfold eRA
    rw [hQ, hN, hz 0 (by omega) (by omega) (by omega), hz 1 (by omega) (by omega) (by omega), hz 2 (by omega) (by omega) (by omega), hz 3 (by omega) (by omega) (by omega), hz 4 (by omega) (by omega) (by omega), hz 5 (by omega) (by omega) (by omega), hz 6 (by omega) (by omega) (by omega), hz 7 (by omega) (by omega) (by omega), hz 8 (by omega) (by omega) (by omega), hz 9 (by omega) (by omega) (by omega), hz 10 (by omega) (by omega) (by omega), hz 11 (by omega) (by omega) (by omega), hz 12 (by omega) (by omega) (by omega), h13, h14, hU]
    unfold adU
    simp (disch := omega) only [qs_C, pk_us, pk_un]
    refine ⟨⟨h0, trivial, trivial, h3, h4, h5, h6, h7, h8, h9, h10, h11, h12, h13', h14'⟩, fun i hi => ?_, fun i hi => ?_, fun i hi => ?_, fun i hi => ?_, fun i hi hj => ?_⟩
    · rw [hz (15 + i) (by omega) (by omega) (by omega)]
      exact m1 i hi
    · rw [hz (29 + i) (by omega) (by omega) (by omega)]
      exact m2 i hi
    · by_cases e : i = q
      · rw [e, pk_us, hqq]
      · rw [pk_un e, hqo i (by omega)]
        exact m3 i (by omega)
    · by_cases e6 : i = 7 * n + 6
      · rw [e6, pk_us, ← Nat.add_assoc]
        exact n6.symm
      rw [pk_un e6]
      by_cases e5 : i = 7 * n + 5
      · rw [e5, pk_us, ← Nat.add_assoc]
        exact n5.symm
      rw [pk_un e5]
      by_cases e4 : i = 7 * n + 4
      · rw [e4, pk_us, ← Nat.add_assoc]
        exact n4.symm
      rw [pk_un e4]
      by_cases e3 : i = 7 * n + 3
      · rw [e3, pk_us, ← Nat.add_assoc]
        exact n3.symm
      rw [pk_un e3]
      by_cases e2 : i = 7 * n + 2
      · rw [e2, pk_us, ← Nat.add_assoc]
        exact n2.symm
      rw [pk_un e2]
      by_cases e1 : i = 7 * n + 1
      · rw [e1, pk_us, ← Nat.add_assoc]
        exact n1.symm
      rw [pk_un e1]
      by_cases e0 : i = 7 * n + 0
      · rw [e0, pk_us, ← Nat.add_assoc]
        exact n0.symm
      rw [pk_un e0, oth (61 + i) (by omega) (by omega) (by omega) (by omega)]
      exact m4 i (by omega)
    · rw [oth (481 + i) (by omega) (by omega) (by omega) (by omega)]
      exact m5 i hi hj
  · unfold eRB
    rw [hD, hLd, hW, hL, hU]
    unfold adU
    simp (disch := omega) only [qs_C, pk_us, pk_un]
    exact RB
  · intro l hl
    obtain ⟨d, d1, d2, d3, d4, d5, d6⟩ := RL l hl
    rw [← en] at d4 d6
    rw [uD, uO, uX, hM, hN]
    refine ⟨d, d1, d2, d3, fun i hi => ?_, fun i j hij hj => ?_, fun c h1 h2 => ?_⟩
    · obtain ⟨v1, v2, v3, v4⟩ := d4 i hi
      refine ⟨v1, by omega, ?_, ?_⟩
      · unfold eAt
        rw [hCj _ v2 2 (by decide), hCj _ v2 3 (by decide)]
        exact v3
      · rw [hA, hCj _ v2 5 (by decide)]
        exact v4
    · rw [hCj _ (d4 i (by omega)).2.1 5 (by decide), hCj _ (d4 j hj).2.1 5 (by decide)]
      exact d5 i j hij hj
    · have hc : c < n := by
        by_cases e : c = n
        · rw [e] at h2
          exact absurd h2.1 nn2
        · omega
      unfold eAt at h2
      rw [hCj _ hc 2 (by decide), hCj _ hc 3 (by decide)] at h2
      exact d6 c hc h2
  · unfold eS
    rw [hz 15 (by omega) (by omega) (by omega), hz 16 (by omega) (by omega) (by omega), hz 17 (by omega) (by omega) (by omega), hz 18 (by omega) (by omega) (by omega), hz 19 (by omega) (by omega) (by omega), hz 20 (by omega) (by omega) (by omega), hz 21 (by omega) (by omega) (by omega), hz 22 (by omega) (by omega) (by omega), hz 23 (by omega) (by omega) (by omega), hz 24 (by omega) (by omega) (by omega), hz 25 (by omega) (by omega) (by omega), hz 26 (by omega) (by omega) (by omega), hz 27 (by omega) (by omega) (by omega), hz 28 (by omega) (by omega) (by omega)]
    refine ⟨S.1, fun d hd => ?_⟩
    have s2 := S.2 d hd
    unfold eK at s2 ⊢
    rw [hK _ (by omega) (by omega), hK _ (by omega) (by omega), hK _ (by omega) (by omega)]
    exact s2
  · obtain ⟨g1, g2, g3, g4, g5, g6, g7, g8⟩ := G
    have g13 := g1.2.1
    rw [← en] at g2 g3 g5 g7
    rw [← eq] at g5 g6 g7
    have g12 := g1.2.2
    rw [← en] at g12
    refine ⟨⟨by rw [h13, qa_nI (by omega)]; omega, by rw [h13, qa_nI (by omega)]; omega, ?_⟩, ?_, ?_, ?_, ?_, ?_, ?_, ?_⟩
    · rw [hN]
      intro c hc
      by_cases e : c = n
      · rw [e, n0]
        omega
      · rw [hCj c (by omega) 0 (by decide)]
        exact g12 c (by omega)
    · rw [hN, hz 0 (by omega) (by omega) (by omega), hz 4 (by omega) (by omega) (by omega)]
      intro c hc
      by_cases e : c = n
      · rw [e, n1, n2, n3, n4, n5, qa_m1]
        exact ⟨w0, w1, fun h => absurd h (by decide), fun h => absurd h (by decide), z0, Int.le_refl _, by omega, Or.inl rfl, fun _ => rfl, fun h => absurd h (by decide)⟩
      · have hc : c < n := by omega
        rw [hCj c hc 1 (by decide), hCj c hc 2 (by decide), hCj c hc 3 (by decide), hCj c hc 4 (by decide), hCj c hc 5 (by decide)]
        obtain ⟨a1, a2, a3, a4, a5, a6, a7, a8, a9, a10⟩ := g2 c hc
        refine ⟨a1, a2, a3, a4, a5, a6, a7, a8, a9, fun h1 h2 => ?_⟩
        rw [hCj _ (g3.resolve_left h2).2.1 5 (by decide)]
        exact a10 h1 h2
    · rw [hN, hz 4 (by omega) (by omega) (by omega)]
      rcases g3 with h | ⟨a, b, c⟩
      · exact Or.inl h
      · exact Or.inr ⟨a, by omega, by rw [hCj _ b 2 (by decide)]; exact c⟩
    · rw [h14, qa_nI (by omega)]
      omega
    · rw [hQ, hN]
      intro i hi
      by_cases e : i = q
      · rw [e, hqq, qa_ixn (by omega), hnI]
        exact ⟨by omega, by omega, n2⟩
      · obtain ⟨a, b, c⟩ := g5 i (by omega)
        rw [hqo i (by omega), hCj _ b 2 (by decide)]
        exact ⟨a, by omega, c⟩
    · rw [hQ]
      intro i j hij hj
      rw [hqo i (by omega)]
      by_cases e : j = q
      · rw [e, hqq]
        intro h
        have h1 := (g5 i (by omega)).2.1
        rw [h, qa_ixn (by omega)] at h1
        omega
      · rw [hqo j (by omega)]
        exact g6 i j hij (by omega)
    · rw [hQ, hN]
      intro c hc h
      by_cases e : c = n
      · exact ⟨q, by omega, by rw [e]; exact hqq⟩
      · rw [hCj c (by omega) 2 (by decide)] at h
        obtain ⟨i, i1, i2⟩ := g7 c (by omega) h
        exact ⟨i, by omega, by rw [hqo i i1]; exact i2⟩
    · rw [hL, hz 21 (by omega) (by omega) (by omega)]
      exact g8
  · unfold eZ
    rw [hz 0 (by omega) (by omega) (by omega), hz 1 (by omega) (by omega) (by omega), hz 2 (by omega) (by omega) (by omega), hz 3 (by omega) (by omega) (by omega), hz 4 (by omega) (by omega) (by omega), hz 5 (by omega) (by omega) (by omega), hz 8 (by omega) (by omega) (by omega), hz 12 (by omega) (by omega) (by omega)]
    exact Z
