/-! a car on the ramp: it drives, stands, comes on deck -/
theorem qx_30 {x y : Int32} {l d : Nat} (hx : x.toInt = (l : Int)) (hl : l < 3) (hy : y.toInt = (d : Int)) (hd : d < 100) : (x * 30 + y).toInt = ((30 * l + d : Nat) : Int) := by
  simp only [qa_ar, hx, hy, Int32.reduceToInt]
  omega
theorem qx_41 {j : Nat} (h : j < 100) : (41 + nI j).toInt = ((41 + j : Nat) : Int) := by
  have hI := qa_nI (n := j) (by omega)
  simp only [qa_ar, hI, Int32.reduceToInt]
  omega
theorem qx_42 {j : Nat} (h : j < 100) : ((41 + nI j) + 1).toInt = ((41 + j + 1 : Nat) : Int) := by
  have hI := qa_nI (n := j) (by omega)
  simp only [qa_ar, hI, Int32.reduceToInt]
  omega
theorem qx_40 {j : Nat} (h : j < 100) : (41 + nI (j + 1) - 1).toInt = ((41 + j : Nat) : Int) := by
  have hI := qa_nI (n := j + 1) (by omega)
  simp only [qa_ar, hI, Int32.reduceToInt]
  omega
theorem qx_481 {r : Int32} {s : Nat} (hs : s + 3 < 80) (e : r.toInt * 4 = (s : Int)) : (481 + 4 * r).toInt = ((481 + s : Nat) : Int) := by
  simp only [qa_ar, Int32.reduceToInt]
  omega
theorem eJ {g g' : Nat → Int32} {j : Nat} (h : ∀ k, k < 7 → eC g' j k = eC g j k) (hO : eO g' j 2 = eO g j 2) : eWd g' j = eWd g j ∧ (∀ l, eWf g' l j = eWf g l j) ∧ (∀ l, eLf g' l j = eLf g l j) ∧ eDf g' j = eDf g j ∧ (∀ l, eMf g' l j = eMf g l j) ∧ (∀ l b, eAf g' l b j = eAf g l b j) ∧ eBf g' j = eBf g j := by
  refine ⟨?_, fun l => ?_, fun l => ?_, ?_, fun l => ?_, fun l b => ?_, ?_⟩
  · unfold eWd
    rw [h 2 (by decide), h 1 (by decide)]
  · unfold eWf eFr
    rw [h 2 (by decide), h 1 (by decide), h 3 (by decide)]
  · unfold eLf eFr
    rw [h 2 (by decide), h 3 (by decide), hO]
  · unfold eDf
    rw [h 2 (by decide)]
  · unfold eMf eAt
    rw [h 2 (by decide), h 3 (by decide)]
  · unfold eAf eAt
    rw [h 2 (by decide), h 3 (by decide), h 5 (by decide)]
  · unfold eBf
    rw [h 5 (by decide)]
theorem eO_c {g g' : Nat → Int32} {j : Nat} (h : ∀ i, 29 ≤ i → i < 41 → g' i = g i) (h0 : eC g' j 0 = eC g j 0) (hd : 0 ≤ (eC g j 0).toInt ∧ (eC g j 0).toInt ≤ 3) {k : Nat} (hk : k < 3) : eO g' j k = eO g j k := by
  have h1 := qa_ixI hd.1
  unfold eO eK
  rw [h0]
  exact h _ (by omega) (by omega)
theorem eC_un {g : Nat → Int32} {c k i : Nat} {z : Int32} (h : 61 + 7 * c + k ≠ i) : eC (upd g i z) c k = eC g c k := pk_un h
theorem eC_us {g : Nat → Int32} {c k : Nat} {z : Int32} : eC (upd g (61 + 7 * c + k) z) c k = z := pk_us
theorem eRA_car {u : KS} {g : Nat → Int32} (R : eRA u g) (hq : eQ g ≤ 20) {c k : Nat} (hc : c < 60) (hk : k < 7) (z : Int32) : eRA (wA u (7 * c + k) z) (upd g (61 + 7 * c + k) z) := by
  have e : ∀ i, i < 61 → upd g (61 + 7 * c + k) z i = g i := fun i hi => pk_un (by omega)
  obtain ⟨k0, k1, k2, k3, k4, k5⟩ := R
  unfold eRA eQ eN
  rw [e 0 (by decide), e 1 (by decide), e 2 (by decide), e 3 (by decide), e 4 (by decide), e 5 (by decide), e 6 (by decide), e 7 (by decide), e 8 (by decide), e 9 (by decide), e 10 (by decide), e 11 (by decide), e 12 (by decide), e 13 (by decide), e 14 (by decide)]
  refine ⟨k0, fun i hi => ?_, fun i hi => ?_, fun i hi => ?_, fun i hi => ?_, fun i hi hj => ?_⟩
  · rw [e _ (by omega)]
    exact k1 i hi
  · rw [e _ (by omega)]
    exact k2 i hi
  · have hq' : ix (g 14) ≤ 20 := hq
    rw [e _ (by omega)]
    exact k3 i hi
  · show upd (sA u) (7 * c + k) z i = _
    by_cases q : i = 7 * c + k
    · rw [q, pk_us, ← Nat.add_assoc, pk_us]
    · rw [pk_un q, pk_un (by omega)]
      exact k4 i hi
  · rw [pk_un (by omega)]
    exact k5 i hi hj
theorem eRA_c2 {u : KS} {g : Nat → Int32} (R : eRA u g) (x : Int32) : eRA (wC u 2 x) g := by
  obtain ⟨⟨h0, h1, h2, h3, h4, h5, h6, h7, h8, h9, h10, h11, h12, h13, h14⟩, k1, k2, k3, k4, k5⟩ := R
  exact ⟨⟨h0, h1, h2, h3, h4, h5, h6, h7, h8, h9, h10, h11, h12, h13, h14⟩, k1, k2, k3, k4, k5⟩
theorem eRA_c7 {u : KS} {g : Nat → Int32} (R : eRA u g) (x : Int32) : eRA (wC u 7 x) g := by
  obtain ⟨⟨h0, h1, h2, h3, h4, h5, h6, h7, h8, h9, h10, h11, h12, h13, h14⟩, k1, k2, k3, k4, k5⟩ := R
  exact ⟨⟨h0, h1, h2, h3, h4, h5, h6, h7, h8, h9, h10, h11, h12, h13, h14⟩, k1, k2, k3, k4, k5⟩
theorem upd_sw (f : Nat → Int32) {i j : Nat} (h : i ≠ j) (x y : Int32) : upd (upd f i x) j y = upd (upd f j y) i x := by
  funext k
  unfold upd
  by_cases e : k = j
  · by_cases e2 : k = i
    · omega
    · rw [if_pos e, if_neg e2, if_pos e]
  · rw [if_neg e]
    by_cases e2 : k = i
    · rw [if_pos e2, if_pos e2]
    · rw [if_neg e2, if_neg e2, if_neg e]
theorem sb_carU {u : KS} {x y : Int32} (c k : Nat) (hx : x.toInt = (c : Int)) (hc : c < 60) (hy : y.toInt = (k : Int)) (hk : k < 7) : fX8_carFact x y u = some (sA u (7 * c + k)) := by
  have e : ((x * 7) + y).toInt = ((7 * c + k : Nat) : Int) := by
    simp only [qa_ar, hx, hy, Int32.reduceToInt]
    omega
  unfold fX8_carFact fX8_carFact_b0
  rw [if_neg (by rw [qa_lt, qa_0]; omega), if_neg (by rw [qa_le, e]; simp only [Int32.reduceToInt]; omega), qa_gi (by omega) (by omega), qa_ix e]
/-- the row behind a car's coming on deck -/
def bdG (g : Nat → Int32) : Nat → Int32 := upd (upd (upd (upd (upd g (61 + 7 * ix (g 4) + 2) 2) (61 + 7 * ix (g 4) + 6) (g 0)) 4 (-1)) 5 0) 9 (g 9 + 1)
theorem bd_g {g X : Nat → Int32} (e4 : g 4 = X 4) (h0 : 0 ≤ (X 4).toInt) (h1 : ix (X 4) < 60) : bnd (fX10_layCar (g 4) 2 2 X) (fun u96 => bnd (fX10_layCar (g 4) 6 (u96 0) u96) (fun u109 => some (upd (upd (upd u109 4 (-1)) 5 0) 9 (((upd (upd u109 4 (-1)) 5 0) 9) + 1)))) = some (bdG X) := by
  have hx := qa_ixI h0
  rw [e4, rb_layCar (ix (X 4)) 2 hx h1 qa_2 (by decide), qa_b, rb_layCar (ix (X 4)) 6 hx h1 qa_6 (by decide), qa_b, pk_un (by omega), pk_un (by omega), pk_un (by omega), pk_un (by omega), pk_un (by omega)]
  rfl
theorem bd_lane {g : Nat → Int32} (S : eS g) (G : eG g) {l c : Nat} (hl : l < 3) {d : Nat} (hd : d ≤ 30) (hm : eM g (nI l) = nI d) (hc : c < eN g) (h2 : eC g c 2 = 1) (h3 : eC g c 3 = nI l) : d < 30 := by
  have hn := G.1.n
  have s := S.1
  have e1 : sI (fun j => if j = c then 1 else eMf g (nI l) j) (eN g) = nI d + 1 := by
    rw [sI_up (f := eMf g (nI l)) (f' := fun j => if j = c then 1 else eMf g (nI l) j) hc (fun j _ hj => if_neg hj) (by unfold eMf; rw [if_neg (fun h => by rw [h.1] at h2; revert h2; decide)]), if_pos rfl]
    rw [← hm]
    rfl
  have e2 := sI_le (f := fun j => if j = c then 1 else eMf g (nI l) j) (f' := eLf g (nI l)) (n := eN g) (by omega) (fun j hj => by
    have ho := eO_bnd S G.1 hj
    show 0 ≤ (if j = c then (1 : Int32) else eMf g (nI l) j).toInt ∧ (if j = c then (1 : Int32) else eMf g (nI l) j).toInt ≤ (eLf g (nI l) j).toInt ∧ (eLf g (nI l) j).toInt ≤ 999
    by_cases e : j = c
    · rw [if_pos e, qa_1]
      unfold eLf
      rw [if_pos ⟨Or.inr (by rw [e]; exact h2), by rw [e]; exact h3⟩]
      omega
    · rw [if_neg e]
      unfold eMf eLf
      by_cases a : eAt g (nI l) j
      · rw [if_pos a, if_pos ⟨Or.inl a.1, a.2⟩, qa_1]
        omega
      · rw [if_neg a, qa_0]
        split
        · omega
        · rw [qa_0]
          omega)
  rw [e1, qa_add (by rw [qa_nI (by omega), qa_1]; omega) (by rw [qa_nI (by omega), qa_1]; omega), qa_nI (by omega), qa_1] at e2
  have h8 := G.2.2.2.2.2.2.2 l hl
  have : (sI (eLf g (nI l)) (eN g)).toInt = (eL g (nI l)).toInt := rfl
  omega
theorem bd_put {u : KS} {g : Nat → Int32} {B : Int} (R : eRel u g) (I : eInv B g) (h4 : ¬ g 4 = (-1)) : ∃ u', bnd (fX8_putOnDeck (g 4) u) (fun u107 => bnd (fX8_measureAll u107) (fun u111 => some u111)) = some u' ∧ eRel u' (bdG g) ∧ eInv B (bdG g) := by
  obtain ⟨RA, RB, RL, RH⟩ := R
  obtain ⟨S, G, Z⟩ := I
  have hn := G.1.n
  have hq := G.q
  obtain ⟨g1, g2, g3, g4, g5, g6, g7, g8⟩ := id G
  obtain ⟨x0, x1, x2⟩ := g3.resolve_left h4
  have hx := qa_ixI x0
  obtain ⟨c, hc⟩ : ∃ c, c = ix (g 4) := ⟨_, rfl⟩
  rw [← hc] at x1 x2 hx
  have e4 : g 4 = nI c := by rw [hc, qa_nIx x0]
  obtain ⟨w1, w2, w3, w4, w5, w6, w7, w8, w9, w10⟩ := g2 c x1
  obtain ⟨l1, l2, l3⟩ := w4 (Or.inl x2)
  obtain ⟨l, hl⟩ : ∃ l, l = ix (eC g c 3) := ⟨_, rfl⟩
  have hlI : (eC g c 3).toInt = (l : Int) := by rw [hl]; exact qa_ixI l1
  have hl3 : l < 3 := by omega
  have el : eC g c 3 = nI l := by rw [hl, qa_nIx l1]
  obtain ⟨d, d1, d2, d3, d4, d5, d6⟩ := RL l hl3
  have dlt := bd_lane S G hl3 d1 d3 x1 x2 el
  have hdI := qa_nI (n := d) (by omega)
  -- the class's state
  have i30 : ((eC g c 3) * 30 + nI d).toInt = ((30 * l + d : Nat) : Int) := qx_30 hlI hl3 hdI (by omega)
  have A1 : sA u (7 * c + 1) = eC g c 1 := by
    rw [RA.2.2.2.2.1 _ (by omega), ← Nat.add_assoc]
    rfl
  obtain ⟨U, hU⟩ : ∃ U, U = wC (wC (wC (wC (wC (wA (wA (wD (wO u (30 * l + d) (g 4)) l (nI d + 1)) (7 * c + 2) 2) (7 * c + 6) (g 0)) 7 (eLd g + eC g c 1)) 2 (eD g + 1)) 13 (g 9 + 1)) 8 (-1)) 9 0 := ⟨_, rfl⟩
  have E : fX8_putOnDeck (g 4) u = some U := by
    unfold fX8_putOnDeck fX8_putOnDeck_b0
    rw [sb_carFact RA G.1 c 3 hx x1 qa_3 (by decide), qa_b, if_neg (by rw [qa_lt, qa_0]; omega), if_neg (by rw [qa_le, qa_3]; omega), qa_gi (by omega) (by omega), ← hl, d2, if_neg (by rw [qa_lt, qa_0]; omega), qa_gi (by omega) (by omega),
      if_pos (by rw [qa_lt, hdI]; simp only [Int32.reduceToInt]; omega), qa_gi (by omega) (by omega), qa_gi (by omega) (by omega), qa_gi (by omega) (by omega), qa_gi (by omega) (by omega), qa_ix i30, sb_setCar c 2 hx (by omega) qa_2 (by decide), qa_b, sb_setCar c 6 hx (by omega) qa_6 (by decide), qa_b, sb_carU c 1 hx (by omega) qa_1 (by decide), qa_b]
    simp (disch := omega) only [qs_C, pk_us, pk_un]
    rw [A1, d2, RA.1.1, RB.1, RB.2.1, show sC u 13 = g 9 from RA.1.2.2.2.2.2.2.2.2.2.2.2.1, hU]
  -- the row behind it
  obtain ⟨g', hg'⟩ : ∃ g', g' = bdG g := ⟨_, rfl⟩
  have eg : g' = upd (upd (upd (upd (upd g (61 + 7 * c + 2) 2) (61 + 7 * c + 6) (g 0)) 9 (g 9 + 1)) 4 (-1)) 5 0 := by
    rw [hg', hc]
    unfold bdG
    rw [upd_sw _ (by decide : (9 : Nat) ≠ 4), upd_sw _ (by decide : (9 : Nat) ≠ 5)]
  have RA' : eRA U g' := by
    rw [hU, eg]
    refine eRA_9 (eRA_8 (eRA_13 (eRA_c2 (eRA_c7 (eRA_car (eRA_car (u := wD (wO u (30 * l + d) (g 4)) l (nI d + 1)) RA hq.2 (by omega) (by decide) 2) ?_ (by omega) (by decide) (g 0)) _) _) _) _) _
    show ix (upd g (61 + 7 * c + 2) 2 14) ≤ 20
    rw [pk_un (by omega)]
    exact hq.2
  have oth : ∀ i, i ≠ 61 + 7 * c + 2 → i ≠ 61 + 7 * c + 6 → i ≠ 4 → i ≠ 5 → i ≠ 9 → g' i = g i := by
    intro i q1 q2 q3 q4 q5
    rw [eg, pk_un q4, pk_un q3, pk_un q5, pk_un q2, pk_un q1]
  have hC2 : eC g' c 2 = 2 := by
    rw [eg, eC_un (by omega), eC_un (by omega), eC_un (by omega), eC_un (by omega), eC_us]
  have hCk : ∀ k, k < 7 → k ≠ 2 → k ≠ 6 → eC g' c k = eC g c k := fun k hk q1 q2 => oth _ (by omega) (by omega) (by omega) (by omega) (by omega)
  have hCj : ∀ j, j ≠ c → ∀ k, k < 7 → eC g' j k = eC g j k := fun j hj k hk => oth _ (by omega) (by omega) (by omega) (by omega) (by omega)
  have hK : ∀ i, 29 ≤ i → i < 41 → g' i = g i := fun i h1 h2 => oth i (by omega) (by omega) (by omega) (by omega) (by omega)
  have hN : eN g' = eN g := by
    unfold eN
    rw [oth 13 (by omega) (by omega) (by omega) (by omega) (by omega)]
  have hQ : eQ g' = eQ g := by
    unfold eQ
    rw [oth 14 (by omega) (by omega) (by omega) (by omega) (by omega)]
  have hO : ∀ j, j < eN g → ∀ k, k < 3 → eO g' j k = eO g j k := by
    intro j hj k hk
    refine eO_c hK ?_ (g1.2.2 j hj) hk
    by_cases q : j = c
    · rw [q]
      exact hCk 0 (by decide) (by decide) (by decide)
    · exact hCj j q 0 (by decide)
  have hJ := fun (j : Nat) (hj : j < eN g) (q : j ≠ c) => eJ (g := g) (g' := g') (hCj j q) (hO j hj 2 (by decide))
  have hc5 : eC g' c 5 = eC g c 5 := hCk 5 (by decide) (by decide) (by decide)
  have hc3 : eC g' c 3 = nI l := by rw [hCk 3 (by decide) (by decide) (by decide), el]
  have hc1 : eC g' c 1 = eC g c 1 := hCk 1 (by decide) (by decide) (by decide)
  have n2 : ¬ eC g c 2 = 2 := by
    rw [x2]
    decide
  have hLd : eLd g' = eLd g + eC g c 1 := by
    unfold eLd
    rw [hN, sI_up (f := eWd g) (f' := eWd g') x1 (fun j hj q => (hJ j hj q).1) (by unfold eWd; rw [if_neg n2])]
    unfold eWd
    rw [if_pos hC2, hc1]
  have hD : eD g' = eD g + 1 := by
    unfold eD
    rw [hN, sI_up (f := eDf g) (f' := eDf g') x1 (fun j hj q => (hJ j hj q).2.2.2.1) (by unfold eDf; rw [if_neg n2])]
    unfold eDf
    rw [if_pos hC2]
  have hFr : ∀ l', eFr g' l' c ↔ eFr g l' c := by
    intro l'
    unfold eFr
    rw [hC2, hc3, el, x2]
    exact ⟨fun h => ⟨Or.inr rfl, h.2⟩, fun h => ⟨Or.inl rfl, h.2⟩⟩
  have hW : ∀ l', eW g' l' = eW g l' := by
    intro l'
    unfold eW
    rw [hN]
    refine sI_same x1 (fun j hj q => (hJ j hj q).2.1 l') ?_
    unfold eWf
    rw [hc1]
    by_cases q : eFr g l' c
    · rw [if_pos q, if_pos ((hFr l').mpr q)]
    · rw [if_neg q, if_neg (fun h => q ((hFr l').mp h))]
  have hL : ∀ l', eL g' l' = eL g l' := by
    intro l'
    unfold eL
    rw [hN]
    refine sI_same x1 (fun j hj q => (hJ j hj q).2.2.1 l') ?_
    unfold eLf
    rw [hO c x1 2 (by decide)]
    by_cases q : eFr g l' c
    · rw [if_pos q, if_pos ((hFr l').mpr q)]
    · rw [if_neg q, if_neg (fun h => q ((hFr l').mp h))]
  have nA : ∀ l', ¬ eAt g l' c := fun l' h => n2 h.1
  have sX : ∀ l' i, l' < 3 → i < 30 → (l' = l → i ≠ d) → sO U (30 * l' + i) = sO u (30 * l' + i) := by
    intro l' i h1 h2 h3
    rw [hU]
    simp only [qs_C]
    refine pk_un (fun e => ?_)
    have : l' = l := by omega
    exact h3 this (by omega)
  have sDl : ∀ l', l' ≠ l → sD U l' = sD u l' := by
    intro l' q
    rw [hU]
    simp only [qs_C]
    exact pk_un q
  have a9 : ∀ c', c' < eN g → eC g c' 2 = 2 → eC g c' 5 < eC g c 5 := by
    intro c' h1 h2
    have := (g2 c' h1).2.2.2.2.2.2.2.2.2 h2 h4
    rw [← hc] at this
    exact this
  have RL' : eRL U g' := by
    intro l' hl'
    by_cases q : l' = l
    · subst q
      refine ⟨d + 1, by omega, ?_, ?_, ?_, ?_, ?_⟩
      · rw [hU]
        simp only [qs_C, pk_us]
        rw [nI_1]
      · unfold eM
        rw [hN, sI_up (f := eMf g (nI l')) (f' := eMf g' (nI l')) x1 (fun j hj q => (hJ j hj q).2.2.2.2.1 _) (by unfold eMf; rw [if_neg (nA _)]), ← nI_1, ← d3]
        unfold eMf
        rw [if_pos ⟨hC2, hc3⟩]
        rfl
      · intro i hi
        by_cases qi : i = d
        · subst qi
          have ex : eX U l' i = c := by
            unfold eX
            rw [hU]
            simp only [qs_C, pk_us]
            exact hc.symm
          rw [ex, hN]
          refine ⟨?_, x1, ⟨hC2, hc3⟩, ?_⟩
          · rw [hU]
            simp only [qs_C, pk_us]
            exact e4
          · rw [hc5, ← d3]
            refine sI_congr fun j hj => ?_
            unfold eAf eMf
            by_cases qj : j = c
            · subst qj
              rw [if_neg (fun h => absurd h.2 (by rw [hc5]; exact Int32.lt_irrefl)), if_neg (nA _)]
            · have at' : eAt g' (nI l') j ↔ eAt g (nI l') j := by
                unfold eAt
                rw [hCj j qj 2 (by decide), hCj j qj 3 (by decide)]
              by_cases qa : eAt g (nI l') j
              · rw [if_pos qa, if_pos ⟨at'.mpr qa, by rw [hCj j qj 5 (by decide)]; exact a9 j hj qa.1⟩]
              · rw [if_neg qa, if_neg (fun h => qa (at'.mp h.1))]
        · have hi' : i < d := by omega
          obtain ⟨k1, k2, k3, k4⟩ := d4 i hi'
          have ex : eX U l' i = eX u l' i := by
            unfold eX
            rw [sX l' i hl' (by omega) (fun _ => qi)]
          have ec : eX u l' i ≠ c := fun e => nA (nI l') (by rw [← e]; exact k3)
          rw [ex, hN, sX l' i hl' (by omega) (fun _ => qi)]
          refine ⟨k1, k2, ?_, ?_⟩
          · unfold eAt
            rw [hCj _ ec 2 (by decide), hCj _ ec 3 (by decide)]
            exact k3
          · rw [hCj _ ec 5 (by decide), ← k4]
            refine sI_same x1 (fun j hj q => (hJ j hj q).2.2.2.2.2.1 _ _) ?_
            unfold eAf
            rw [if_neg (fun h => ?_), if_neg (fun h => nA _ h.1)]
            have h := h.2
            rw [hc5] at h
            exact Int32.lt_asymm h (a9 _ k2 k3.1)
      · intro i j hij hj
        have exi : eX U l' i = eX u l' i := by
          unfold eX
          rw [sX l' i hl' (by omega) (fun _ => by omega)]
        obtain ⟨k1, k2, k3, k4⟩ := d4 i (by omega)
        have eci : eX u l' i ≠ c := fun e => nA (nI l') (by rw [← e]; exact k3)
        rw [exi, hCj _ eci 5 (by decide)]
        by_cases qj : j = d
        · have ex : eX U l' j = c := by
            unfold eX
            rw [hU, qj]
            simp only [qs_C, pk_us]
            exact hc.symm
          rw [ex, hc5]
          exact a9 _ k2 k3.1
        · have exj : eX U l' j = eX u l' j := by
            unfold eX
            rw [sX l' j hl' (by omega) (fun _ => qj)]
          obtain ⟨m1, m2, m3, m4⟩ := d4 j (by omega)
          have ecj : eX u l' j ≠ c := fun e => nA (nI l') (by rw [← e]; exact m3)
          rw [exj, hCj _ ecj 5 (by decide)]
          exact d5 i j hij (by omega)
      · intro c' h1 h2
        rw [hN] at h1
        by_cases qc : c' = c
        · refine ⟨d, by omega, ?_⟩
          unfold eX
          rw [hU, qc]
          simp only [qs_C, pk_us]
          exact hc.symm
        · unfold eAt at h2
          rw [hCj _ qc 2 (by decide), hCj _ qc 3 (by decide)] at h2
          obtain ⟨i, i1, i2⟩ := d6 c' h1 h2
          refine ⟨i, by omega, ?_⟩
          rw [← i2]
          unfold eX
          rw [sX l' i hl' (by omega) (fun _ => by omega)]
    · obtain ⟨d', r1, r2, r3, r4, r5, r6⟩ := RL l' hl'
      have nA' : ¬ eAt g' (nI l') c := by
        intro h
        have h := h.2
        rw [hc3] at h
        have := (nI_eq (by omega) (by omega)).mp h
        omega
      have ex : ∀ i, i < d' → eX U l' i = eX u l' i := by
        intro i hi
        unfold eX
        rw [sX l' i hl' (by omega) (fun e => absurd e q)]
      have ec : ∀ i, i < d' → eX u l' i ≠ c := fun i hi e => nA (nI l') (by rw [← e]; exact (r4 i hi).2.2.1)
      refine ⟨d', r1, by rw [sDl l' q]; exact r2, ?_, ?_, ?_, ?_⟩
      · unfold eM
        rw [hN, ← r3]
        refine sI_same x1 (fun j hj q => (hJ j hj q).2.2.2.2.1 _) ?_
        unfold eMf
        rw [if_neg nA', if_neg (nA _)]
      · intro i hi
        obtain ⟨k1, k2, k3, k4⟩ := r4 i hi
        rw [ex i hi, hN, sX l' i hl' (by omega) (fun e => absurd e q)]
        refine ⟨k1, k2, ?_, ?_⟩
        · unfold eAt
          rw [hCj _ (ec i hi) 2 (by decide), hCj _ (ec i hi) 3 (by decide)]
          exact k3
        · rw [hCj _ (ec i hi) 5 (by decide), ← k4]
          refine sI_same x1 (fun j hj q => (hJ j hj q).2.2.2.2.2.1 _ _) ?_
          unfold eAf
          rw [if_neg (fun h => nA' h.1), if_neg (fun h => nA _ h.1)]
      · intro i j hij hj
        rw [ex i (by omega), ex j hj, hCj _ (ec i (by omega)) 5 (by decide), hCj _ (ec j hj) 5 (by decide)]
        exact r5 i j hij hj
      · intro c' h1 h2
        rw [hN] at h1
        have qc : c' ≠ c := fun e => nA' (by rw [← e]; exact h2)
        unfold eAt at h2
        rw [hCj _ qc 2 (by decide), hCj _ qc 3 (by decide)] at h2
        obtain ⟨i, i1, i2⟩ := r6 c' h1 h2
        exact ⟨i, i1, by rw [ex i i1]; exact i2⟩
  have RB' : eRB U g' := by
    refine ⟨?_, ?_, fun l' hl' => ?_⟩
    · rw [hD, hU]
      simp (disch := omega) only [qs_C, pk_us, pk_un]
    · rw [hLd, hU]
      simp (disch := omega) only [qs_C, pk_us, pk_un]
    · rw [hW, hL, hU]
      simp only [qs_C]
      exact RB.2.2 l' hl'
  have hz : ∀ i, i < 61 → i ≠ 4 → i ≠ 5 → i ≠ 9 → g' i = g i := fun i h1 h2 h3 h4 => oth i (by omega) (by omega) h2 h3 h4
  have h4' : g' 4 = (-1) := by
    rw [eg, pk_un (by omega), pk_us]
  have h5' : g' 5 = 0 := by
    rw [eg, pk_us]
  have S' : eS g' := by
    unfold eS
    rw [hz 15 (by omega) (by omega) (by omega) (by omega), hz 16 (by omega) (by omega) (by omega) (by omega), hz 17 (by omega) (by omega) (by omega) (by omega), hz 18 (by omega) (by omega) (by omega) (by omega), hz 19 (by omega) (by omega) (by omega) (by omega), hz 20 (by omega) (by omega) (by omega) (by omega), hz 21 (by omega) (by omega) (by omega) (by omega), hz 22 (by omega) (by omega) (by omega) (by omega), hz 23 (by omega) (by omega) (by omega) (by omega), hz 24 (by omega) (by omega) (by omega) (by omega), hz 25 (by omega) (by omega) (by omega) (by omega), hz 26 (by omega) (by omega) (by omega) (by omega), hz 27 (by omega) (by omega) (by omega) (by omega), hz 28 (by omega) (by omega) (by omega) (by omega)]
    refine ⟨S.1, fun d hd => ?_⟩
    have s2 := S.2 d hd
    unfold eK at s2 ⊢
    rw [hK _ (by omega) (by omega), hK _ (by omega) (by omega), hK _ (by omega) (by omega)]
    exact s2
  have H' : eH g' := by
    unfold eH
    rw [hN, hz 13 (by omega) (by omega) (by omega) (by omega)]
    refine ⟨g1.1, g1.2.1, fun j hj => ?_⟩
    by_cases q : j = c
    · rw [q, hCk 0 (by decide) (by decide) (by decide)]
      exact g1.2.2 c x1
    · rw [hCj j q 0 (by decide)]
      exact g1.2.2 j hj
  have G' : eG g' := by
    refine ⟨H', ?_, Or.inl h4', ?_, ?_, ?_, ?_, ?_⟩
    · rw [hN, h4', hz 0 (by omega) (by omega) (by omega) (by omega)]
      intro j hj
      by_cases q : j = c
      · subst q
        rw [hC2, hc1, hc5, hCk 3 (by decide) (by decide) (by decide), hCk 4 (by decide) (by decide) (by decide)]
        exact ⟨w1, w2, fun h => absurd h (by decide), fun _ => ⟨l1, l2, l3⟩, w5, w6, w7, w8, fun h => absurd h (by decide), fun _ h => absurd rfl h⟩
      · obtain ⟨v1, v2, v3, v4, v5, v6, v7, v8, v9, v10⟩ := g2 j hj
        rw [hCj j q 1 (by decide), hCj j q 2 (by decide), hCj j q 3 (by decide), hCj j q 4 (by decide), hCj j q 5 (by decide)]
        refine ⟨v1, v2, fun h => ?_, v4, v5, v6, v7, v8, v9, fun _ h => absurd rfl h⟩
        have := v3 h
        rw [e4] at this
        exact absurd ((nI_eq (by omega) (by omega)).mp this).symm q
    · rw [hz 14 (by omega) (by omega) (by omega) (by omega)]
      exact g4
    · rw [hQ, hN]
      intro i hi
      obtain ⟨v1, v2, v3⟩ := g5 i hi
      rw [hz (41 + i) (by omega) (by omega) (by omega) (by omega)]
      refine ⟨v1, v2, ?_⟩
      rw [hCj _ (fun e => by rw [e, x2] at v3; revert v3; decide) 2 (by decide)]
      exact v3
    · rw [hQ]
      intro i j hij hj
      rw [hz (41 + i) (by omega) (by omega) (by omega) (by omega), hz (41 + j) (by omega) (by omega) (by omega) (by omega)]
      exact g6 i j hij hj
    · rw [hQ, hN]
      intro j hj h
      have q : j ≠ c := fun e => by
        rw [e, hC2] at h
        revert h
        decide
      rw [hCj j q 2 (by decide)] at h
      obtain ⟨i, i1, i2⟩ := g7 j hj h
      exact ⟨i, i1, by rw [hz (41 + i) (by omega) (by omega) (by omega) (by omega)]; exact i2⟩
    · intro l' hl'
      rw [hL, hz 21 (by omega) (by omega) (by omega) (by omega)]
      exact g8 l' hl'
  have Z' : eZ B g' := by
    obtain ⟨z1, z2, z3, z4, z5, z6, z7, z8, z9, z10, z11, z12, z13, z14⟩ := Z
    unfold eZ
    rw [hz 0 (by omega) (by omega) (by omega) (by omega), hz 1 (by omega) (by omega) (by omega) (by omega), hz 2 (by omega) (by omega) (by omega) (by omega), hz 3 (by omega) (by omega) (by omega) (by omega), hz 8 (by omega) (by omega) (by omega) (by omega), hz 12 (by omega) (by omega) (by omega) (by omega), h5']
    exact ⟨z1, z2, z3, z4, z5, z6, z7, z8, z9, z10, z11, z12, z13, fun _ => rfl⟩
  rw [E, qa_b, sb_measureAll RA' S' Z' RB'.2.1 G', qa_b, ← hg']
  exact ⟨_, rfl, ⟨RA'.d _ _ _, RB', RL', ⟨rfl, rfl, rfl⟩⟩, S', G', Z'⟩
