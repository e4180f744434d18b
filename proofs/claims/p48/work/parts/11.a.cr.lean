/-! the crew's call, the queue's step, a tick -/
def eF2 (g g' : Nat → Int32) : Prop := ∀ i, 13 ≤ i → i < 481 → g' i = g i
theorem eF2.C {g g' : Nat → Int32} (h : eF2 g g') {c k : Nat} (hc : c < 60) (hk : k < 7) : eC g' c k = eC g c k := h _ (by omega) (by omega)
theorem eF2.N {g g' : Nat → Int32} (h : eF2 g g') : eN g' = eN g := by
  unfold eN
  rw [h 13 (by omega) (by omega)]
theorem eF2.Q {g g' : Nat → Int32} (h : eF2 g g') : eQ g' = eQ g := by
  unfold eQ
  rw [h 14 (by omega) (by omega)]
theorem eF2.O {g g' : Nat → Int32} (h : eF2 g g') (H : eH g) {c k : Nat} (hc : c < eN g) (hk : k < 3) : eO g' c k = eO g c k := by
  have hn := H.n
  exact eO_c (fun i h1 h2 => h i (by omega) (by omega)) (h.C (by omega) (by decide)) (H.2.2 c hc) hk
theorem eF2.T {g g' : Nat → Int32} (h : eF2 g g') : eT g' = eT g := by
  funext t
  unfold eT eTr eTp
  rw [h 15 (by omega) (by omega), h 16 (by omega) (by omega), h 17 (by omega) (by omega)]
theorem eF2.J {g g' : Nat → Int32} (h : eF2 g g') (H : eH g) {j : Nat} (hj : j < eN g) : eWd g' j = eWd g j ∧ (∀ l, eWf g' l j = eWf g l j) ∧ (∀ l, eLf g' l j = eLf g l j) ∧ eDf g' j = eDf g j ∧ (∀ l, eMf g' l j = eMf g l j) ∧ (∀ l b, eAf g' l b j = eAf g l b j) ∧ eBf g' j = eBf g j := by
  have hn := H.n
  exact eJ (fun k hk => h.C (by omega) hk) (h.O H hj (by decide))
theorem eF2.sums {g g' : Nat → Int32} (h : eF2 g g') (H : eH g) : eLd g' = eLd g ∧ eW g' = eW g ∧ eL g' = eL g ∧ eD g' = eD g ∧ eM g' = eM g ∧ eBg g' = eBg g ∧ (∀ l b, sI (eAf g' l b) (eN g) = sI (eAf g l b) (eN g)) := by
  refine ⟨?_, funext fun l => ?_, funext fun l => ?_, ?_, funext fun l => ?_, ?_, fun l b => ?_⟩
  · unfold eLd
    rw [h.N]
    exact sI_congr fun j hj => (h.J H hj).1
  · unfold eW
    rw [h.N]
    exact sI_congr fun j hj => (h.J H hj).2.1 l
  · unfold eL
    rw [h.N]
    exact sI_congr fun j hj => (h.J H hj).2.2.1 l
  · unfold eD
    rw [h.N]
    exact sI_congr fun j hj => (h.J H hj).2.2.2.1
  · unfold eM
    rw [h.N]
    exact sI_congr fun j hj => (h.J H hj).2.2.2.2.1 l
  · unfold eBg
    rw [h.N]
    exact sI_congr fun j hj => (h.J H hj).2.2.2.2.2.2
  · exact sI_congr fun j hj => (h.J H hj).2.2.2.2.2.1 l b
theorem eF2.V {g g' : Nat → Int32} (h : eF2 g g') (H : eH g) : eV g' = eV g := by
  funext t
  unfold eV
  rw [h.T, (h.sums H).1, h 19 (by omega) (by omega), h 20 (by omega) (by omega)]
theorem eF2.H {g g' : Nat → Int32} (h : eF2 g g') (H : eH g) : eH g' := by
  have hn := H.n
  unfold eH
  rw [h.N, h 13 (by omega) (by omega)]
  refine ⟨H.1, H.2.1, fun c hc => ?_⟩
  rw [h.C (by omega) (by decide)]
  exact H.2.2 c hc
theorem eF2.S {g g' : Nat → Int32} (h : eF2 g g') (S : eS g) : eS g' := by
  unfold eS
  rw [h 15 (by omega) (by omega), h 16 (by omega) (by omega), h 17 (by omega) (by omega), h 18 (by omega) (by omega), h 19 (by omega) (by omega), h 20 (by omega) (by omega), h 21 (by omega) (by omega), h 22 (by omega) (by omega), h 23 (by omega) (by omega), h 24 (by omega) (by omega), h 25 (by omega) (by omega), h 26 (by omega) (by omega), h 27 (by omega) (by omega), h 28 (by omega) (by omega)]
  refine ⟨S.1, fun d hd => ?_⟩
  have s2 := S.2 d hd
  unfold eK at s2 ⊢
  rw [h _ (by omega) (by omega), h _ (by omega) (by omega), h _ (by omega) (by omega)]
  exact s2
theorem eF2.G {g g' : Nat → Int32} (h : eF2 g g') (h4 : g' 4 = g 4) (h0 : (g 0).toInt ≤ (g' 0).toInt) (G : eG g) : eG g' := by
  have hn := G.1.n
  have hq := G.q
  obtain ⟨g1, g2, g3, g4, g5, g6, g7, g8⟩ := G
  unfold eG
  rw [h.N, h.Q, (h.sums g1).2.2.1, h4, h 14 (by omega) (by omega), h 21 (by omega) (by omega)]
  refine ⟨h.H g1, fun c hc => ?_, ?_, g4, fun i hi => ?_, fun i j hi hj => ?_, fun c hc e => ?_, g8⟩
  · obtain ⟨a1, a2, a3, a4, a5, a6, a7, a8, a9, a10⟩ := g2 c hc
    rw [h.C (by omega) (by decide), h.C (by omega) (by decide), h.C (by omega) (by decide), h.C (by omega) (by decide), h.C (by omega) (by decide)]
    refine ⟨a1, a2, a3, a4, a5, by omega, by omega, a8, a9, fun q1 q2 => ?_⟩
    have x1 := (g3.resolve_left q2).2.1
    rw [h.C (by omega) (by decide)]
    exact a10 q1 q2
  · rcases g3 with q | ⟨q1, q2, q3⟩
    · exact Or.inl q
    · refine Or.inr ⟨q1, q2, ?_⟩
      rw [h.C (by omega) (by decide)]
      exact q3
  · obtain ⟨q1, q2, q3⟩ := g5 i hi
    rw [h (41 + i) (by omega) (by omega), h.C (by omega) (by decide)]
    exact ⟨q1, q2, q3⟩
  · rw [h (41 + i) (by omega) (by omega), h (41 + j) (by omega) (by omega)]
    exact g6 i j hi hj
  · rw [h.C (by omega) (by decide)] at e
    obtain ⟨i, hi, e⟩ := g7 c hc e
    exact ⟨i, hi, by rw [h (41 + i) (by omega) (by omega)]; exact e⟩
theorem eF2.RB {u u' : KS} {g g' : Nat → Int32} (h : eF2 g g') (H : eH g) (B : eRB u g) (h2 : sC u' 2 = sC u 2) (h7 : sC u' 7 = sC u 7) (hW : sW u' = sW u) (hN : sN u' = sN u) : eRB u' g' := by
  obtain ⟨s1, s2, s3, s4, s5, s6, s7⟩ := h.sums H
  unfold eRB
  rw [s4, s1, s2, s3, h2, h7, hW, hN]
  exact B
theorem eF2.RL {u u' : KS} {g g' : Nat → Int32} (h : eF2 g g') (H : eH g) (L : eRL u g) (hD : sD u' = sD u) (hO : sO u' = sO u) : eRL u' g' := by
  have hn := H.n
  have e : eX u' = eX u := by
    funext l i
    unfold eX
    rw [hO]
  obtain ⟨s1, s2, s3, s4, s5, s6, s7⟩ := h.sums H
  intro l hl
  obtain ⟨d, d1, d2, d3, d4, d5, d6⟩ := L l hl
  rw [hD, hO, e, s5, h.N]
  refine ⟨d, d1, d2, d3, fun i hi => ?_, fun i j hij hj => ?_, fun c h1 h2 => ?_⟩
  · obtain ⟨k1, k2, k3, k4⟩ := d4 i hi
    unfold eAt
    rw [h.C (by omega) (by decide), h.C (by omega) (by decide), h.C (by omega) (by decide), s7]
    exact ⟨k1, k2, k3, k4⟩
  · have k1 := (d4 i (by omega)).2.1
    have k2 := (d4 j hj).2.1
    rw [h.C (by omega) (by decide), h.C (by omega) (by decide)]
    exact d5 i j hij hj
  · unfold eAt at h2
    rw [h.C (by omega) (by decide), h.C (by omega) (by decide)] at h2
    exact d6 c h1 h2
theorem kc_rel {u : KS} {g : Nat → Int32} {B : Int} (R : eRel u g) (I : eInv B g) (T : eU g) (hB : B + 1 ≤ 100000000) {s : Nat} (hs : s + 3 < 80) (e : (s : Int) = 4 * ((g 8).toInt % 20)) (x1 x2 x3 : Int32) :
    eRel (wC (kcU u s (g 0) x1 x2 x3 (g 8 + 1)) 11 0) (kcG g s x1 x2 x3) ∧ eInv (B + 1) (kcG g s x1 x2 x3) ∧ eU (kcG g s x1 x2 x3) ∧ eBg (kcG g s x1 x2 x3) = eBg g := by
  obtain ⟨RA, RB, RL, RH⟩ := R
  obtain ⟨S, G, Z⟩ := I
  have hn := G.1.n
  have hq := G.q
  obtain ⟨g', hg'⟩ : ∃ g', g' = kcG g s x1 x2 x3 := ⟨_, rfl⟩
  rw [← hg']
  have oth : ∀ i, i < 481 → i ≠ 7 → i ≠ 8 → g' i = g i := by
    intro i q1 q2 q3
    rw [hg']
    unfold kcG
    rw [pk_un q2, pk_un q3, pk_un (by omega), pk_un (by omega), pk_un (by omega), pk_un (by omega)]
  have F : eF2 g g' := fun i h1 h2 => oth i h2 (by omega) (by omega)
  have h7 : g' 7 = 0 := by
    rw [hg']
    unfold kcG
    rw [pk_us]
  have h8 : g' 8 = g 8 + 1 := by
    rw [hg']
    unfold kcG
    rw [pk_un (by omega), pk_us]
  obtain ⟨z1, z2, z3, z4, z5, z6, z7, z8, z9, z10, z11, z12, z13, z14⟩ := Z
  have h8I : (g 8 + 1).toInt = (g 8).toInt + 1 := by rw [qa_add (by rw [qa_1]; omega) (by rw [qa_1]; omega), qa_1]
  have hU : ∀ (f : Nat → Int32), True := fun _ => trivial
  have uC : sC (wC (kcU u s (g 0) x1 x2 x3 (g 8 + 1)) 11 0) = upd (upd (sC u) 12 (g 8 + 1)) 11 0 := by
    unfold kcU
    simp only [qs_C]
  have uL : sL (wC (kcU u s (g 0) x1 x2 x3 (g 8 + 1)) 11 0) = upd (upd (upd (upd (sL u) s (g 0)) (s + 1) x1) (s + 2) x2) (s + 3) x3 := by
    unfold kcU
    simp only [qs_C]
  refine ⟨⟨?_, F.RB G.1 RB (by rw [uC, pk_un (by omega), pk_un (by omega)]) (by rw [uC, pk_un (by omega), pk_un (by omega)]) rfl rfl, F.RL G.1 RL rfl rfl, ?_⟩, ⟨F.S S, F.G (oth 4 (by omega) (by omega) (by omega)) (by rw [oth 0 (by omega) (by omega) (by omega)]; exact Int.le_refl _) G, ?_⟩, ?_, (F.sums G.1).2.2.2.2.2.1⟩
  · obtain ⟨⟨h0, h1, h2, h3, h4, h5, h6, h7', h8', h9, h10, h11, h12, h13, h14⟩, k1, k2, k3, k4, k5⟩ := RA
    unfold eRA
    rw [uC, uL, F.Q, F.N, oth 0 (by omega) (by omega) (by omega), oth 1 (by omega) (by omega) (by omega), oth 2 (by omega) (by omega) (by omega), oth 3 (by omega) (by omega) (by omega), oth 4 (by omega) (by omega) (by omega), oth 5 (by omega) (by omega) (by omega), oth 6 (by omega) (by omega) (by omega), h7, h8, oth 9 (by omega) (by omega) (by omega), oth 10 (by omega) (by omega) (by omega), oth 11 (by omega) (by omega) (by omega), oth 12 (by omega) (by omega) (by omega), oth 13 (by omega) (by omega) (by omega), oth 14 (by omega) (by omega) (by omega)]
    simp (disch := omega) only [pk_us, pk_un]
    refine ⟨⟨h0, h1, h2, h3, h4, h5, h6, h7', h8', trivial, trivial, h11, h12, h13, h14⟩, fun i hi => ?_, fun i hi => ?_, fun i hi => ?_, fun i hi => ?_, fun i hi hj => ?_⟩
    · rw [oth (15 + i) (by omega) (by omega) (by omega)]
      exact k1 i hi
    · rw [oth (29 + i) (by omega) (by omega) (by omega)]
      exact k2 i hi
    · rw [oth (41 + i) (by omega) (by omega) (by omega)]
      exact k3 i hi
    · rw [oth (61 + i) (by omega) (by omega) (by omega)]
      exact k4 i hi
    · rw [h8I] at hj
      have g1 : kcG g s x1 x2 x3 (481 + i) = upd (upd (upd (upd g (481 + s) (g 0)) (481 + s + 1) x1) (481 + s + 2) x2) (481 + s + 3) x3 (481 + i) := by
        unfold kcG
        rw [pk_un (by omega), pk_un (by omega)]
      rw [hg', g1]
      by_cases q3 : i = s + 3
      · rw [q3, pk_us, show 481 + (s + 3) = 481 + s + 3 by omega, pk_us]
      rw [pk_un q3, pk_un (show 481 + i ≠ 481 + s + 3 by omega)]
      by_cases q2 : i = s + 2
      · rw [q2, pk_us, show 481 + (s + 2) = 481 + s + 2 by omega, pk_us]
      rw [pk_un q2, pk_un (show 481 + i ≠ 481 + s + 2 by omega)]
      by_cases q1 : i = s + 1
      · rw [q1, pk_us, show 481 + (s + 1) = 481 + s + 1 by omega, pk_us]
      rw [pk_un q1, pk_un (show 481 + i ≠ 481 + s + 1 by omega)]
      by_cases q0 : i = s
      · rw [q0, pk_us, pk_us]
      rw [pk_un q0, pk_un (show 481 + i ≠ 481 + s by omega)]
      exact k5 i hi (by omega)
  · obtain ⟨r1, r2, r3⟩ := RH
    unfold eRH eP eI
    rw [F.V G.1, oth 0 (by omega) (by omega) (by omega), oth 1 (by omega) (by omega) (by omega), oth 18 (by omega) (by omega) (by omega)]
    exact ⟨r1, r2, r3⟩
  · unfold eZ
    rw [oth 0 (by omega) (by omega) (by omega), oth 1 (by omega) (by omega) (by omega), oth 2 (by omega) (by omega) (by omega), oth 3 (by omega) (by omega) (by omega), h8, oth 12 (by omega) (by omega) (by omega), oth 4 (by omega) (by omega) (by omega), oth 5 (by omega) (by omega) (by omega)]
    exact ⟨by omega, hB, z3, by omega, by omega, by omega, z7, z8, z9, z10, by omega, by omega, z13, z14⟩
  · unfold eU
    rw [F.N, oth 0 (by omega) (by omega) (by omega)]
    intro c hc
    rw [F.C (by omega) (by decide)]
    exact T c hc
theorem kc_comm (u : KS) (p q c l : Nat) (w len t t' : Int32) (s : Nat) (x1 x2 x3 n : Int32) : wC (kcU (bgU u p q c l w len t) s t' x1 x2 x3 n) 11 0 = bgU (wC (kcU u s t' x1 x2 x3 n) 11 0) p q c l w len t := by
  refine Prod.ext ?_ rfl
  show upd (upd (upd (upd (upd (sC u) 1 (nI (q - 1))) 8 (nI c)) 11 0) 12 n) 11 0 = upd (upd (upd (upd (upd (sC u) 12 n) 11 0) 1 (nI (q - 1))) 8 (nI c)) 11 0
  funext i
  by_cases a : i = 11
  · rw [a, pk_us, pk_us]
  rw [pk_un a, pk_un a]
  by_cases b : i = 12
  · rw [b, pk_us, pk_un (by omega), pk_un (by omega), pk_un (by omega), pk_us]
  rw [pk_un b, pk_un a]
  by_cases d : i = 8
  · rw [d, pk_us, pk_us]
  rw [pk_un d, pk_un d]
  by_cases f : i = 1
  · rw [f, pk_us, pk_us]
  rw [pk_un f, pk_un f, pk_un a, pk_un b]
/-- whether a car began, from g to g' -/
def eBe (g g' : Nat → Int32) : Prop := eBg g' = eBg g ∧ g' 4 = g 4 ∨ ∃ c, c < eN g ∧ eC g c 2 = 0 ∧ eBg g' = eBg g + 1 ∧ g' 4 = nI c
theorem cr_sim {u : KS} {g : Nat → Int32} {B : Int} (R : eRel u g) (I : eInv B g) (T : eU g) (hB : B + 1 ≤ 100000000) (r : Int32) (hq0 : 0 < eQ g) : ∃ u' g', fX8_callCrew r u = some u' ∧ fX10_callCrew r g = some g' ∧ eRel u' g' ∧ eInv (B + 1) g' ∧ eBe g g' := by
  have hG := I.2.1
  have hS := I.1
  have hn := hG.1.n
  have hq := hG.q
  have RA := R.1
  have c1 : sC u 1 = g 14 := RA.1.2.1
  have c12 : sC u 12 = g 8 := RA.1.2.2.2.2.2.2.2.2.2.2.1
  have c0 : sC u 0 = g 0 := RA.1.1
  have q0 : sQ u 0 = g 41 := RA.2.2.2.1 0 hq0
  have z8 := I.2.2.2.2.2.2.2.2.2.2.2.2.1
  obtain ⟨s, s1, s2, s3⟩ := kc_spot z8
  have keep : ∀ (v : KS) x3, sC v 12 = g 8 → sC v 0 = g 0 → fX8_callCrew_b67 r (g 41) x3 v = some (wC (kcU v s (g 0) (g 41) r x3 (g 8 + 1)) 11 0) := by
    intro v x3 e1 e2
    unfold fX8_callCrew_b67
    rw [kc_u (by rw [e1]; exact z8) s1 (by rw [e1]; exact s2), qa_b, e1, e2]
  have hv : ∀ j, j < eQ g → 0 ≤ (g (41 + j)).toInt ∧ ix (g (41 + j)) < eN g := fun j hj => ⟨(hG.2.2.2.2.1 j hj).1, (hG.2.2.2.2.1 j hj).2.1⟩
  have i41 : ∀ j, j < 30 → (41 + nI j).toInt = ((41 + j : Nat) : Int) := fun j hj => qx_41 (by omega)
  -- a step past a car that can't begin
  have stU : ∀ j, 1 + j < eQ g → ¬ eY g (ix (g (41 + (1 + j)))) = 0 → ∀ k, fX8_callCrew_b12 k r (g 41) (-1) (nI (1 + j)) u = k (r, g 41, -1, nI (1 + (j + 1)), u) := by
    intro j hj hy k
    have hI := qa_nI (n := 1 + j) (by omega)
    have h1 := hv (1 + j) hj
    unfold fX8_callCrew_b12
    rw [c1, if_neg (by rw [qa_le]; omega), if_neg (by rw [qa_le, hI]; simp only [Int32.reduceToInt]; omega), qa_gi (by omega) (by omega), qa_ix hI, RA.2.2.2.1 _ hj, sb_reason RA R.2.1 R.2.2.2 hS hG (ix (g (41 + (1 + j)))) (qa_ixI h1.1) h1.2, qa_b, if_neg hy, nI_1]
    rfl
  have stG : ∀ j, 1 + j < eQ g → ∀ k, fX10_callCrew_b13 k r (g 41) (-1) (nI (1 + j)) g = k (r, g 41, if eY g (ix (g (41 + (1 + j)))) = 0 then g (41 + (1 + j)) else -1, nI (1 + (j + 1)), g) := by
    intro j hj k
    have hI := qa_nI (n := 1 + j) (by omega)
    have a1 := i41 (1 + j) (by omega)
    have h1 := hv (1 + j) hj
    unfold fX10_callCrew_b13 fX10_callCrew_b61
    rw [if_neg (by rw [qa_le]; omega), if_pos rfl, qa_gi (by omega) (by omega), qa_ix a1, rb_whyNot hS hG.1 (ix (g (41 + (1 + j)))) (qa_ixI h1.1) h1.2, qa_b, qa_gi (by omega) (by omega), nI_1]
    by_cases hy : eY g (ix (g (41 + (1 + j)))) = 0
    · rw [if_pos hy, if_pos hy]
      rfl
    · rw [if_neg hy, if_neg hy]
      rfl
  unfold fX8_callCrew fX8_callCrew_b0 fX10_callCrew fX10_callCrew_b0
  rw [q0]
  by_cases ex : ∃ i, i < eQ g - 1 ∧ eY g (ix (g (41 + (1 + i)))) = 0
  · obtain ⟨j0, k1, k2, k3⟩ := qa_first _ ex
    obtain ⟨c, l, b1, b2, b3, b4, b5, b6, b7, b8, b9⟩ := bg_sim R I T (p := 1 + j0) (by omega) k2
    obtain ⟨m1, m2, m3, m4⟩ := kc_rel R I T hB s1 s3 (g 41) r (g (41 + (1 + j0)))
    have F : eF2 g (kcG g s (g 41) r (g (41 + (1 + j0)))) := by
      intro i h1 h2
      unfold kcG
      rw [pk_un (by omega), pk_un (by omega), pk_un (by omega), pk_un (by omega), pk_un (by omega), pk_un (by omega)]
    have F0 : ∀ i, i < 13 → i ≠ 7 → i ≠ 8 → kcG g s (g 41) r (g (41 + (1 + j0))) i = g i := by
      intro i h1 h2 h3
      unfold kcG
      rw [pk_un h2, pk_un h3, pk_un (by omega), pk_un (by omega), pk_un (by omega), pk_un (by omega)]
    have eq41 : kcG g s (g 41) r (g (41 + (1 + j0))) (41 + (1 + j0)) = g (41 + (1 + j0)) := F _ (by omega) (by omega)
    obtain ⟨h4, hl⟩ := eY_0 k2
    rw [b2, qa_ixn (by omega)] at hl
    -- the kept row's own reading is the old one
    have hsum := F.sums hG.1
    have hEl : eLn (kcG g s (g 41) r (g (41 + (1 + j0)))) = eLn g := by
      funext len w j
      induction j with
      | zero => rfl
      | succ j ih =>
        show eSt _ len w (eLn _ len w j) (nI j) = eSt g len w (eLn g len w j) (nI j)
        rw [ih]
        unfold eSt eSu
        rw [hsum.2.1, hsum.2.2.1, F 21 (by omega) (by omega), F 23 (by omega) (by omega)]
    have hO2 : eO (kcG g s (g 41) r (g (41 + (1 + j0)))) c 2 = eO g c 2 := F.O hG.1 b1 (by decide)
    have hC1 : eC (kcG g s (g 41) r (g (41 + (1 + j0)))) c 1 = eC g c 1 := F.C (by omega) (by decide)
    obtain ⟨l', l1, l2⟩ := eLn_l hl
    have hll : nI l = nI l' := by
      have e1 := bg_u R hS hG (p := 1 + j0) (by omega) b1 b2 l1 l2
      have e2 := bg_g hG (p := 1 + j0) (by omega) b1 b2 l2
      rw [← b2] at e2
      rw [e2] at b5
      have b5 := Option.some.inj b5
      have h3 : eC (bgG g (1 + j0) (eQ g) c (nI l')) c 3 = eC (bgG g (1 + j0) (eQ g) c (nI l)) c 3 := by rw [b5]
      unfold bgG at h3
      rw [eC_un (by omega), eC_un (by omega), eC_un (by omega), eC_un (by omega), eC_us, eC_un (by omega), eC_un (by omega), eC_un (by omega), eC_un (by omega), eC_us] at h3
      exact h3.symm
    have e1 := bg_u R hS hG (p := 1 + j0) (by omega) b1 b2 l1 l2
    have l2' : eLn (kcG g s (g 41) r (g (41 + (1 + j0)))) (eO (kcG g s (g 41) r (g (41 + (1 + j0)))) c 2) (eC (kcG g s (g 41) r (g (41 + (1 + j0)))) c 1) 3 = nI l' := by
      rw [hEl, hO2, hC1]
      exact l2
    have hp' : 1 + j0 < eQ (kcG g s (g 41) r (g (41 + (1 + j0)))) := by
      rw [F.Q]
      omega
    have b2' : kcG g s (g 41) r (g (41 + (1 + j0))) (41 + (1 + j0)) = nI c := by rw [eq41]; exact b2
    have b1' : c < eN (kcG g s (g 41) r (g (41 + (1 + j0)))) := by rw [F.N]; exact b1
    obtain ⟨r1, r2, r3, r4⟩ := bg_rel m1 m2 m3 (by rw [F0 4 (by omega) (by omega) (by omega)]; exact h4) hp' b1' b2' l1 l2'
    have gg := bg_g m2.2.1 hp' b1' b2' l2'
    rw [hO2, hC1, F.Q, F0 0 (by omega) (by omega) (by omega)] at r1
    rw [F.Q] at r2 r3 r4 gg
    have neg1 : ¬ g (41 + (1 + j0)) = (-1) := by
      intro h
      have h := congrArg Int32.toInt h
      rw [qa_m1] at h
      have := (hv (1 + j0) (by omega)).1
      omega
    refine ⟨wC (kcU (bgU u (1 + j0) (eQ g) c l' (eC g c 1) (eO g c 2) (g 0)) s (g 0) (g 41) r (g (41 + (1 + j0))) (g 8 + 1)) 11 0, bgG (kcG g s (g 41) r (g (41 + (1 + j0)))) (1 + j0) (eQ g) c (nI l'), ?_, ?_, ?_, r2, Or.inr ⟨c, b1, b3, ?_, ?_⟩⟩
    · refine qa_lop0 (fun j => (r, g 41, (-1), nI (1 + j), u)) j0 (by omega) (fun j hj k => stU j (by omega) (k3 j hj) k) (fun k => ?_)
      show fX8_callCrew_b12 k r (g 41) (-1) (nI (1 + j0)) u = _
      have hI := qa_nI (n := 1 + j0) (by omega)
      have h1 := hv (1 + j0) (by omega)
      unfold fX8_callCrew_b12
      rw [c1, if_neg (by rw [qa_le]; omega), if_neg (by rw [qa_le, hI]; simp only [Int32.reduceToInt]; omega), qa_gi (by omega) (by omega), qa_ix hI, RA.2.2.2.1 _ (by omega), sb_reason RA R.2.1 R.2.2.2 hS hG (ix (g (41 + (1 + j0)))) (qa_ixI h1.1) h1.2, qa_b, if_pos k2, qa_gi (by omega) (by omega), e1, qa_b]
      exact keep _ _ (by unfold bgU; simp (disch := omega) only [qs_C, qs_A, pk_us, pk_un]; exact c12) (by unfold bgU; simp (disch := omega) only [qs_C, qs_A, pk_us, pk_un]; exact c0)
    · refine qa_lop0 (fun j => (r, g 41, (if j ≤ j0 then (-1) else g (41 + (1 + j0))), nI (1 + j), g)) (j0 + 1) (by omega) (fun j hj k => ?_) (fun k => ?_)
      · show fX10_callCrew_b13 k r (g 41) (if j ≤ j0 then (-1) else g (41 + (1 + j0))) (nI (1 + j)) g = k (r, g 41, (if j + 1 ≤ j0 then (-1) else g (41 + (1 + j0))), nI (1 + (j + 1)), g)
        rw [if_pos (by omega), stG j (by omega) k]
        by_cases q : j = j0
        · subst q
          rw [if_pos k2, if_neg (by omega)]
        · rw [if_neg (k3 j (by omega)), if_pos (by omega)]
      · show fX10_callCrew_b13 k r (g 41) (if j0 + 1 ≤ j0 then (-1) else g (41 + (1 + j0))) (nI (1 + (j0 + 1))) g = _
        have hb := kc_g (g := g) (x1 := r) (x2 := g 41) (x3 := g (41 + (1 + j0))) s1 s2
        rw [if_neg neg1] at hb
        rw [if_neg (by omega)]
        unfold fX10_callCrew_b13
        rw [if_neg neg1, hb]
        have hb2 : fX10_beginToDrive (g (41 + (1 + j0))) (kcG g s (g 41) r (g (41 + (1 + j0)))) = some (bgG (kcG g s (g 41) r (g (41 + (1 + j0)))) (1 + j0) (eQ g) c (nI l')) := by
          rw [← gg, ← b2]
        rw [hb2]
        split <;> rfl
    · rw [kc_comm]
      exact r1
    · unfold eBg
      rw [r4, r3]
      have := m4
      unfold eBg at this
      rw [this]
    · unfold bgG
      rw [pk_un (by omega), pk_un (by omega), pk_us]
  · have ex' : ∀ j, j < eQ g - 1 → ¬ eY g (ix (g (41 + (1 + j)))) = 0 := fun j hj h => ex ⟨j, hj, h⟩
    obtain ⟨m1, m2, m3, m4⟩ := kc_rel R I T hB s1 s3 (g 41) r (-1)
    refine ⟨_, _, ?_, ?_, m1, m2, Or.inl ⟨m4, ?_⟩⟩
    · refine qa_lop0 (fun j => (r, g 41, (-1), nI (1 + j), u)) (eQ g - 1) (by omega) (fun j hj k => stU j (by omega) (ex' j hj) k) (fun k => ?_)
      show fX8_callCrew_b12 k r (g 41) (-1) (nI (1 + (eQ g - 1))) u = _
      have hI := qa_nI (n := 1 + (eQ g - 1)) (by omega)
      unfold fX8_callCrew_b12
      rw [c1, if_pos (by rw [qa_le]; omega)]
      exact keep u _ c12 c0
    · refine qa_lop0 (fun j => (r, g 41, (-1), nI (1 + j), g)) (eQ g - 1) (by omega) (fun j hj k => ?_) (fun k => ?_)
      · show fX10_callCrew_b13 k r (g 41) (-1) (nI (1 + j)) g = _
        rw [stG j (by omega) k, if_neg (ex' j hj)]
      · show fX10_callCrew_b13 k r (g 41) (-1) (nI (1 + (eQ g - 1))) g = _
        have hI := qa_nI (n := 1 + (eQ g - 1)) (by omega)
        unfold fX10_callCrew_b13
        rw [if_pos (by rw [qa_le]; omega), kc_g s1 s2, if_pos rfl]
    · unfold kcG
      rw [pk_un (by omega), pk_un (by omega), pk_un (by omega), pk_un (by omega), pk_un (by omega), pk_un (by omega)]
theorem eBe.of {g g1 g' : Nat → Int32} (h : eBe g1 g') (F : eF g g1) (h4 : g1 4 = g 4) : eBe g g' := by
  unfold eBe at h ⊢
  rw [F.Bg, h4, F.N, F.C] at h
  exact h
theorem aq_sim {u : KS} {g : Nat → Int32} {B : Int} (R : eRel u g) (I : eInv B g) (T : eU g) (hB : B + 1 ≤ 100000000) : ∃ u' g', fX8_runQueue u = some u' ∧ fX10_tickOnce_b28 g = some g' ∧ eRel u' g' ∧ eInv (B + 1) g' ∧ eBe g g' := by
  have hG := I.2.1
  have hS := I.1
  have hn := hG.1.n
  have hq := hG.q
  have RA := R.1
  have c1 : sC u 1 = g 14 := RA.1.2.1
  have c8 : sC u 8 = g 4 := RA.1.2.2.2.2.2.2.1
  have c11 : sC u 11 = g 7 := RA.1.2.2.2.2.2.2.2.2.2.1
  have t13 : sT u 13 = g 28 := RA.2.1 13 (by decide)
  have same : ∃ u' g', some u = some u' ∧ some g = some g' ∧ eRel u' g' ∧ eInv (B + 1) g' ∧ eBe g g' := ⟨u, g, rfl, rfl, R, I.mono (by omega) hB, Or.inl ⟨rfl, rfl⟩⟩
  unfold fX8_runQueue fX8_runQueue_b0 fX10_tickOnce_b28
  rw [c8, c1]
  by_cases e4 : g 4 = (-1)
  · rw [if_pos e4, if_pos e4]
    by_cases eq : eQ g = 0
    · rw [if_neg (by rw [qa_le, qa_1]; omega), if_pos (by rw [qa_le, qa_0]; omega)]
      exact same
    · rw [if_pos (by rw [qa_le, qa_1]; omega), if_neg (by rw [qa_le, qa_0]; omega)]
      have hq0 : 0 < eQ g := by omega
      have q0 : sQ u 0 = g 41 := RA.2.2.2.1 0 hq0
      obtain ⟨v1, v2, v3⟩ := hG.2.2.2.2.1 0 hq0
      have v1 : 0 ≤ (g 41).toInt := v1
      have v2 : ix (g 41) < eN g := v2
      unfold fX10_admit fX10_admit_b0
      rw [q0, sb_reason RA R.2.1 R.2.2.2 hS hG (ix (g 41)) (qa_ixI v1) v2, qa_b, rb_whyNot hS hG.1 (ix (g 41)) (qa_ixI v1) v2, qa_b]
      by_cases y0 : eY g (ix (g 41)) = 0
      · obtain ⟨c, l, b1, b2, b3, b4, b5, b6, b7, b8, b9⟩ := bg_sim R I T (p := 0) hq0 y0
        have b4 : fX8_begin 0 u = _ := b4
        have b5 : fX10_beginToDrive (g 41) g = _ := b5
        rw [if_pos y0, if_pos y0, b4, b5, qa_b, qa_b, qa_b]
        exact ⟨_, _, rfl, rfl, b6, b7.mono (by omega) hB, Or.inr ⟨c, b1, b3, b8, b9⟩⟩
      · rw [if_neg y0, if_neg y0]
        by_cases y1 : eY g (ix (g 41)) = 1
        · rw [if_pos y1, if_pos y1, qa_b]
          exact same
        · rw [if_neg y1, if_neg y1]
          have F : eF g (upd g 7 (g 7 + 1)) := eF_upd g (by omega) _
          have R' : eRel (wC u 11 (g 7 + 1)) (upd g 7 (g 7 + 1)) := R.mv (eRA_11 RA _) F rfl rfl rfl rfl rfl rfl rfl rfl rfl rfl rfl
          have I' : eInv B (upd g 7 (g 7 + 1)) := ⟨F.S hS, F.G rfl (Int.le_refl _) hG, I.2.2⟩
          have T' : eU (upd g 7 (g 7 + 1)) := F.U rfl T
          rw [c11, show sC (wC u 11 (g 7 + 1)) 11 = g 7 + 1 by simp only [qs_C, pk_us], show sT (wC u 11 (g 7 + 1)) 13 = g 28 from t13, pk_us, pk_un (by omega)]
          by_cases w : g 7 + 1 < g 28
          · rw [if_pos w, if_pos w, qa_b]
            exact ⟨_, _, rfl, rfl, R', I'.mono (by omega) hB, Or.inl ⟨F.Bg, rfl⟩⟩
          · rw [if_neg w, if_neg w]
            obtain ⟨u', g', k1, k2, k3, k4, k5⟩ := cr_sim R' I' T' hB (eY g (ix (g 41))) (by rw [F.Q]; exact hq0)
            rw [k1, k2, qa_b, qa_b, qa_b]
            exact ⟨_, _, rfl, rfl, k3, k4, k5.of F rfl⟩
  · rw [if_neg e4, if_neg e4]
    exact same
