/-! copies of states; settings set anew; the gate; the crank -/
theorem eRel.cong {u : KS} {g g' : Nat → Int32} (R : eRel u g) (G : eG g) (h : ∀ i, i < 561 → g' i = g i) : eRel u g' := by
  obtain ⟨RA, RB, RL, RH⟩ := R
  have hn := G.1.n
  have hq := G.q
  have F : eF2 g g' := fun i h1 h2 => h i (by omega)
  refine ⟨?_, F.RB G.1 RB rfl rfl rfl rfl, F.RL G.1 RL rfl rfl, ?_⟩
  · obtain ⟨k0, k1, k2, k3, k4, k5⟩ := RA
    unfold eRA
    rw [F.Q, F.N, h 0 (by omega), h 1 (by omega), h 2 (by omega), h 3 (by omega), h 4 (by omega), h 5 (by omega), h 6 (by omega), h 7 (by omega), h 8 (by omega), h 9 (by omega), h 10 (by omega), h 11 (by omega), h 12 (by omega), h 13 (by omega), h 14 (by omega)]
    refine ⟨k0, fun i hi => ?_, fun i hi => ?_, fun i hi => ?_, fun i hi => ?_, fun i hi hj => ?_⟩
    · rw [h _ (by omega)]
      exact k1 i hi
    · rw [h _ (by omega)]
      exact k2 i hi
    · rw [h _ (by omega)]
      exact k3 i hi
    · rw [h _ (by omega)]
      exact k4 i hi
    · rw [h _ (by omega)]
      exact k5 i hi hj
  · unfold eRH eP eI
    rw [F.V G.1, h 0 (by omega), h 1 (by omega), h 18 (by omega)]
    exact RH
theorem eInv.cong {B : Int} {g g' : Nat → Int32} (I : eInv B g) (h : ∀ i, i < 561 → g' i = g i) : eInv B g' := by
  obtain ⟨S, G, Z⟩ := I
  have F : eF2 g g' := fun i h1 h2 => h i (by omega)
  refine ⟨F.S S, F.G (h 4 (by omega)) (by rw [h 0 (by omega)]; exact Int.le_refl _) G, ?_⟩
  unfold eZ
  rw [h 0 (by omega), h 1 (by omega), h 2 (by omega), h 3 (by omega), h 4 (by omega), h 5 (by omega), h 8 (by omega), h 12 (by omega)]
  exact Z
/-- alike as far as their rows go -/
def eCp (u v : KS) : Prop := (∀ i, i < 17 → sC u i = sC v i) ∧ (∀ i, i < 14 → sT u i = sT v i) ∧ (∀ i, i < 12 → sK u i = sK v i) ∧ (∀ i, i < 420 → sA u i = sA v i) ∧ (∀ i, i < 20 → sQ u i = sQ v i) ∧ (∀ i, i < 90 → sO u i = sO v i) ∧ (∀ i, i < 3 → sD u i = sD v i) ∧ (∀ i, i < 3 → sW u i = sW v i) ∧ (∀ i, i < 3 → sN u i = sN v i) ∧ (∀ i, i < 80 → sL u i = sL v i) ∧ sd u = sd v ∧ sp u = sp v ∧ si u = si v
theorem eRel.cp {u v : KS} {g : Nat → Int32} (R : eRel v g) (G : eG g) (h : eCp u v) : eRel u g := by
  obtain ⟨RA, RB, RL, RH⟩ := R
  have hn := G.1.n
  have hq := G.q
  obtain ⟨c1, c2, c3, c4, c5, c6, c7, c8, c9, c10, c11, c12, c13⟩ := h
  refine ⟨?_, ?_, ?_, ?_⟩
  · obtain ⟨k0, k1, k2, k3, k4, k5⟩ := RA
    unfold eRA
    rw [c1 0 (by omega), c1 1 (by omega), c1 3 (by omega), c1 4 (by omega), c1 5 (by omega), c1 6 (by omega), c1 8 (by omega), c1 9 (by omega), c1 10 (by omega), c1 11 (by omega), c1 12 (by omega), c1 13 (by omega), c1 14 (by omega), c1 15 (by omega), c1 16 (by omega)]
    refine ⟨k0, fun i hi => ?_, fun i hi => ?_, fun i hi => ?_, fun i hi => ?_, fun i hi hj => ?_⟩
    · rw [c2 i hi]
      exact k1 i hi
    · rw [c3 i hi]
      exact k2 i hi
    · rw [c5 i (by omega)]
      exact k3 i hi
    · rw [c4 i (by omega)]
      exact k4 i hi
    · rw [c10 i (by omega)]
      exact k5 i hi hj
  · unfold eRB
    rw [c1 2 (by omega), c1 7 (by omega)]
    refine ⟨RB.1, RB.2.1, fun l hl => ?_⟩
    rw [c8 l hl, c9 l hl]
    exact RB.2.2 l hl
  · intro l hl
    obtain ⟨d, d1, d2, d3, d4, d5, d6⟩ := RL l hl
    have eo : ∀ i, i < d → sO u (30 * l + i) = sO v (30 * l + i) := fun i hi => c6 _ (by omega)
    have ex : ∀ i, i < d → eX u l i = eX v l i := by
      intro i hi
      unfold eX
      rw [eo i hi]
    refine ⟨d, d1, by rw [c7 l hl]; exact d2, d3, fun i hi => ?_, fun i j hij hj => ?_, fun c h1 h2 => ?_⟩
    · rw [ex i hi, eo i hi]
      exact d4 i hi
    · rw [ex i (by omega), ex j hj]
      exact d5 i j hij hj
    · obtain ⟨i, i1, i2⟩ := d6 c h1 h2
      exact ⟨i, i1, by rw [ex i i1]; exact i2⟩
  · unfold eRH
    rw [c11, c12, c13]
    exact RH
theorem sb_copy (u v : KS) : ∃ w, fX8_copyFrom u v = some w ∧ eCp w v := by
  unfold fX8_copyFrom fX8_copyFrom_b0
  refine ⟨_, rfl, ?_⟩
  unfold eCp
  simp only [qs_A, qs_d]
  refine ⟨fun i hi => ?_, fun i hi => ?_, fun i hi => ?_, fun i hi => ?_, fun i hi => ?_, fun i hi => ?_, fun i hi => ?_, fun i hi => ?_, fun i hi => ?_, fun i hi => ?_, trivial, trivial, trivial⟩ <;>
  · rw [pk_cpy_in (by omega) (by omega)]
    simp
theorem rb_copy {x y : Int32} {n1 n2 : Nat} {f f2 : Nat → Int32} {a b : Nat} (hx : x.toInt = (a : Int)) (hy : y.toInt = (b : Int)) (h1 : a + 561 ≤ n1) (h2 : b + 561 ≤ n2) (hn : n1 < 100000 ∧ n2 < 100000) : fX10_copy x y n1 f n2 f2 = some (va_cpy f f2 a b 561) := by
  have h0 : (x, y, (0 : Int32), f2) = (x, y, nI 0, va_cpy f f2 a b 0) := by
    have : va_cpy f f2 a b 0 = f2 := funext fun i => pk_cpy_out (by omega)
    rw [this]
    rfl
  unfold fX10_copy fX10_copy_b0
  rw [h0]
  refine qa_lop0 (fun j => (x, y, nI j, va_cpy f f2 a b j)) 561 (by omega) (fun j hj k => ?_) (fun k => ?_)
  · show fX10_copy_b3 k x y (nI j) n1 f n2 (va_cpy f f2 a b j) = k (x, y, nI (j + 1), va_cpy f f2 a b (j + 1))
    have hI := qa_nI (n := j) (by omega)
    have ex : (x + nI j).toInt = ((a + j : Nat) : Int) := by rw [qa_add (by omega) (by omega)]; omega
    have ey : (y + nI j).toInt = ((b + j : Nat) : Int) := by rw [qa_add (by omega) (by omega)]; omega
    unfold fX10_copy_b3
    rw [if_neg (by rw [qa_le, hI]; simp only [Int32.reduceToInt]; omega), qa_gi (by omega) (by omega), qa_gi (by omega) (by omega), qa_ix ex, qa_ix ey, nI_1]
    have : upd (va_cpy f f2 a b j) (b + j) (f (a + j)) = va_cpy f f2 a b (j + 1) := by
      funext i
      by_cases e : i = b + j
      · rw [e, pk_us, pk_cpy_in (by omega) (by omega)]
        congr 1
        omega
      · rw [pk_un e]
        by_cases e2 : b ≤ i ∧ i < b + j
        · rw [pk_cpy_in e2.1 e2.2, pk_cpy_in e2.1 (by omega)]
        · rw [pk_cpy_out (by omega), pk_cpy_out (by omega)]
    rw [this]
  · show fX10_copy_b3 k x y (nI 561) n1 f n2 (va_cpy f f2 a b 561) = _
    unfold fX10_copy_b3
    rw [if_pos (by decide)]
/-- from the cars' number on alike, but for the winch's and the crossing's settings -/
def eE (g g' : Nat → Int32) : Prop := ∀ i, 13 ≤ i → i < 24 ∨ 29 ≤ i → g' i = g i
theorem eE.C {g g' : Nat → Int32} (h : eE g g') : eC g' = eC g := funext fun c => funext fun k => h _ (by omega) (by omega)
theorem eE.K {g g' : Nat → Int32} (h : eE g g') : eK g' = eK g := funext fun c => funext fun k => h _ (by omega) (by omega)
theorem eE.O {g g' : Nat → Int32} (h : eE g g') : eO g' = eO g := by
  funext c k
  unfold eO
  rw [h.C, h.K]
theorem eE.N {g g' : Nat → Int32} (h : eE g g') : eN g' = eN g := by
  unfold eN
  rw [h 13 (by omega) (by omega)]
theorem eE.Q {g g' : Nat → Int32} (h : eE g g') : eQ g' = eQ g := by
  unfold eQ
  rw [h 14 (by omega) (by omega)]
theorem eE.W {g g' : Nat → Int32} (h : eE g g') : eW g' = eW g := by
  funext l
  unfold eW
  rw [h.N]
  exact sI_congr fun j _ => by
    unfold eWf eFr
    rw [h.C]
theorem eE.L {g g' : Nat → Int32} (h : eE g g') : eL g' = eL g := by
  funext l
  unfold eL
  rw [h.N]
  exact sI_congr fun j _ => by
    unfold eLf eFr
    rw [h.C, h.O]
theorem eE.Ld {g g' : Nat → Int32} (h : eE g g') : eLd g' = eLd g := by
  unfold eLd
  rw [h.N]
  exact sI_congr fun j _ => by
    unfold eWd
    rw [h.C]
theorem eE.D {g g' : Nat → Int32} (h : eE g g') : eD g' = eD g := by
  unfold eD
  rw [h.N]
  exact sI_congr fun j _ => by
    unfold eDf
    rw [h.C]
theorem eE.M {g g' : Nat → Int32} (h : eE g g') : eM g' = eM g := by
  funext l
  unfold eM
  rw [h.N]
  exact sI_congr fun j _ => by
    unfold eMf eAt
    rw [h.C]
theorem eE.A {g g' : Nat → Int32} (h : eE g g') : eAf g' = eAf g := by
  funext l b c
  unfold eAf eAt
  rw [h.C]
theorem eE.B {g g' : Nat → Int32} (h : eE g g') : eBf g' = eBf g := by
  funext c
  unfold eBf
  rw [h.C]
theorem eE.T {g g' : Nat → Int32} (h : eE g g') : eT g' = eT g := by
  funext t
  unfold eT eTr eTp
  rw [h 15 (by omega) (by omega), h 16 (by omega) (by omega), h 17 (by omega) (by omega)]
theorem eE.V {g g' : Nat → Int32} (h : eE g g') : eV g' = eV g := by
  funext t
  unfold eV
  rw [h.T, h.Ld, h 19 (by omega) (by omega), h 20 (by omega) (by omega)]
theorem eE.H {g g' : Nat → Int32} (h : eE g g') (H : eH g) : eH g' := by
  unfold eH
  rw [h.N, h.C, h 13 (by omega) (by omega)]
  exact H
theorem eE.G {g g' : Nat → Int32} (h : eE g g') (h4 : g' 4 = g 4) (h0 : (g 0).toInt ≤ (g' 0).toInt) (G : eG g) : eG g' := by
  obtain ⟨g1, g2, g3, g4, g5, g6, g7, g8⟩ := G
  unfold eG
  rw [h.N, h.C, h.Q, h.L, h4, h 14 (by omega) (by omega), h 21 (by omega) (by omega)]
  refine ⟨h.H g1, fun c hc => ?_, g3, g4, fun i hi => ?_, fun i j hi hj => ?_, fun c hc e => ?_, g8⟩
  · obtain ⟨a1, a2, a3, a4, a5, a6, a7, a8⟩ := g2 c hc
    exact ⟨a1, a2, a3, a4, a5, by omega, by omega, a8⟩
  · rw [h (41 + i) (by omega) (by omega)]
    exact g5 i hi
  · rw [h (41 + i) (by omega) (by omega), h (41 + j) (by omega) (by omega)]
    exact g6 i j hi hj
  · obtain ⟨i, hi, e⟩ := g7 c hc e
    exact ⟨i, hi, by rw [h (41 + i) (by omega) (by omega)]; exact e⟩
theorem eE.RB {u u' : KS} {g g' : Nat → Int32} (h : eE g g') (B : eRB u g) (h2 : sC u' 2 = sC u 2) (h7 : sC u' 7 = sC u 7) (hW : sW u' = sW u) (hN : sN u' = sN u) : eRB u' g' := by
  unfold eRB
  rw [h.D, h.Ld, h.W, h.L, h2, h7, hW, hN]
  exact B
theorem eE.RL {u u' : KS} {g g' : Nat → Int32} (h : eE g g') (L : eRL u g) (hD : sD u' = sD u) (hO : sO u' = sO u) : eRL u' g' := by
  have e : eX u' = eX u := by
    funext l i
    unfold eX
    rw [hO]
  unfold eRL eAt
  rw [h.M, h.N, h.C, h.A, hD, hO, e]
  exact L
theorem st_rel {u u' : KS} {g g' : Nat → Int32} {B : Int} (R : eRel u g) (I : eInv B g) (h : ∀ i, i < 24 ∨ 29 ≤ i → g' i = g i) (hs : ∀ i, i < 14 → sT u' i = g' (15 + i)) (S' : eS g') (e : u' = wTA u (sT u')) : eRel u' g' ∧ eInv B g' := by
  obtain ⟨RA, RB, RL, RH⟩ := R
  obtain ⟨S, G, Z⟩ := I
  have F : eE g g' := fun i _ h1 => h i h1
  have cC : sC u' = sC u := by rw [e]; rfl
  have cK : sK u' = sK u := by rw [e]; rfl
  have cQ : sQ u' = sQ u := by rw [e]; rfl
  have cA : sA u' = sA u := by rw [e]; rfl
  have cL : sL u' = sL u := by rw [e]; rfl
  refine ⟨⟨?_, F.RB RB (by rw [cC]) (by rw [cC]) (by rw [e]; rfl) (by rw [e]; rfl), F.RL RL (by rw [e]; rfl) (by rw [e]; rfl), ?_⟩, ⟨S', F.G (h 4 (by omega)) (by rw [h 0 (by omega)]; exact Int.le_refl _) G, ?_⟩⟩
  · obtain ⟨k0, k1, k2, k3, k4, k5⟩ := RA
    unfold eRA
    rw [cC, cK, cQ, cA, cL, F.Q, F.N, h 0 (by omega), h 1 (by omega), h 2 (by omega), h 3 (by omega), h 4 (by omega), h 5 (by omega), h 6 (by omega), h 7 (by omega), h 8 (by omega), h 9 (by omega), h 10 (by omega), h 11 (by omega), h 12 (by omega), h 13 (by omega), h 14 (by omega)]
    refine ⟨k0, hs, fun i hi => ?_, fun i hi => ?_, fun i hi => ?_, fun i hi hj => ?_⟩
    · rw [h _ (by omega)]
      exact k2 i hi
    · rw [h _ (by omega)]
      exact k3 i hi
    · rw [h _ (by omega)]
      exact k4 i hi
    · rw [h _ (by omega)]
      exact k5 i hi hj
  · obtain ⟨r1, r2, r3⟩ := RH
    unfold eRH eP eI
    rw [F.V, h 0 (by omega), h 1 (by omega), h 18 (by omega), show sd u' = sd u by rw [e]; rfl, show sp u' = sp u by rw [e]; rfl, show si u' = si u by rw [e]; rfl]
    exact ⟨r1, r2, r3⟩
  · unfold eZ
    rw [h 0 (by omega), h 1 (by omega), h 2 (by omega), h 3 (by omega), h 4 (by omega), h 5 (by omega), h 8 (by omega), h 12 (by omega)]
    exact Z
theorem sw_rel {u : KS} {g : Nat → Int32} {B : Int} (R : eRel u g) (I : eInv B g) {a b c : Int32} (a0 : 1 ≤ a.toInt) (a1 : a.toInt ≤ 20) (b0 : 0 ≤ b.toInt) (b1 : b.toInt ≤ 50) (c0 : 0 ≤ c.toInt) (c1 : c.toInt ≤ 20) : eRel (wT (wT (wT u 9 a) 10 b) 11 c) (upd (upd (upd g 24 a) 25 b) 26 c) ∧ eInv B (upd (upd (upd g 24 a) 25 b) 26 c) := by
  have k1 := R.1.2.1
  have S := I.1
  refine st_rel R I (fun i h => by rw [pk_un (by omega), pk_un (by omega), pk_un (by omega)]) (fun i hi => ?_) ?_ rfl
  · show upd (upd (upd (sT u) 9 a) 10 b) 11 c i = _
    by_cases e2 : i = 11
    · rw [e2, pk_us, pk_us]
    rw [pk_un e2, pk_un (show 15 + i ≠ 26 by omega)]
    by_cases e1 : i = 10
    · rw [e1, pk_us, pk_us]
    rw [pk_un e1, pk_un (show 15 + i ≠ 25 by omega)]
    by_cases e0 : i = 9
    · rw [e0, pk_us, pk_us]
    rw [pk_un e0, pk_un (show 15 + i ≠ 24 by omega)]
    exact k1 i hi
  · obtain ⟨⟨s1, s2, s3, s4, s5, s6, s7, s8, s9, s10, s11, s12, s13, s14, s15, s16, s17, s18, s19, s20, s21, s22, s23, s24, s25, s26, s27⟩, s28⟩ := S
    refine ⟨⟨s1, s2, s3, s4, s5, s6, s7, s8, s9, s10, s11, s12, s13, s14, s15, s16, s17, a0, a1, b0, b1, c0, c1, s24, s25, s26, s27⟩, fun d hd => ?_⟩
    have := s28 d hd
    unfold eK at this ⊢
    rw [pk_un (by omega), pk_un (by omega), pk_un (by omega), pk_un (by omega), pk_un (by omega), pk_un (by omega), pk_un (by omega), pk_un (by omega), pk_un (by omega)]
    exact this
theorem sx_rel {u : KS} {g : Nat → Int32} {B : Int} (R : eRel u g) (I : eInv B g) {a b : Int32} (a0 : 1 ≤ a.toInt) (a1 : a.toInt ≤ 20) (b0 : 1 ≤ b.toInt) (b1 : b.toInt ≤ 50) : eRel (wT (wT u 12 a) 13 b) (upd (upd g 27 a) 28 b) ∧ eInv B (upd (upd g 27 a) 28 b) := by
  have k1 := R.1.2.1
  have S := I.1
  refine st_rel R I (fun i h => by rw [pk_un (by omega), pk_un (by omega)]) (fun i hi => ?_) ?_ rfl
  · show upd (upd (sT u) 12 a) 13 b i = _
    by_cases e1 : i = 13
    · rw [e1, pk_us, pk_us]
    rw [pk_un e1, pk_un (show 15 + i ≠ 28 by omega)]
    by_cases e0 : i = 12
    · rw [e0, pk_us, pk_us]
    rw [pk_un e0, pk_un (show 15 + i ≠ 27 by omega)]
    exact k1 i hi
  · obtain ⟨⟨s1, s2, s3, s4, s5, s6, s7, s8, s9, s10, s11, s12, s13, s14, s15, s16, s17, s18, s19, s20, s21, s22, s23, s24, s25, s26, s27⟩, s28⟩ := S
    refine ⟨⟨s1, s2, s3, s4, s5, s6, s7, s8, s9, s10, s11, s12, s13, s14, s15, s16, s17, s18, s19, s20, s21, s22, s23, a0, a1, b0, b1⟩, fun d hd => ?_⟩
    have := s28 d hd
    unfold eK at this ⊢
    rw [pk_un (by omega), pk_un (by omega), pk_un (by omega), pk_un (by omega), pk_un (by omega), pk_un (by omega)]
    exact this
theorem ga_rel {u : KS} {g : Nat → Int32} {B : Int} (R : eRel u g) (I : eInv B g) {a : Int32} (ha : a = 0 ∨ a = 1) : eRel (wC u 16 a) (upd g 12 a) ∧ eInv B (upd g 12 a) := by
  obtain ⟨S, G, z1, z2, z3, z4, z5, z6, z7, z8, z9, z10, z11, z12, z13, z14⟩ := I
  have F : eF g (upd g 12 a) := eF_upd g (by omega) _
  exact ⟨R.mv (eRA_16 R.1 a) F rfl rfl rfl rfl rfl rfl rfl rfl rfl rfl rfl, F.S S, F.G rfl (Int.le_refl _) G, z1, z2, z3, z4, z5, z6, z7, z8, z9, z10, z11, z12, ha, z14⟩
theorem ck_rel {u : KS} {g : Nat → Int32} {B : Int} (R : eRel u g) (I : eInv B g) (hB : B + 20 ≤ 100000000) {a : Int32} (a0 : -20 ≤ a.toInt) (a1 : a.toInt ≤ 20) : ∃ u', fX8_measureRamp (wC u 4 (sC u 4 + a)) = some u' ∧ eRel u' (upd g 1 (g 1 + a)) ∧ eInv (B + 20) (upd g 1 (g 1 + a)) := by
  obtain ⟨RA, RB, RL, RH⟩ := R
  obtain ⟨S, G, z1, z2, z3, z4, z5, z6, z7, z8, z9, z10, z11, z12, z13, z14⟩ := I
  have F : eF g (upd g 1 (g 1 + a)) := eF_upd g (by omega) _
  have c4 : sC u 4 = g 1 := RA.1.2.2.2.1
  have he : (g 1 + a).toInt = (g 1).toInt + a.toInt := qa_add (by omega) (by omega)
  have RA' : eRA (wC u 4 (sC u 4 + a)) (upd g 1 (g 1 + a)) := by
    rw [c4]
    exact eRA_4 RA _
  have S' := F.S S
  have G' : eG (upd g 1 (g 1 + a)) := F.G rfl (Int.le_refl _) G
  have Z' : eZ (B + 20) (upd g 1 (g 1 + a)) := ⟨by omega, hB, z3, by show (g 0).toInt ≤ _; omega, by show _ ≤ (g 1 + a).toInt; omega, by show (g 1 + a).toInt ≤ _; omega, z7, z8, z9, z10, z11, by show (g 8).toInt ≤ _; omega, z13, z14⟩
  have hd : sd (wC u 4 (sC u 4 + a)) = eV (upd g 1 (g 1 + a)) (upd g 1 (g 1 + a) 0) := by
    rw [F.V]
    exact RH.1
  obtain ⟨u', e1, e2⟩ := sb_measureRamp RA' S' Z' hd G'
  rw [e2] at e1
  exact ⟨_, e1, ⟨RA', F.RB RB rfl rfl rfl rfl, F.RL RL rfl rfl, hd, rfl, rfl⟩, S', G', Z'⟩
