/-! the class's State beside the reference's row; the class's readers as the same plain values -/
def eX (u : KS) (l i : Nat) : Nat := ix (sO u (30 * l + i))
/-- what both hold alike -/
def eRA (u : KS) (g : Nat → Int32) : Prop :=
  (sC u 0 = g 0 ∧ sC u 1 = g 14 ∧ sC u 3 = g 13 ∧ sC u 4 = g 1 ∧ sC u 5 = g 2 ∧ sC u 6 = g 3 ∧ sC u 8 = g 4 ∧ sC u 9 = g 5 ∧ sC u 10 = g 6 ∧ sC u 11 = g 7 ∧ sC u 12 = g 8 ∧ sC u 13 = g 9 ∧ sC u 14 = g 10 ∧ sC u 15 = g 11 ∧ sC u 16 = g 12) ∧
  (∀ i, i < 14 → sT u i = g (15 + i)) ∧ (∀ i, i < 12 → sK u i = g (29 + i)) ∧ (∀ i, i < eQ g → sQ u i = g (41 + i)) ∧ (∀ i, i < 7 * eN g → sA u i = g (61 + i)) ∧ (∀ i : Nat, i < 80 → (i : Int) < 4 * (g 8).toInt → sL u i = g (481 + i))
/-- the sums that the class keeps -/
def eRB (u : KS) (g : Nat → Int32) : Prop := sC u 2 = eD g ∧ sC u 7 = eLd g ∧ ∀ l, l < 3 → sW u l = eW g (nI l) ∧ sN u l = eL g (nI l)
/-- the cars of a lane, as the class keeps them -/
def eRL (u : KS) (g : Nat → Int32) : Prop := ∀ l, l < 3 → ∃ d : Nat, d ≤ 30 ∧ sD u l = nI d ∧ eM g (nI l) = nI d ∧
  (∀ i, i < d → sO u (30 * l + i) = nI (eX u l i) ∧ eX u l i < eN g ∧ eAt g (nI l) (eX u l i) ∧ sI (eAf g (nI l) (eC g (eX u l i) 5)) (eN g) = nI i) ∧
  (∀ i j, i < j → j < d → eC g (eX u l i) 5 < eC g (eX u l j) 5) ∧
  (∀ c, c < eN g → eAt g (nI l) c → ∃ i, i < d ∧ eX u l i = c)
/-- the heights that the class keeps -/
def eRH (u : KS) (g : Nat → Int32) : Prop := sd u = eV g (g 0) ∧ sp u = eP g ∧ si u = eI g
/-- the cars' own order -/
def eG (g : Nat → Int32) : Prop := eH g ∧
  (∀ c, c < eN g → 1 ≤ (eC g c 1).toInt ∧ (eC g c 1).toInt ≤ 999 ∧ (eC g c 2 = 1 → g 4 = nI c) ∧
    (eC g c 2 = 1 ∨ eC g c 2 = 2 → 0 ≤ (eC g c 3).toInt ∧ (eC g c 3).toInt ≤ 2 ∧ 0 ≤ (eC g c 5).toInt) ∧
    0 ≤ (eC g c 4).toInt ∧ (eC g c 4).toInt ≤ (g 0).toInt ∧ (eC g c 5).toInt ≤ (g 0).toInt ∧
    (eC g c 5 = (-1) ∨ (eC g c 4).toInt ≤ (eC g c 5).toInt) ∧ (eC g c 2 = 0 → eC g c 5 = (-1)) ∧ (eC g c 2 = 2 → ¬ g 4 = (-1) → eC g c 5 < eC g (ix (g 4)) 5)) ∧
  (g 4 = (-1) ∨ 0 ≤ (g 4).toInt ∧ ix (g 4) < eN g ∧ eC g (ix (g 4)) 2 = 1) ∧
  (0 ≤ (g 14).toInt ∧ (g 14).toInt ≤ 20) ∧
  (∀ i, i < eQ g → 0 ≤ (g (41 + i)).toInt ∧ ix (g (41 + i)) < eN g ∧ eC g (ix (g (41 + i))) 2 = 0) ∧
  (∀ i j, i < j → j < eQ g → ¬ g (41 + i) = g (41 + j)) ∧
  (∀ c, c < eN g → eC g c 2 = 0 → ∃ i, i < eQ g ∧ g (41 + i) = nI c) ∧
  (∀ l, l < 3 → (eL g (nI l)).toInt ≤ (g 21).toInt)
/-- the other numbers, under a bound that grows with the calls -/
def eZ (B : Int) (g : Nat → Int32) : Prop := 61000 ≤ B ∧ B ≤ 100000000 ∧ 0 ≤ (g 0).toInt ∧ (g 0).toInt ≤ B ∧ -B ≤ (g 1).toInt ∧ (g 1).toInt ≤ B ∧ (g 2 = 0 ∨ g 2 = 1 ∨ g 2 = 2) ∧ 0 ≤ (g 3).toInt ∧ (g 3).toInt ≤ 20 ∧ (g 2 = 1 → 1 ≤ (g 3).toInt) ∧
  0 ≤ (g 8).toInt ∧ (g 8).toInt ≤ B ∧ (g 12 = 0 ∨ g 12 = 1) ∧ (g 4 = (-1) → g 5 = 0)
theorem eG.q {g : Nat → Int32} (h : eG g) : (g 14).toInt = (eQ g : Int) ∧ eQ g ≤ 20 := by
  have h0 := h.2.2.2.1
  have h1 := qa_ixI h0.1
  refine ⟨h1, ?_⟩
  show ix (g 14) ≤ 20
  omega
theorem sb_gap (x y : Int32) : fX9_gap x y = some (if x ≤ y then y - x else x - y) := by
  unfold fX9_gap fX9_gap_b0
  split <;> rfl
theorem sb_gapab {x y : Int32} (h1 : -1000000000 ≤ x.toInt) (h2 : x.toInt ≤ 1000000000) (h3 : -1000000000 ≤ y.toInt) (h4 : y.toInt ≤ 1000000000) : fX9_gap x y = some (ab (x - y)) := by
  rw [sb_gap]
  refine congrArg some ?_
  unfold ab
  split
  · rename_i h
    split
    · rename_i h'
      simp only [qa_ar, Int32.reduceToInt] at h h' ⊢
      omega
    · simp only [qa_ar, Int32.reduceToInt] at h ⊢
      omega
  · rename_i h
    split
    · rfl
    · rename_i h'
      simp only [qa_ar, Int32.reduceToInt] at h h' ⊢
      omega
theorem sc_at {x : Int32} {n : Nat} {f : Nat → Int32} (c : Nat) (hx : x.toInt = (c : Int)) (hc : c < n) (hn : n < 1000) : fX9_at x n f = some (f c) := by
  have hI := qa_nI (n := n) (by omega)
  unfold fX9_at fX9_at_b0
  rw [if_neg (by rw [qa_lt, qa_0]; omega), if_neg (by rw [show Int32.ofNat n = nI n from rfl, qa_le]; omega), qa_gi (by omega) (by omega), qa_ix hx]
theorem sb_kindFact {u : KS} {g : Nat → Int32} (R : eRA u g) {x y : Int32} (d k : Nat) (hx : x.toInt = (d : Int)) (hd : d < 4) (hy : y.toInt = (k : Int)) (hk : k < 3) : fX8_kindFact x y u = some (eK g d k) := by
  have e : ((x * 3) + y).toInt = ((3 * d + k : Nat) : Int) := by
    simp only [qa_ar, hx, hy, Int32.reduceToInt]
    omega
  unfold fX8_kindFact fX8_kindFact_b0
  rw [if_neg (by rw [qa_lt, qa_0]; omega), if_neg (by rw [qa_le, e]; simp only [Int32.reduceToInt]; omega), qa_gi (by omega) (by omega), qa_ix e, R.2.2.1 _ (by omega)]
  unfold eK
  rw [Nat.add_assoc]
theorem sb_carFact {u : KS} {g : Nat → Int32} (R : eRA u g) (H : eH g) {x y : Int32} (c k : Nat) (hx : x.toInt = (c : Int)) (hc : c < eN g) (hy : y.toInt = (k : Int)) (hk : k < 7) : fX8_carFact x y u = some (eC g c k) := by
  have hn := H.n
  have e : ((x * 7) + y).toInt = ((7 * c + k : Nat) : Int) := by
    simp only [qa_ar, hx, hy, Int32.reduceToInt]
    omega
  unfold fX8_carFact fX8_carFact_b0
  rw [if_neg (by rw [qa_lt, qa_0]; omega), if_neg (by rw [qa_le, e]; simp only [Int32.reduceToInt]; omega), qa_gi (by omega) (by omega), qa_ix e, R.2.2.2.2.1 _ (by omega)]
  unfold eC
  rw [Nat.add_assoc]
theorem sb_setCar {u : KS} {x y z : Int32} (c k : Nat) (hx : x.toInt = (c : Int)) (hc : c < 60) (hy : y.toInt = (k : Int)) (hk : k < 7) : fX8_setCarFact x y z u = some (wA u (7 * c + k) z) := by
  have e : ((x * 7) + y).toInt = ((7 * c + k : Nat) : Int) := by
    simp only [qa_ar, hx, hy, Int32.reduceToInt]
    omega
  unfold fX8_setCarFact fX8_setCarFact_b0
  rw [if_neg (by rw [qa_lt, qa_0]; omega), if_neg (by rw [qa_le, e]; simp only [Int32.reduceToInt]; omega), qa_gi (by omega) (by omega), qa_ix e]
theorem sb_carKind {u : KS} {g : Nat → Int32} (R : eRA u g) (H : eH g) {x y : Int32} (c k : Nat) (hx : x.toInt = (c : Int)) (hc : c < eN g) (hy : y.toInt = (k : Int)) (hk : k < 3) : fX8_carKindFact x y u = some (eO g c k) := by
  have h2 := H.2.2 c hc
  have h3 := qa_ixI h2.1
  unfold fX8_carKindFact fX8_carKindFact_b0
  rw [sb_carFact R H c 0 hx hc qa_0 (by decide), qa_b, sb_kindFact R (ix (eC g c 0)) k h3 (by omega) hy hk, qa_b]
  rfl
theorem sb_tideAt {u : KS} {g : Nat → Int32} (R : eRA u g) (S : eS g) (t : Int32) : fX8_tideAt t u = some (eT g t) := by
  have h := S.1
  have h1 : ¬ g 17 = 0 := by
    simp only [qa_ar, Int32.reduceToInt]
    omega
  have h2 : ¬ 2 * g 17 = 0 := by
    simp only [qa_ar, Int32.reduceToInt]
    omega
  have h3 : 1 ≤ g 17 := by
    simp only [qa_ar, Int32.reduceToInt]
    omega
  have t0 : sT u 0 = g 15 := R.2.1 0 (by decide)
  have t1 : sT u 1 = g 16 := R.2.1 1 (by decide)
  have t2 : sT u 2 = g 17 := R.2.1 2 (by decide)
  unfold fX8_tideAt fX8_tideAt_b0 fX8_tideAt_b45
  rw [t0, t1, t2, if_pos h3, qa_gn h2, qa_gn h1, qa_gn h1]
  unfold eT eTr eTp
  split <;> rfl
theorem sb_deckAt {u : KS} {g : Nat → Int32} (R : eRA u g) (S : eS g) (h7 : sC u 7 = eLd g) (t : Int32) : fX8_deckAt t u = some (eV g t) := by
  have h := S.1
  have h1 : ¬ g 20 = 0 := by
    simp only [qa_ar, Int32.reduceToInt]
    omega
  have h3 : 1 ≤ g 20 := by
    simp only [qa_ar, Int32.reduceToInt]
    omega
  have t4 : sT u 4 = g 19 := R.2.1 4 (by decide)
  have t5 : sT u 5 = g 20 := R.2.1 5 (by decide)
  unfold fX8_deckAt fX8_deckAt_b0 fX8_deckAt_b25
  rw [t4, t5, h7, if_pos h3, qa_gn h1, sb_tideAt R S, qa_b]
  rfl
theorem eT_bnd {g : Nat → Int32} (S : eS g) {t : Int32} (ht : 0 ≤ t.toInt) : -500 ≤ (eT g t).toInt ∧ (eT g t).toInt ≤ 500 := by
  obtain ⟨h, -⟩ := S
  have e2 : (2 * g 17).toInt = 2 * (g 17).toInt := by
    simp only [qa_ar, Int32.reduceToInt]
    omega
  have hp := qa_remb (y := 2 * g 17) ht (by omega)
  have hr : 0 ≤ (eTr g t).toInt ∧ (eTr g t).toInt ≤ (g 17).toInt := by
    unfold eTr eTp
    split
    · rename_i h'
      rw [qa_lt] at h'
      rw [qa_sub (by omega) (by omega)]
      omega
    · rename_i h'
      rw [qa_lt] at h'
      omega
  have hd : (g 16 - g 15).toInt = (g 16).toInt - (g 15).toInt := qa_sub (by omega) (by omega)
  have hm0 : 0 ≤ ((g 16).toInt - (g 15).toInt) * (eTr g t).toInt := Int.mul_nonneg (by omega) hr.1
  have hm1 : ((g 16).toInt - (g 15).toInt) * (eTr g t).toInt ≤ ((g 16).toInt - (g 15).toInt) * (g 17).toInt := Int.mul_le_mul_of_nonneg_left hr.2 (by omega)
  have hm2 : ((g 16).toInt - (g 15).toInt) * (g 17).toInt ≤ 1000 * (g 17).toInt := Int.mul_le_mul_of_nonneg_right (by omega) (by omega)
  have hmul : ((g 16 - g 15) * eTr g t).toInt = ((g 16).toInt - (g 15).toInt) * (eTr g t).toInt := by
    rw [qa_mul (by rw [hd]; omega) (by rw [hd]; omega), hd]
  have hdiv : ((g 16 - g 15) * eTr g t / g 17).toInt = ((g 16).toInt - (g 15).toInt) * (eTr g t).toInt / (g 17).toInt := by
    rw [qa_divp (by rw [hmul]; exact hm0) (by omega), hmul]
  have hq0 : 0 ≤ ((g 16).toInt - (g 15).toInt) * (eTr g t).toInt / (g 17).toInt := Int.ediv_nonneg hm0 (by omega)
  have hq1 : ((g 16).toInt - (g 15).toInt) * (eTr g t).toInt / (g 17).toInt ≤ (g 16).toInt - (g 15).toInt := by
    have := Int.ediv_le_ediv (c := (g 17).toInt) (by omega) hm1
    rw [Int.mul_ediv_cancel _ (by omega)] at this
    exact this
  unfold eT
  rw [qa_add (by rw [hdiv]; omega) (by rw [hdiv]; omega), hdiv]
  omega
theorem eLd_bnd {g : Nat → Int32} (G : eG g) : 0 ≤ (eLd g).toInt ∧ (eLd g).toInt ≤ 59940 := by
  have hn := G.1.n
  have := sI_bnd (f := eWd g) (n := eN g) (by omega) (fun c hc => by
    have := G.2.1 c hc
    unfold eWd
    split
    · omega
    · rw [qa_0]
      omega)
  unfold eLd
  omega
theorem eV_bnd {g : Nat → Int32} (S : eS g) (G : eG g) {t : Int32} (ht : 0 ≤ t.toInt) : -60500 ≤ (eV g t).toInt ∧ (eV g t).toInt ≤ 800 := by
  have h1 := eT_bnd S ht
  have h2 := eLd_bnd G
  have h := S.1
  have h3 := qa_divb (x := eLd g) (y := g 20) h2.1 (by omega)
  unfold eV
  rw [qa_sub (by rw [qa_add (by omega) (by omega)]; omega) (by rw [qa_add (by omega) (by omega)]; omega), qa_add (by omega) (by omega)]
  omega
theorem eW_bnd {g : Nat → Int32} (G : eG g) (l : Int32) : 0 ≤ (eW g l).toInt ∧ (eW g l).toInt ≤ 59940 := by
  have hn := G.1.n
  have := sI_bnd (f := eWf g l) (n := eN g) (by omega) (fun c hc => by
    have := G.2.1 c hc
    unfold eWf
    split
    · omega
    · rw [qa_0]
      omega)
  unfold eW
  omega
theorem eO_bnd {g : Nat → Int32} (S : eS g) (H : eH g) {c : Nat} (hc : c < eN g) : 0 ≤ (eO g c 0).toInt ∧ (eO g c 0).toInt ≤ 500 ∧ 0 ≤ (eO g c 1).toInt ∧ (eO g c 1).toInt ≤ 99 ∧ 1 ≤ (eO g c 2).toInt ∧ (eO g c 2).toInt ≤ 9 := by
  have h1 := H.2.2 c hc
  have h2 := qa_ixI h1.1
  exact S.2 (ix (eC g c 0)) (by omega)
theorem eL_bnd {g : Nat → Int32} (S : eS g) (H : eH g) (l : Int32) : 0 ≤ (eL g l).toInt ∧ (eL g l).toInt ≤ 59940 := by
  have hn := H.n
  have := sI_bnd (f := eLf g l) (n := eN g) (by omega) (fun c hc => by
    have := eO_bnd S H hc
    unfold eLf
    split
    · omega
    · rw [qa_0]
      omega)
  unfold eL
  omega
/-- the class's heights, made anew -/
theorem sb_measureRamp {u : KS} {g : Nat → Int32} {B : Int} (R : eRA u g) (S : eS g) (Z : eZ B g) (hd : sd u = eV g (g 0)) (G : eG g) : ∃ u', fX8_measureRamp u = some u' ∧ u' = wi (wp u (eP g)) (eI g) := by
  obtain ⟨z1, z2, z3, z4, z5, z6, -⟩ := Z
  have hv := eV_bnd S G z3
  have h := S.1
  have c4 : sC u 4 = g 1 := R.1.2.2.2.1
  have t3 : sT u 3 = g 18 := R.2.1 3 (by decide)
  refine ⟨_, ?_, rfl⟩
  unfold fX8_measureRamp fX8_measureRamp_b0
  rw [c4, t3, sb_gapab (by omega) (by omega) (by omega) (by omega), qa_b]
  simp only [qs_d]
  rw [c4, hd, sb_gapab (by omega) (by omega) (by omega) (by omega), qa_b]
  rfl
theorem sb_measureAll {u : KS} {g : Nat → Int32} {B : Int} (R : eRA u g) (S : eS g) (Z : eZ B g) (h7 : sC u 7 = eLd g) (G : eG g) : fX8_measureAll u = some (wi (wp (wd u (eV g (g 0))) (eP g)) (eI g)) := by
  have c0 : sC u 0 = g 0 := R.1.1
  have R' : eRA (wd u (eV g (g 0))) g := R
  obtain ⟨u', e1, e2⟩ := sb_measureRamp R' S Z rfl G
  unfold fX8_measureAll fX8_measureAll_b0
  rw [c0, sb_deckAt R S h7, qa_b, e1, qa_b, e2]
theorem eRA.d {u : KS} {g : Nat → Int32} (R : eRA u g) (x y z : Int32) : eRA (wi (wp (wd u x) y) z) g := R
theorem sb_placeIn {u : KS} {g : Nat → Int32} (R : eRA u g) (G : eG g) {x : Int32} {p : Nat} (hp : p < eQ g) (e : g (41 + p) = x) : fX8_placeOf x u = some (nI p) := by
  have hq := G.q
  have c1 : sC u 1 = g 14 := R.1.2.1
  have hd := G.2.2.2.2.2.1
  unfold fX8_placeOf fX8_placeOf_b0
  refine qa_lop0 (fun j => (x, nI j)) p (by omega) (fun j hj k => ?_) (fun k => ?_)
  · show fX8_placeOf_b2 k x (nI j) u = k (x, nI (j + 1))
    have hI := qa_nI (n := j) (by omega)
    unfold fX8_placeOf_b2
    rw [c1, if_neg (by rw [qa_le]; omega), if_neg (by rw [qa_le, hI]; simp only [Int32.reduceToInt]; omega), qa_gi (by omega) (by omega), qa_ix hI, R.2.2.2.1 j (by omega), if_neg (fun h => hd j p hj hp (by rw [h, e])), nI_1]
  · show fX8_placeOf_b2 k x (nI p) u = _
    have hI := qa_nI (n := p) (by omega)
    unfold fX8_placeOf_b2
    rw [c1, if_neg (by rw [qa_le]; omega), if_neg (by rw [qa_le, hI]; simp only [Int32.reduceToInt]; omega), qa_gi (by omega) (by omega), qa_ix hI, R.2.2.2.1 p (by omega), if_pos e]
theorem sb_placeOut {u : KS} {g : Nat → Int32} (R : eRA u g) (G : eG g) {x : Int32} (hx : ∀ i, i < eQ g → ¬ g (41 + i) = x) : fX8_placeOf x u = some (-1) := by
  have hq := G.q
  have c1 : sC u 1 = g 14 := R.1.2.1
  unfold fX8_placeOf fX8_placeOf_b0
  refine qa_lop0 (fun j => (x, nI j)) (eQ g) (by omega) (fun j hj k => ?_) (fun k => ?_)
  · show fX8_placeOf_b2 k x (nI j) u = k (x, nI (j + 1))
    have hI := qa_nI (n := j) (by omega)
    unfold fX8_placeOf_b2
    rw [c1, if_neg (by rw [qa_le]; omega), if_neg (by rw [qa_le, hI]; simp only [Int32.reduceToInt]; omega), qa_gi (by omega) (by omega), qa_ix hI, R.2.2.2.1 j (by omega), if_neg (hx j hj), nI_1]
  · show fX8_placeOf_b2 k x (nI (eQ g)) u = _
    have hI := qa_nI (n := eQ g) (by omega)
    unfold fX8_placeOf_b2
    rw [c1, if_pos (by rw [qa_le]; omega)]
theorem nI_cases {j : Nat} (h : j < 3) : j = 0 ∨ j = 1 ∨ j = 2 := by omega
theorem eLn_rng (g : Nat → Int32) (len w : Int32) : ∀ j, j ≤ 3 → eLn g len w j = (-1) ∨ 0 ≤ (eLn g len w j).toInt ∧ (eLn g len w j).toInt < 3 := by
  intro j
  induction j with
  | zero => exact fun _ => Or.inl rfl
  | succ j ih =>
    intro hj
    have h1 := ih (by omega)
    have hI := qa_nI (n := j) (by omega)
    show eSt g len w (eLn g len w j) (nI j) = (-1) ∨ 0 ≤ (eSt g len w (eLn g len w j) (nI j)).toInt ∧ (eSt g len w (eLn g len w j) (nI j)).toInt < 3
    unfold eSt
    split
    · split
      · right
        omega
      · split
        · exact h1
        · right
          omega
    · exact h1
theorem sb_lane {u : KS} {g : Nat → Int32} (B : eRB u g) {b : Int32} (h0 : 0 ≤ b.toInt) (h3 : b.toInt < 3) : sW u (ix b) = eW g b ∧ sN u (ix b) = eL g b := by
  have h1 := qa_ixI h0
  have h2 := B.2.2 (ix b) (by omega)
  rw [qa_nIx h0] at h2
  exact h2
theorem sb_suiting {u : KS} {g : Nat → Int32} (R : eRA u g) (B : eRB u g) (S : eS g) (G : eG g) {len w : Int32} (hw0 : 0 ≤ w.toInt) (hw : w.toInt ≤ 999) : fX8_suitingLane len w u = some (eLn g len w 3) := by
  have t6 : sT u 6 = g 21 := R.2.1 6 (by decide)
  have t8 : sT u 8 = g 23 := R.2.1 8 (by decide)
  have W0 : sW u 0 = eW g 0 := (B.2.2 0 (by decide)).1
  have W2 : sW u 2 = eW g 2 := (B.2.2 2 (by decide)).1
  have b0 := eW_bnd G 0
  have b2 := eW_bnd G 2
  unfold fX8_suitingLane fX8_suitingLane_b0
  refine qa_lop0 (fun j => (len, w, eLn g len w j, nI j)) 3 (by omega) (fun j hj k => ?_) (fun k => ?_)
  · show fX8_suitingLane_b5 k len w (eLn g len w j) (nI j) u = k (len, w, eSt g len w (eLn g len w j) (nI j), nI (j + 1))
    have hr := eLn_rng g len w j (by omega)
    generalize eLn g len w j = b at hr
    have hI := qa_nI (n := j) (by omega)
    have h3 : ¬ 3 ≤ nI j := by
      rw [qa_le, qa_3, hI]
      omega
    have hl := sb_lane B (b := nI j) (by omega) (by omega)
    have k70 : ∀ s, s = ab ((eW g 0 - eW g 2) + (if nI j = 0 then w else if nI j = 2 then -w else 0)) → fX8_suitingLane_b70 k len w b (nI j) s u = k (len, w, eSt g len w b (nI j), nI (j + 1)) := by
      intro s hs
      unfold fX8_suitingLane_b70 fX8_suitingLane_b107 fX8_suitingLane_b108 fX8_suitingLane_b136 fX8_suitingLane_b139
      rw [qa_gi (by omega) (by omega), t6, t8, hl.1, hl.2, nI_1, if_pos (rfl : (0 : Int32) = 0), if_neg n10]
      unfold eSt
      by_cases e1 : g 21 - eL g (nI j) < len
      · rw [if_pos e1, if_neg (fun h => absurd (Int32.lt_of_lt_of_le e1 h.1) Int32.lt_irrefl)]
      · rw [if_neg e1]
        by_cases e2 : g 23 < s
        · rw [if_pos e2, if_neg (fun h => absurd (Int32.lt_of_lt_of_le e2 (by rw [hs]; exact h.2)) Int32.lt_irrefl)]
        · rw [if_neg e2, if_pos (show eSu g len w (nI j) from ⟨Int32.not_lt.mp e1, by rw [← hs]; exact Int32.not_lt.mp e2⟩)]
          by_cases eb : b = (-1)
          · rw [if_pos eb, if_pos eb]
          · rw [if_neg eb, if_neg eb]
            have hr := hr.resolve_left eb
            rw [qa_gi (by omega) (by omega), qa_gi (by omega) (by omega), (sb_lane B hr.1 hr.2).1]
            split <;> rfl
    have k47 : ∀ L r, L - r = (eW g 0 - eW g 2) + (if nI j = 0 then w else if nI j = 2 then -w else 0) → 0 ≤ L.toInt → L.toInt ≤ 100000 → 0 ≤ r.toInt → r.toInt ≤ 100000 → (if L ≤ r then fX8_suitingLane_b70 k len w b (nI j) (r - L) u else fX8_suitingLane_b70 k len w b (nI j) (L - r) u) = k (len, w, eSt g len w b (nI j), nI (j + 1)) := by
      intro L r e l1 l2 r1 r2
      by_cases h : L ≤ r
      · rw [if_pos h]
        refine k70 _ ?_
        rw [← e]
        unfold ab
        split
        · rename_i h'
          refine Int32.toInt_inj.mp ?_
          simp only [qa_ar, Int32.reduceToInt] at h h' ⊢
          omega
        · refine Int32.toInt_inj.mp ?_
          simp only [qa_ar, Int32.reduceToInt] at h ⊢
          omega
      · rw [if_neg h]
        refine k70 _ ?_
        rw [← e]
        unfold ab
        split
        · rfl
        · rename_i h'
          refine Int32.toInt_inj.mp ?_
          simp only [qa_ar, Int32.reduceToInt] at h h' ⊢
          omega
    have a0 : ∀ x : Int32, 0 ≤ x.toInt → x.toInt ≤ 59940 → 0 ≤ (x + w).toInt ∧ (x + w).toInt ≤ 100000 ∧ 0 ≤ (x + 0).toInt ∧ (x + 0).toInt ≤ 100000 := by
      intro x h1 h2
      rw [Int32.add_zero, qa_add (by omega) (by omega)]
      omega
    have p0 := a0 _ b0.1 b0.2
    have p2 := a0 _ b2.1 b2.2
    unfold fX8_suitingLane_b5 fX8_suitingLane_b27 fX8_suitingLane_b47
    rw [if_neg h3, W0, W2]
    rcases nI_cases hj with e | e | e <;> subst e
    · rw [if_pos (show nI 0 = 0 from rfl), if_neg (show ¬ nI 0 = 2 by decide)]
      refine k47 _ _ ?_ p0.1 p0.2.1 p2.2.2.1 p2.2.2.2
      rw [if_pos (show nI 0 = 0 from rfl), Int32.add_zero]
      refine Int32.toInt_inj.mp ?_
      simp only [qa_ar]
      omega
    · rw [if_neg (show ¬ nI 1 = 0 by decide), if_neg (show ¬ nI 1 = 2 by decide)]
      refine k47 _ _ ?_ p0.2.2.1 p0.2.2.2 p2.2.2.1 p2.2.2.2
      rw [if_neg (show ¬ nI 1 = 0 by decide), if_neg (show ¬ nI 1 = 2 by decide), Int32.add_zero, Int32.add_zero, Int32.add_zero]
    · rw [if_neg (show ¬ nI 2 = 0 by decide), if_pos (show nI 2 = 2 from rfl)]
      refine k47 _ _ ?_ p0.2.2.1 p0.2.2.2 p2.1 p2.2.1
      rw [if_neg (show ¬ nI 2 = 0 by decide), if_pos (show nI 2 = 2 from rfl), Int32.add_zero]
      refine Int32.toInt_inj.mp ?_
      simp only [qa_ar]
      omega
  · show fX8_suitingLane_b5 k len w (eLn g len w 3) (nI 3) u = _
    unfold fX8_suitingLane_b5
    exact if_pos (by decide)
theorem sb_isFree {u : KS} {g : Nat → Int32} (R : eRA u g) (B : eRB u g) (len : Int32) : fX8_isFreeSomewhere len u = some (if eFs g len then 1 else 0) := by
  have t6 : sT u 6 = g 21 := R.2.1 6 (by decide)
  have key : ∀ n, n ≤ 3 → (∀ j, j < n → ¬ len ≤ g 21 - eL g (nI j)) → (n = 3 ∨ n < 3 ∧ len ≤ g 21 - eL g (nI n)) → fX8_isFreeSomewhere len u = some (if n = 3 then 0 else 1) := by
    intro n hn h1 h2
    unfold fX8_isFreeSomewhere fX8_isFreeSomewhere_b0
    refine qa_lop0 (fun j => (len, nI j)) n (by omega) (fun j hj k => ?_) (fun k => ?_)
    · show fX8_isFreeSomewhere_b2 k len (nI j) u = k (len, nI (j + 1))
      have hI := qa_nI (n := j) (by omega)
      have hl := sb_lane B (b := nI j) (by omega) (by omega)
      unfold fX8_isFreeSomewhere_b2
      rw [if_neg (by rw [qa_le, qa_3, hI]; omega), qa_gi (by omega) (by omega), t6, hl.2, if_pos (Int32.not_le.mp (h1 j hj)), nI_1]
    · show fX8_isFreeSomewhere_b2 k len (nI n) u = _
      have hI := qa_nI (n := n) (by omega)
      unfold fX8_isFreeSomewhere_b2
      rcases h2 with e | ⟨e, h2⟩
      · subst e
        rw [if_pos (by decide), if_pos rfl]
      · have hl := sb_lane B (b := nI n) (by omega) (by omega)
        rw [if_neg (by rw [qa_le, qa_3, hI]; omega), qa_gi (by omega) (by omega), t6, hl.2, if_neg (Int32.not_lt.mpr h2), if_neg (by omega)]
  unfold eFs
  by_cases f0 : len ≤ g 21 - eL g 0
  · rw [if_pos (Or.inl f0), key 0 (by omega) (fun j hj => by omega) (Or.inr ⟨by omega, f0⟩)]
    rfl
  by_cases f1 : len ≤ g 21 - eL g 1
  · rw [if_pos (Or.inr (Or.inl f1)), key 1 (by omega) (fun j hj => by rw [show j = 0 by omega]; exact f0) (Or.inr ⟨by omega, f1⟩)]
    rfl
  by_cases f2 : len ≤ g 21 - eL g 2
  · rw [if_pos (Or.inr (Or.inr f2)), key 2 (by omega) (fun j hj => by rcases (show j = 0 ∨ j = 1 by omega) with e | e <;> subst e; exact f0; exact f1) (Or.inr ⟨by omega, f2⟩)]
    rfl
  · rw [if_neg (fun h => h.elim f0 (fun h => h.elim f1 f2)), key 3 (by omega) (fun j hj => by rcases nI_cases hj with e | e | e <;> subst e; exact f0; exact f1; exact f2) (Or.inl rfl)]
    rfl
theorem sb_reason {u : KS} {g : Nat → Int32} (R : eRA u g) (B : eRB u g) (Hh : eRH u g) (S : eS g) (G : eG g) {x : Int32} (c : Nat) (hx : x.toInt = (c : Int)) (hc : c < eN g) : fX8_reasonFor x u = some (eY g c) := by
  have H := G.1
  have hn := H.n
  have hk := H.2.2 c hc
  have hk2 := qa_ixI hk.1
  have hw := G.2.1 c hc
  have c16 : sC u 16 = g 12 := R.1.2.2.2.2.2.2.2.2.2.2.2.2.2.2
  have c8 : sC u 8 = g 4 := R.1.2.2.2.2.2.2.1
  have t7 : sT u 7 = g 22 := R.2.1 7 (by decide)
  unfold fX8_reasonFor fX8_reasonFor_b0 eY
  rw [c16, c8, t7, B.2.1, Hh.2.1, Hh.2.2, sb_carFact R H c 0 hx hc qa_0 (by decide), qa_b, sb_carFact R H c 1 hx hc qa_1 (by decide), qa_b, sb_kindFact R (ix (eC g c 0)) 2 hk2 (by omega) qa_2 (by decide), qa_b, sb_isFree R B, qa_b,
    sb_suiting R B S G (by omega) (by omega), qa_b, sb_kindFact R (ix (eC g c 0)) 0 hk2 (by omega) qa_0 (by decide), qa_b, sb_kindFact R (ix (eC g c 0)) 1 hk2 (by omega) qa_1 (by decide), qa_b]
  by_cases e12 : g 12 = 0
  · rw [if_pos e12, if_pos e12]
  · rw [if_neg e12, if_neg e12]
    by_cases e4 : g 4 = (-1)
    · rw [if_pos e4, if_pos e4]
      show (if (if eFs g (eO g c 2) then (1 : Int32) else 0) = 0 then some 3 else _) = _
      by_cases f : eFs g (eO g c 2)
      · rw [if_pos f, if_pos f, if_neg (by decide)]
        show (if eLd g + eC g c 1 ≤ g 22 then (if eLn g (eO g c 2) (eC g c 1) 3 = (-1) then some 5 else (if eP g ≤ eO g c 0 then (if eI g ≤ eO g c 1 then some 0 else some 7) else some 6)) else some 4) = _
        repeat (split <;> try rfl)
      · rw [if_neg f, if_neg f, if_pos rfl]
    · rw [if_neg e4, if_neg e4]
