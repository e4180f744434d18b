/-! a set-up in the making -/
theorem uq_s (f : Nat → Int32) (i : Nat) (x : Int32) : upd f i x i = x := if_pos rfl
theorem uq_o (f : Nat → Int32) {i j : Nat} (x : Int32) (h : j ≠ i) : upd f i x j = f j := if_neg h
theorem uq_e (f : Nat → Int32) {i j : Nat} (x : Int32) (h : j = i) : upd f i x j = x := if_pos h
def dQ (u : KS) (g : Nat → Int32) : Prop := eRA u g ∧ (sC u 2 = 0 ∧ sC u 7 = 0 ∧ ∀ l, l < 3 → sW u l = 0 ∧ sN u l = 0 ∧ sD u l = 0) ∧ eG g ∧ eZ 61000 g ∧ (∀ c, c < eN g → eC g c 2 = 0) ∧ g 0 = 0 ∧ g 1 = 0 ∧ g 13 = g 14
theorem w_0 {g : Nat → Int32} (W : ∀ c, c < eN g → eC g c 2 = 0) : eD g = 0 ∧ eLd g = 0 ∧ ∀ l, eW g l = 0 ∧ eL g l = 0 ∧ eM g l = 0 := by
  have n1 : ¬ (0 : Int32) = 2 := by decide
  have n2 : ¬ (0 : Int32) = 1 := by decide
  have fr : ∀ l c, c < eN g → ¬ eFr g l c := by
    intro l c hc h
    rcases h.1 with h | h
    · exact n1 ((W c hc).symm.trans h)
    · exact n2 ((W c hc).symm.trans h)
  refine ⟨sI_0 fun c hc => ?_, sI_0 fun c hc => ?_, fun l => ⟨sI_0 fun c hc => ?_, sI_0 fun c hc => ?_, sI_0 fun c hc => ?_⟩⟩
  · exact if_neg (fun h => n1 ((W c hc).symm.trans h))
  · exact if_neg (fun h => n1 ((W c hc).symm.trans h))
  · exact if_neg (fr l c hc)
  · exact if_neg (fr l c hc)
  · exact if_neg (fun h => n1 ((W c hc).symm.trans h.1))
theorem dQ.b {u : KS} {g : Nat → Int32} (D : dQ u g) : eRB u g ∧ eRL u g := by
  obtain ⟨_, ⟨a1, a2, a3⟩, _, _, W, _⟩ := D
  obtain ⟨b1, b2, b3⟩ := w_0 W
  refine ⟨⟨a1.trans b1.symm, a2.trans b2.symm, fun l hl => ⟨(a3 l hl).1.trans (b3 _).1.symm, (a3 l hl).2.1.trans (b3 _).2.1.symm⟩⟩, fun l hl => ⟨0, by omega, (a3 l hl).2.2, (b3 _).2.2, fun i hi => by omega, fun i j _ hj => by omega, fun c hc h => absurd ((W c hc).symm.trans h.1) (by decide)⟩⟩
theorem eZ.q {B : Int} {g g' : Nat → Int32} (Z : eZ B g) (h : ∀ i, i < 13 → g' i = g i) : eZ B g' := by
  unfold eZ at Z ⊢
  rw [h 0 (by omega), h 1 (by omega), h 2 (by omega), h 3 (by omega), h 4 (by omega), h 5 (by omega), h 8 (by omega), h 12 (by omega)]
  exact Z
theorem dQ.set {u : KS} {g : Nat → Int32} (D : dQ u g) {j : Nat} (hj : j < 14) {x : Int32} (hx : j = 6 → 0 ≤ x.toInt) : dQ (wT u j x) (upd g (15 + j) x) := by
  obtain ⟨⟨A, k1, k2, k3, k4, k5⟩, a, G, Z, W, z0, z1, z2⟩ := D
  have un : ∀ i, i < 15 → upd g (15 + j) x i = g i := fun i hi => uq_o _ _ (by omega)
  have un2 : ∀ i, 29 ≤ i → upd g (15 + j) x i = g i := fun i hi => uq_o _ _ (by omega)
  have hN : eN (upd g (15 + j) x) = eN g := by
    unfold eN
    rw [un 13 (by omega)]
  have hQ' : eQ (upd g (15 + j) x) = eQ g := by
    unfold eQ
    rw [un 14 (by omega)]
  have hC : eC (upd g (15 + j) x) = eC g := funext fun c => funext fun k => un2 _ (by omega)
  have W' : ∀ c, c < eN (upd g (15 + j) x) → eC (upd g (15 + j) x) c 2 = 0 := by
    rw [hN, hC]
    exact W
  refine ⟨⟨?_, fun i hi => ?_, fun i hi => ?_, fun i hi => ?_, fun i hi => ?_, fun i hi hi2 => ?_⟩, a, ?_, Z.q (fun i hi => un i (by omega)), W', (un 0 (by omega)).trans z0, (un 1 (by omega)).trans z1, by rw [un 13 (by omega), un 14 (by omega)]; exact z2⟩
  · rw [un 0 (by omega), un 14 (by omega), un 13 (by omega), un 1 (by omega), un 2 (by omega), un 3 (by omega), un 4 (by omega), un 5 (by omega), un 6 (by omega), un 7 (by omega), un 8 (by omega), un 9 (by omega), un 10 (by omega), un 11 (by omega), un 12 (by omega)]
    exact A
  · show upd (sT u) j x i = upd g (15 + j) x (15 + i)
    by_cases e : i = j
    · rw [e, uq_s, uq_s]
    · rw [uq_o _ _ e, uq_o _ _ (by omega)]
      exact k1 i hi
  · rw [un2 _ (by omega)]
    exact k2 i hi
  · rw [un2 _ (by omega)]
    exact k3 i (by rw [← hQ']; exact hi)
  · rw [un2 _ (by omega)]
    exact k4 i (by rw [← hN]; exact hi)
  · rw [un2 _ (by omega)]
    rw [un 8 (by omega)] at hi2
    exact k5 i hi hi2
  · obtain ⟨g1, g2, g3, g4, g5, g6, g7, g8⟩ := G
    have e41 : ∀ i, upd g (15 + j) x (41 + i) = g (41 + i) := fun i => un2 _ (by omega)
    unfold eG eH
    rw [hN, hQ', hC, un 0 (by omega), un 4 (by omega), un 13 (by omega), un 14 (by omega)]
    refine ⟨g1, g2, g3, g4, fun i hi => ?_, fun i i' h1 h2 => ?_, fun c hc h => ?_, fun l hl => ?_⟩
    · rw [e41]
      exact g5 i hi
    · rw [e41, e41]
      exact g6 i i' h1 h2
    · obtain ⟨i, h1, h2⟩ := g7 c hc h
      exact ⟨i, h1, by rw [e41]; exact h2⟩
    · rw [((w_0 W').2.2 (nI l)).2.1, qa_0]
      by_cases e : j = 6
      · subst e
        rw [show 15 + 6 = 21 from rfl, uq_s]
        exact hx rfl
      · have := g8 l hl
        rw [((w_0 W).2.2 (nI l)).2.1, qa_0] at this
        rw [uq_o _ _ (by omega)]
        exact this
theorem eS_19 {g : Nat → Int32} (S : eS g) {x : Int32} (x0 : 0 ≤ x.toInt) (x1 : x.toInt ≤ 300) : eS (upd g 19 x) := by
  obtain ⟨⟨a1, a2, a3, l17, h17, l18, h18, l19, h19, l20, h20, l21, h21, l22, h22, l23, h23, l24, h24, l25, h25, l26, h26, l27, h27, l28, h28⟩, sk⟩ := S
  refine ⟨⟨a1, a2, a3, l17, h17, l18, h18, x0, x1, l20, h20, l21, h21, l22, h22, l23, h23, l24, h24, l25, h25, l26, h26, l27, h27, l28, h28⟩, fun d hd => ?_⟩
  unfold eK
  rw [uq_o _ _ (by omega), uq_o _ _ (by omega), uq_o _ _ (by omega)]
  exact sk d hd
theorem eS_20 {g : Nat → Int32} (S : eS g) {x : Int32} (x0 : 1 ≤ x.toInt) (x1 : x.toInt ≤ 999) : eS (upd g 20 x) := by
  obtain ⟨⟨a1, a2, a3, l17, h17, l18, h18, l19, h19, l20, h20, l21, h21, l22, h22, l23, h23, l24, h24, l25, h25, l26, h26, l27, h27, l28, h28⟩, sk⟩ := S
  refine ⟨⟨a1, a2, a3, l17, h17, l18, h18, l19, h19, x0, x1, l21, h21, l22, h22, l23, h23, l24, h24, l25, h25, l26, h26, l27, h27, l28, h28⟩, fun d hd => ?_⟩
  unfold eK
  rw [uq_o _ _ (by omega), uq_o _ _ (by omega), uq_o _ _ (by omega)]
  exact sk d hd
theorem eS_21 {g : Nat → Int32} (S : eS g) {x : Int32} (x0 : 1 ≤ x.toInt) (x1 : x.toInt ≤ 30) : eS (upd g 21 x) := by
  obtain ⟨⟨a1, a2, a3, l17, h17, l18, h18, l19, h19, l20, h20, l21, h21, l22, h22, l23, h23, l24, h24, l25, h25, l26, h26, l27, h27, l28, h28⟩, sk⟩ := S
  refine ⟨⟨a1, a2, a3, l17, h17, l18, h18, l19, h19, l20, h20, x0, x1, l22, h22, l23, h23, l24, h24, l25, h25, l26, h26, l27, h27, l28, h28⟩, fun d hd => ?_⟩
  unfold eK
  rw [uq_o _ _ (by omega), uq_o _ _ (by omega), uq_o _ _ (by omega)]
  exact sk d hd
theorem eS_22 {g : Nat → Int32} (S : eS g) {x : Int32} (x0 : 1 ≤ x.toInt) (x1 : x.toInt ≤ 9999) : eS (upd g 22 x) := by
  obtain ⟨⟨a1, a2, a3, l17, h17, l18, h18, l19, h19, l20, h20, l21, h21, l22, h22, l23, h23, l24, h24, l25, h25, l26, h26, l27, h27, l28, h28⟩, sk⟩ := S
  refine ⟨⟨a1, a2, a3, l17, h17, l18, h18, l19, h19, l20, h20, l21, h21, x0, x1, l23, h23, l24, h24, l25, h25, l26, h26, l27, h27, l28, h28⟩, fun d hd => ?_⟩
  unfold eK
  rw [uq_o _ _ (by omega), uq_o _ _ (by omega), uq_o _ _ (by omega)]
  exact sk d hd
theorem eS_23 {g : Nat → Int32} (S : eS g) {x : Int32} (x0 : 0 ≤ x.toInt) (x1 : x.toInt ≤ 9999) : eS (upd g 23 x) := by
  obtain ⟨⟨a1, a2, a3, l17, h17, l18, h18, l19, h19, l20, h20, l21, h21, l22, h22, l23, h23, l24, h24, l25, h25, l26, h26, l27, h27, l28, h28⟩, sk⟩ := S
  refine ⟨⟨a1, a2, a3, l17, h17, l18, h18, l19, h19, l20, h20, l21, h21, l22, h22, x0, x1, l24, h24, l25, h25, l26, h26, l27, h27, l28, h28⟩, fun d hd => ?_⟩
  unfold eK
  rw [uq_o _ _ (by omega), uq_o _ _ (by omega), uq_o _ _ (by omega)]
  exact sk d hd
theorem eS_24 {g : Nat → Int32} (S : eS g) {x : Int32} (x0 : 1 ≤ x.toInt) (x1 : x.toInt ≤ 20) : eS (upd g 24 x) := by
  obtain ⟨⟨a1, a2, a3, l17, h17, l18, h18, l19, h19, l20, h20, l21, h21, l22, h22, l23, h23, l24, h24, l25, h25, l26, h26, l27, h27, l28, h28⟩, sk⟩ := S
  refine ⟨⟨a1, a2, a3, l17, h17, l18, h18, l19, h19, l20, h20, l21, h21, l22, h22, l23, h23, x0, x1, l25, h25, l26, h26, l27, h27, l28, h28⟩, fun d hd => ?_⟩
  unfold eK
  rw [uq_o _ _ (by omega), uq_o _ _ (by omega), uq_o _ _ (by omega)]
  exact sk d hd
theorem eS_25 {g : Nat → Int32} (S : eS g) {x : Int32} (x0 : 0 ≤ x.toInt) (x1 : x.toInt ≤ 50) : eS (upd g 25 x) := by
  obtain ⟨⟨a1, a2, a3, l17, h17, l18, h18, l19, h19, l20, h20, l21, h21, l22, h22, l23, h23, l24, h24, l25, h25, l26, h26, l27, h27, l28, h28⟩, sk⟩ := S
  refine ⟨⟨a1, a2, a3, l17, h17, l18, h18, l19, h19, l20, h20, l21, h21, l22, h22, l23, h23, l24, h24, x0, x1, l26, h26, l27, h27, l28, h28⟩, fun d hd => ?_⟩
  unfold eK
  rw [uq_o _ _ (by omega), uq_o _ _ (by omega), uq_o _ _ (by omega)]
  exact sk d hd
theorem eS_26 {g : Nat → Int32} (S : eS g) {x : Int32} (x0 : 0 ≤ x.toInt) (x1 : x.toInt ≤ 20) : eS (upd g 26 x) := by
  obtain ⟨⟨a1, a2, a3, l17, h17, l18, h18, l19, h19, l20, h20, l21, h21, l22, h22, l23, h23, l24, h24, l25, h25, l26, h26, l27, h27, l28, h28⟩, sk⟩ := S
  refine ⟨⟨a1, a2, a3, l17, h17, l18, h18, l19, h19, l20, h20, l21, h21, l22, h22, l23, h23, l24, h24, l25, h25, x0, x1, l27, h27, l28, h28⟩, fun d hd => ?_⟩
  unfold eK
  rw [uq_o _ _ (by omega), uq_o _ _ (by omega), uq_o _ _ (by omega)]
  exact sk d hd
theorem eS_27 {g : Nat → Int32} (S : eS g) {x : Int32} (x0 : 1 ≤ x.toInt) (x1 : x.toInt ≤ 20) : eS (upd g 27 x) := by
  obtain ⟨⟨a1, a2, a3, l17, h17, l18, h18, l19, h19, l20, h20, l21, h21, l22, h22, l23, h23, l24, h24, l25, h25, l26, h26, l27, h27, l28, h28⟩, sk⟩ := S
  refine ⟨⟨a1, a2, a3, l17, h17, l18, h18, l19, h19, l20, h20, l21, h21, l22, h22, l23, h23, l24, h24, l25, h25, l26, h26, x0, x1, l28, h28⟩, fun d hd => ?_⟩
  unfold eK
  rw [uq_o _ _ (by omega), uq_o _ _ (by omega), uq_o _ _ (by omega)]
  exact sk d hd
theorem eS_28 {g : Nat → Int32} (S : eS g) {x : Int32} (x0 : 1 ≤ x.toInt) (x1 : x.toInt ≤ 50) : eS (upd g 28 x) := by
  obtain ⟨⟨a1, a2, a3, l17, h17, l18, h18, l19, h19, l20, h20, l21, h21, l22, h22, l23, h23, l24, h24, l25, h25, l26, h26, l27, h27, l28, h28⟩, sk⟩ := S
  refine ⟨⟨a1, a2, a3, l17, h17, l18, h18, l19, h19, l20, h20, l21, h21, l22, h22, l23, h23, l24, h24, l25, h25, l26, h26, l27, h27, x0, x1⟩, fun d hd => ?_⟩
  unfold eK
  rw [uq_o _ _ (by omega), uq_o _ _ (by omega), uq_o _ _ (by omega)]
  exact sk d hd
theorem eS_tide {g : Nat → Int32} (S : eS g) {x x' y : Int32} (x0 : -500 ≤ x.toInt) (x1 : x.toInt ≤ x'.toInt) (x2 : x'.toInt ≤ 500) (y0 : 1 ≤ y.toInt) (y1 : y.toInt ≤ 99) : eS (upd (upd (upd g 17 y) 15 x) 16 x') := by
  obtain ⟨⟨a1, a2, a3, l17, h17, l18, h18, l19, h19, l20, h20, l21, h21, l22, h22, l23, h23, l24, h24, l25, h25, l26, h26, l27, h27, l28, h28⟩, sk⟩ := S
  refine ⟨⟨x0, x1, x2, y0, y1, l18, h18, l19, h19, l20, h20, l21, h21, l22, h22, l23, h23, l24, h24, l25, h25, l26, h26, l27, h27, l28, h28⟩, fun d hd => ?_⟩
  have un : ∀ i, 29 ≤ i → upd (upd (upd g 17 y) 15 x) 16 x' i = g i := fun i hi => by rw [uq_o _ _ (by omega), uq_o _ _ (by omega), uq_o _ _ (by omega)]
  unfold eK
  rw [un _ (by omega), un _ (by omega), un _ (by omega)]
  exact sk d hd
def kdU (u : KS) (r : Nat) (a b c : Int32) : KS := wK (wK (wK u (3 * r) a) (3 * r + 1) b) (3 * r + 2) c
def kdG (g : Nat → Int32) (r : Nat) (a b c : Int32) : Nat → Int32 := upd (upd (upd g (29 + 3 * r) a) (30 + 3 * r) b) (31 + 3 * r) c
theorem kd_u {u : KS} {r : Nat} (hr : r < 4) {x : Int32} (hx : x.toInt = (r : Int)) (a b c : Int32) : fX8_setKind x a b c u = some (kdU u r a b c) := by
  have t3 : (3 : Int32).toInt = 3 := by decide
  have e : (x * 3).toInt = ((3 * r : Nat) : Int) := by
    rw [qa_mul, hx, t3]
    · omega
    · rw [hx, t3]; omega
    · rw [hx, t3]; omega
  have ek : ∀ (k : Nat), k ≤ 2 → (x * 3 + nI k).toInt = ((3 * r + k : Nat) : Int) := by
    intro k hk
    have hK := qa_nI (n := k) (by omega)
    rw [qa_add, e, hK]
    · omega
    · rw [e, hK]; omega
    · rw [e, hK]; omega
  have f0 := ek 0 (by omega)
  have f1 := ek 1 (by omega)
  have f2 := ek 2 (by omega)
  rw [show nI 0 = 0 from rfl] at f0
  rw [show nI 1 = 1 from rfl] at f1
  rw [show nI 2 = 2 from rfl] at f2
  unfold fX8_setKind fX8_setKind_b0
  rw [if_neg (by rw [qa_lt, qa_0]; omega), if_neg (by rw [qa_le, qa_4]; omega), qa_gi (by omega) (by omega), qa_gi (by omega) (by omega), qa_gi (by omega) (by omega), qa_ix f0, qa_ix f1, qa_ix f2]
  rfl
theorem dQ.kind {u : KS} {g : Nat → Int32} (D : dQ u g) {r : Nat} (hr : r < 4) (x y z : Int32) : dQ (kdU u r x y z) (kdG g r x y z) := by
  obtain ⟨⟨A, k1, k2, k3, k4, k5⟩, a, G, Z, W, z0, z1, z2⟩ := D
  have un : ∀ i, i < 29 → kdG g r x y z i = g i := fun i hi => by
    unfold kdG
    rw [uq_o _ _ (by omega), uq_o _ _ (by omega), uq_o _ _ (by omega)]
  have un2 : ∀ i, 41 ≤ i → kdG g r x y z i = g i := fun i hi => by
    unfold kdG
    rw [uq_o _ _ (by omega), uq_o _ _ (by omega), uq_o _ _ (by omega)]
  have hN : eN (kdG g r x y z) = eN g := by
    unfold eN
    rw [un 13 (by omega)]
  have hQ' : eQ (kdG g r x y z) = eQ g := by
    unfold eQ
    rw [un 14 (by omega)]
  have hC : eC (kdG g r x y z) = eC g := funext fun c => funext fun k => un2 _ (by omega)
  have W' : ∀ c, c < eN (kdG g r x y z) → eC (kdG g r x y z) c 2 = 0 := by
    rw [hN, hC]
    exact W
  refine ⟨⟨?_, fun i hi => ?_, fun i hi => ?_, fun i hi => ?_, fun i hi => ?_, fun i hi hi2 => ?_⟩, a, ?_, Z.q (fun i hi => un i (by omega)), W', (un 0 (by omega)).trans z0, (un 1 (by omega)).trans z1, by rw [un 13 (by omega), un 14 (by omega)]; exact z2⟩
  · rw [un 0 (by omega), un 14 (by omega), un 13 (by omega), un 1 (by omega), un 2 (by omega), un 3 (by omega), un 4 (by omega), un 5 (by omega), un 6 (by omega), un 7 (by omega), un 8 (by omega), un 9 (by omega), un 10 (by omega), un 11 (by omega), un 12 (by omega)]
    exact A
  · rw [un _ (by omega)]
    exact k1 i hi
  · show upd (upd (upd (sK u) (3 * r) x) (3 * r + 1) y) (3 * r + 2) z i = kdG g r x y z (29 + i)
    unfold kdG
    by_cases e2 : i = 3 * r + 2
    · rw [e2, uq_s, show 29 + (3 * r + 2) = 31 + 3 * r by omega, uq_s]
    rw [uq_o _ _ e2, uq_o _ _ (by omega : 29 + i ≠ 31 + 3 * r)]
    by_cases e1 : i = 3 * r + 1
    · rw [e1, uq_s, show 29 + (3 * r + 1) = 30 + 3 * r by omega, uq_s]
    rw [uq_o _ _ e1, uq_o _ _ (by omega : 29 + i ≠ 30 + 3 * r)]
    by_cases e0 : i = 3 * r
    · rw [e0, uq_s, uq_s]
    rw [uq_o _ _ e0, uq_o _ _ (by omega : 29 + i ≠ 29 + 3 * r)]
    exact k2 i hi
  · rw [un2 _ (by omega)]
    exact k3 i (by rw [← hQ']; exact hi)
  · rw [un2 _ (by omega)]
    exact k4 i (by rw [← hN]; exact hi)
  · rw [un2 _ (by omega)]
    rw [un 8 (by omega)] at hi2
    exact k5 i hi hi2
  · obtain ⟨g1, g2, g3, g4, g5, g6, g7, g8⟩ := G
    have e41 : ∀ i, kdG g r x y z (41 + i) = g (41 + i) := fun i => un2 _ (by omega)
    unfold eG eH
    rw [hN, hQ', hC, un 0 (by omega), un 4 (by omega), un 13 (by omega), un 14 (by omega), un 21 (by omega)]
    refine ⟨g1, g2, g3, g4, fun i hi => ?_, fun i i' h1 h2 => ?_, fun c hc h => ?_, fun l hl => ?_⟩
    · rw [e41]
      exact g5 i hi
    · rw [e41, e41]
      exact g6 i i' h1 h2
    · obtain ⟨i, h1, h2⟩ := g7 c hc h
      exact ⟨i, h1, by rw [e41]; exact h2⟩
    · rw [((w_0 W').2.2 (nI l)).2.1]
      have := g8 l hl
      rw [((w_0 W).2.2 (nI l)).2.1] at this
      exact this
theorem eS.kind {g : Nat → Int32} (S : eS g) {r : Nat} (hr : r < 4) {x y z : Int32} (x0 : 0 ≤ x.toInt) (x1 : x.toInt ≤ 500) (y0 : 0 ≤ y.toInt) (y1 : y.toInt ≤ 99) (z0 : 1 ≤ z.toInt) (z1 : z.toInt ≤ 9) : eS (kdG g r x y z) := by
  have un : ∀ i, i < 29 → kdG g r x y z i = g i := fun i hi => by
    unfold kdG
    rw [uq_o _ _ (by omega), uq_o _ _ (by omega), uq_o _ _ (by omega)]
  obtain ⟨S1, sk⟩ := S
  refine ⟨?_, fun d hd => ?_⟩
  · rw [un 15 (by omega), un 16 (by omega), un 17 (by omega), un 18 (by omega), un 19 (by omega), un 20 (by omega), un 21 (by omega), un 22 (by omega), un 23 (by omega), un 24 (by omega), un 25 (by omega), un 26 (by omega), un 27 (by omega), un 28 (by omega)]
    exact S1
  · by_cases e : d = r
    · subst e
      have a0 : eK (kdG g d x y z) d 0 = x := by
        show kdG g d x y z (29 + 3 * d + 0) = x
        unfold kdG
        rw [uq_o _ _ (by omega), uq_o _ _ (by omega)]
        exact uq_s _ _ _
      have a1 : eK (kdG g d x y z) d 1 = y := by
        show kdG g d x y z (29 + 3 * d + 1) = y
        unfold kdG
        rw [show 29 + 3 * d + 1 = 30 + 3 * d by omega, uq_o _ _ (by omega)]
        exact uq_s _ _ _
      have a2 : eK (kdG g d x y z) d 2 = z := by
        show kdG g d x y z (29 + 3 * d + 2) = z
        unfold kdG
        rw [show 29 + 3 * d + 2 = 31 + 3 * d by omega]
        exact uq_s _ _ _
      rw [a0, a1, a2]
      exact ⟨x0, x1, y0, y1, z0, z1⟩
    · have ek : ∀ k, k ≤ 2 → eK (kdG g r x y z) d k = eK g d k := by
        intro k hk
        unfold eK kdG
        rw [uq_o _ _ (by omega), uq_o _ _ (by omega), uq_o _ _ (by omega)]
      rw [ek 0 (by omega), ek 1 (by omega), ek 2 (by omega)]
      exact sk d hd
theorem dQ.car {u : KS} {g : Nat → Int32} (D : dQ u g) (S : eS g) (hq : eQ g < 20) {k w : Int32} (k0 : 0 ≤ k.toInt) (k1 : k.toInt ≤ 3) (w0 : 1 ≤ w.toInt) (w1 : w.toInt ≤ 999) : dQ (adU u (eN g) (eQ g) k w (g 0)) (adG g (eN g) (eQ g) k w) ∧ eS (adG g (eN g) (eQ g) k w) := by
  obtain ⟨RB, RL⟩ := D.b
  obtain ⟨RA, _, G, Z, W, z0, z1, z2⟩ := D
  have hNQ : eN g = eQ g := by
    unfold eN eQ
    rw [z2]
  obtain ⟨A1, A2, A3, A4, A5, A6, A7, A8⟩ := ad_rel RA RB RL ⟨S, G, Z⟩ (by omega) hq k0 k1 w0 w1
  have e13 : adG g (eN g) (eQ g) k w 13 = nI (eN g + 1) := by
    unfold adG
    rw [uq_o _ _ (by omega), uq_o _ _ (by omega), uq_o _ _ (by omega), uq_o _ _ (by omega), uq_o _ _ (by omega), uq_o _ _ (by omega), uq_o _ _ (by omega), uq_o _ _ (by omega), uq_o _ _ (by omega), uq_s]
  have e14 : adG g (eN g) (eQ g) k w 14 = nI (eQ g + 1) := by
    unfold adG
    rw [uq_s]
  have W' : ∀ c, c < eN (adG g (eN g) (eQ g) k w) → eC (adG g (eN g) (eQ g) k w) c 2 = 0 := by
    intro c hc
    rw [A6] at hc
    by_cases e : c = eN g
    · subst e
      show adG g (eN g) (eQ g) k w (61 + 7 * eN g + 2) = 0
      unfold adG
      rw [uq_o _ _ (by omega), uq_o _ _ (by omega), uq_o _ _ (by omega), uq_o _ _ (by omega), uq_o _ _ (by omega), uq_o _ _ (by omega), uq_s]
    · have e2 : eC (adG g (eN g) (eQ g) k w) c 2 = eC g c 2 := by
        show adG g (eN g) (eQ g) k w (61 + 7 * c + 2) = g (61 + 7 * c + 2)
        unfold adG
        rw [uq_o _ _ (by omega), uq_o _ _ (by omega), uq_o _ _ (by omega), uq_o _ _ (by omega), uq_o _ _ (by omega), uq_o _ _ (by omega), uq_o _ _ (by omega), uq_o _ _ (by omega), uq_o _ _ (by omega), uq_o _ _ (by omega)]
      rw [e2]
      exact W c (by omega)
  obtain ⟨n1, n2, n3⟩ := w_0 W'
  refine ⟨⟨A1, ⟨A2.1.trans n1, A2.2.1.trans n2, fun l hl => ⟨(A2.2.2 l hl).1.trans (n3 _).1, (A2.2.2 l hl).2.trans (n3 _).2.1, ?_⟩⟩, A4.2.1, A4.2.2, W', (A8 0 (by omega) (by omega) (by omega)).trans z0, (A8 1 (by omega) (by omega) (by omega)).trans z1, by rw [e13, e14, hNQ]⟩, A4.1⟩
  obtain ⟨d, _, d1, d2, _⟩ := A3 l hl
  rw [d1, ← d2]
  exact (n3 _).2.2
def bnU (w v : KS) : Prop := sC v = sC w ∧ sW v = sW w ∧ sN v = sN w ∧ sD v = sD w ∧ sT v = sT w
def bnK (f : Nat → Int32) (o n : Nat) : Prop := ∀ d, d < n → f (o + 3 * d) = 100 ∧ f (o + 3 * d + 1) = 10 ∧ f (o + 3 * d + 2) = nI (d + 1)
theorem bk_s {f : Nat → Int32} {o j : Nat} (K : bnK f o j) {i0 i1 i2 : Nat} (h0 : i0 = o + 3 * j) (h1 : i1 = o + 3 * j + 1) (h2 : i2 = o + 3 * j + 2) : bnK (upd (upd (upd f i0 100) i1 10) i2 (nI (j + 1))) o (j + 1) := by
  intro d hd
  by_cases e : d = j
  · subst e
    rw [uq_o _ _ (by omega), uq_o _ _ (by omega), uq_e _ _ (by omega), uq_o _ _ (by omega), uq_e _ _ (by omega), uq_e _ _ (by omega)]
    exact ⟨rfl, rfl, rfl⟩
  · rw [uq_o _ _ (by omega), uq_o _ _ (by omega), uq_o _ _ (by omega), uq_o _ _ (by omega), uq_o _ _ (by omega), uq_o _ _ (by omega), uq_o _ _ (by omega), uq_o _ _ (by omega), uq_o _ _ (by omega)]
    exact K d (by omega)
theorem bn_k (w : KS) : ∃ v, lop (fun y (z : Int32 × KS) => fX8_setDefaults_b115 y z.1 z.2) LF (0, w) = some v ∧ bnU w v ∧ bnK (sK v) 0 4 := by
  refine qa_lind (fun j (s : Int32 × KS) => ∃ v, s = (nI j, v) ∧ bnU w v ∧ bnK (sK v) 0 j) (fun o => ∃ v, o = some v ∧ bnU w v ∧ bnK (sK v) 0 4) 4 ?_ 5000 0 (0, w) ⟨w, rfl, ⟨rfl, rfl, rfl, rfl, rfl⟩, fun d h => by omega⟩ (by omega) (by omega)
  intro j s k hj ⟨v, e, U, K⟩ hk
  subst e
  have hJ := qa_nI (n := j) (by omega)
  show ∃ v', fX8_setDefaults_b115 k (nI j) v = some v' ∧ _
  unfold fX8_setDefaults_b115
  by_cases q : j = 4
  · subst q
    rw [if_pos (by rw [qa_le, hJ, qa_4]; omega)]
    exact ⟨v, rfl, U, K⟩
  · rw [if_neg (by rw [qa_le, hJ, qa_4]; omega), kd_u (r := j) (by omega) hJ, qa_b, nI_1]
    refine hk _ (by omega) ⟨kdU v j 100 10 (nI (j + 1)), rfl, ?_, ?_⟩
    · unfold bnU at U ⊢
      dsimp only [kdU, wK, sC, sW, sN, sD, sT]
      exact U
    · show bnK (upd (upd (upd (sK v) (3 * j) 100) (3 * j + 1) 10) (3 * j + 2) (nI (j + 1))) 0 (j + 1)
      exact bk_s K (by omega) (by omega) (by omega)
def dfT (f : Nat → Int32) : Nat → Int32 := upd (upd (upd (upd (upd (upd (upd (upd (upd (upd (upd (upd (upd (upd f 0 0) 1 0) 2 10) 3 0) 4 0) 5 100) 6 10) 7 1000) 8 1000) 9 2) 10 5) 11 2) 12 3) 13 5
theorem df_t (f : Nat → Int32) : dfT f 0 = 0 ∧ dfT f 1 = 0 ∧ dfT f 2 = 10 ∧ dfT f 3 = 0 ∧ dfT f 4 = 0 ∧ dfT f 5 = 100 ∧ dfT f 6 = 10 ∧ dfT f 7 = 1000 ∧ dfT f 8 = 1000 ∧ dfT f 9 = 2 ∧ dfT f 10 = 5 ∧ dfT f 11 = 2 ∧ dfT f 12 = 3 ∧ dfT f 13 = 5 :=
  ⟨rfl, rfl, rfl, rfl, rfl, rfl, rfl, rfl, rfl, rfl, rfl, rfl, rfl, rfl⟩
theorem bn_d (w : KS) : ∃ v, fX8_setDefaults w = some v ∧ (sC v = sC w ∧ sW v = sW w ∧ sN v = sN w ∧ sD v = sD w) ∧ sT v = dfT (sT w) ∧ bnK (sK v) 0 4 := by
  unfold fX8_setDefaults fX8_setDefaults_b0
  obtain ⟨v, e, ⟨U1, U2, U3, U4, U5⟩, K⟩ := bn_k (wT (wT (wT (wT (wT (wT (wT (wT (wT (wT (wT (wT (wT (wT w 0 0) 1 0) 2 10) 3 0) 4 0) 5 100) 6 10) 7 1000) 8 1000) 9 2) 10 5) 11 2) 12 3) 13 5)
  rw [e]
  refine ⟨v, rfl, ?_, ?_, K⟩
  · rw [U1, U2, U3, U4]
    dsimp only [wT, sC, sW, sN, sD]
    exact ⟨rfl, rfl, rfl, rfl⟩
  · rw [U5]
    unfold dfT
    dsimp only [wT, sT]
theorem bn_l (w : KS) : ∃ v, lop (fun y (z : Int32 × KS) => fX8_becomeNew_b39 y z.1 z.2) LF (0, w) = some v ∧ sC v = sC w ∧ (∀ l, l < 3 → sW v l = 0 ∧ sN v l = 0 ∧ sD v l = 0) ∧ (∃ f, sT v = dfT f) ∧ bnK (sK v) 0 4 := by
  refine qa_lind (fun j (s : Int32 × KS) => ∃ v, s = (nI j, v) ∧ sC v = sC w ∧ ∀ l, l < j → sW v l = 0 ∧ sN v l = 0 ∧ sD v l = 0) (fun o => ∃ v, o = some v ∧ sC v = sC w ∧ (∀ l, l < 3 → sW v l = 0 ∧ sN v l = 0 ∧ sD v l = 0) ∧ (∃ f, sT v = dfT f) ∧ bnK (sK v) 0 4) 3 ?_ 5000 0 (0, w) ⟨w, rfl, rfl, fun d h => by omega⟩ (by omega) (by omega)
  intro j s k hj ⟨v, e, U, K⟩ hk
  subst e
  have hJ := qa_nI (n := j) (by omega)
  show ∃ v', fX8_becomeNew_b39 k (nI j) v = some v' ∧ _
  unfold fX8_becomeNew_b39
  by_cases q : j = 3
  · subst q
    rw [if_pos (by rw [qa_le, hJ, qa_3]; omega)]
    obtain ⟨v', e, ⟨e1, e2, e3, e4⟩, e5, e6⟩ := bn_d v
    rw [e, qa_b]
    exact ⟨v', rfl, e1.trans U, by rw [e2, e3, e4]; exact K, ⟨_, e5⟩, e6⟩
  · rw [if_neg (by rw [qa_le, hJ, qa_3]; omega), qa_gi (by omega) (by omega), qa_gi (by omega) (by omega), qa_gi (by omega) (by omega), qa_ix hJ, nI_1]
    refine hk _ (by omega) ⟨wN (wW (wD v j 0) j 0) j 0, rfl, U, fun l hl => ?_⟩
    show upd (sW v) j 0 l = 0 ∧ upd (sN v) j 0 l = 0 ∧ upd (sD v) j 0 l = 0
    by_cases e : l = j
    · rw [uq_e _ _ e, uq_e _ _ e, uq_e _ _ e]
      exact ⟨rfl, rfl, rfl⟩
    · rw [uq_o _ _ e, uq_o _ _ e, uq_o _ _ e]
      exact K l (by omega)
theorem bn_c (u : KS) : ∃ v, fX8_becomeNew u = some v ∧ (∀ i, i < 17 → sC v i = if i = 16 then 1 else if i = 8 then (-1) else 0) ∧ (∀ l, l < 3 → sW v l = 0 ∧ sN v l = 0 ∧ sD v l = 0) ∧ (∃ f, sT v = dfT f) ∧ bnK (sK v) 0 4 := by
  unfold fX8_becomeNew fX8_becomeNew_b0
  have t17 : (17 : Int32).toInt = 17 := by decide
  refine qa_lind (fun j (s : Int32 × KS) => ∃ v, s = (nI j, v) ∧ ∀ i, i < j → sC v i = 0) (fun o => ∃ v, o = some v ∧ (∀ i, i < 17 → sC v i = if i = 16 then 1 else if i = 8 then (-1) else 0) ∧ (∀ l, l < 3 → sW v l = 0 ∧ sN v l = 0 ∧ sD v l = 0) ∧ (∃ f, sT v = dfT f) ∧ bnK (sK v) 0 4) 17 ?_ 5000 0 (0, u) ⟨u, rfl, fun d h => by omega⟩ (by omega) (by omega)
  intro j s k hj ⟨v, e, K⟩ hk
  subst e
  have hJ := qa_nI (n := j) (by omega)
  show ∃ v', fX8_becomeNew_b2 k (nI j) v = some v' ∧ _
  unfold fX8_becomeNew_b2
  by_cases q : j = 17
  · subst q
    rw [if_pos (by rw [qa_le, hJ, t17]; omega)]
    obtain ⟨v', e, e1, e2, e3, e4⟩ := bn_l (wC (wC v 8 (-1)) 16 1)
    rw [e]
    refine ⟨v', rfl, fun i hi => ?_, e2, e3, e4⟩
    rw [e1]
    show upd (upd (sC v) 8 (-1)) 16 1 i = _
    unfold upd
    rw [K i hi]
  · rw [if_neg (by rw [qa_le, hJ, t17]; omega), qa_gi (by omega) (by omega), qa_ix hJ, nI_1]
    refine hk _ (by omega) ⟨wC v j 0, rfl, fun i hi => ?_⟩
    show upd (sC v) j 0 i = 0
    by_cases e : i = j
    · rw [uq_e _ _ e]
    · rw [uq_o _ _ e]
      exact K i (by omega)
def dfG (g : Nat → Int32) : Nat → Int32 := upd (upd (upd (upd (upd (upd (upd (upd (upd (upd (upd (upd g 4 (-1)) 12 1) 17 10) 20 100) 21 10) 22 1000) 23 1000) 24 2) 25 5) 26 2) 27 3) 28 5
def dfB (i : Nat) : Int32 := if 29 ≤ i ∧ i < 41 then (if (i - 29) % 3 = 0 then 100 else if (i - 29) % 3 = 1 then 10 else nI ((i - 29) / 3 + 1)) else dfG (fun _ => 0) i
theorem dfB_k : bnK dfB 29 4 := by
  intro d hd
  have hc : d = 0 ∨ d = 1 ∨ d = 2 ∨ d = 3 := by omega
  rcases hc with e | e | e | e <;> subst e <;> exact ⟨rfl, rfl, rfl⟩
theorem bn_all (u : KS) : ∃ u' g', fX8_becomeNew u = some u' ∧ (dQ u' g' ∧ eS g') ∧ g' 13 = 0 ∧ g' 2 = 0 ∧ g' 3 = 0 ∧ g' 4 = (-1) ∧ g' 5 = 0 ∧ g' 6 = 0 ∧ g' 9 = 0 ∧ g' 10 = 0 := by
  obtain ⟨u', e1, c, w, ⟨f, t⟩, k⟩ := bn_c u
  obtain ⟨g', h, z1⟩ : ∃ g' : Nat → Int32, bnK g' 29 4 ∧ ∀ i, i < 29 → g' i = dfG (fun _ => 0) i := ⟨dfB, dfB_k, fun i hi => if_neg (fun h => by omega)⟩
  have g0 : g' 0 = 0 := (z1 0 (by omega)).trans rfl
  have g1 : g' 1 = 0 := (z1 1 (by omega)).trans rfl
  have g2 : g' 2 = 0 := (z1 2 (by omega)).trans rfl
  have g3 : g' 3 = 0 := (z1 3 (by omega)).trans rfl
  have g4 : g' 4 = (-1) := (z1 4 (by omega)).trans rfl
  have g5 : g' 5 = 0 := (z1 5 (by omega)).trans rfl
  have g6 : g' 6 = 0 := (z1 6 (by omega)).trans rfl
  have g7 : g' 7 = 0 := (z1 7 (by omega)).trans rfl
  have g8 : g' 8 = 0 := (z1 8 (by omega)).trans rfl
  have g9 : g' 9 = 0 := (z1 9 (by omega)).trans rfl
  have g10 : g' 10 = 0 := (z1 10 (by omega)).trans rfl
  have g11 : g' 11 = 0 := (z1 11 (by omega)).trans rfl
  have g12 : g' 12 = 1 := (z1 12 (by omega)).trans rfl
  have g13 : g' 13 = 0 := (z1 13 (by omega)).trans rfl
  have g14 : g' 14 = 0 := (z1 14 (by omega)).trans rfl
  have g15 : g' 15 = 0 := (z1 15 (by omega)).trans rfl
  have g16 : g' 16 = 0 := (z1 16 (by omega)).trans rfl
  have g17 : g' 17 = 10 := (z1 17 (by omega)).trans rfl
  have g18 : g' 18 = 0 := (z1 18 (by omega)).trans rfl
  have g19 : g' 19 = 0 := (z1 19 (by omega)).trans rfl
  have g20 : g' 20 = 100 := (z1 20 (by omega)).trans rfl
  have g21 : g' 21 = 10 := (z1 21 (by omega)).trans rfl
  have g22 : g' 22 = 1000 := (z1 22 (by omega)).trans rfl
  have g23 : g' 23 = 1000 := (z1 23 (by omega)).trans rfl
  have g24 : g' 24 = 2 := (z1 24 (by omega)).trans rfl
  have g25 : g' 25 = 5 := (z1 25 (by omega)).trans rfl
  have g26 : g' 26 = 2 := (z1 26 (by omega)).trans rfl
  have g27 : g' 27 = 3 := (z1 27 (by omega)).trans rfl
  have g28 : g' 28 = 5 := (z1 28 (by omega)).trans rfl
  have gn : eN g' = 0 := by
    unfold eN
    rw [g13]
    rfl
  have gq : eQ g' = 0 := by
    unfold eQ
    rw [g14]
    rfl
  have W : ∀ c, c < eN g' → eC g' c 2 = 0 := fun c hc => by omega
  obtain ⟨t0, t1, t2, t3, t4, t5, t6, t7, t8, t9, t10, t11, t12, t13⟩ := df_t f
  refine ⟨u', g', e1, ⟨⟨⟨?_, fun i hi => ?_, fun i hi => ?_, fun i hi => by omega, fun i hi => by omega, fun i hi hi2 => ?_⟩, ⟨c 2 (by omega), c 7 (by omega), w⟩, ?_, ?_, W, g0, g1, g13.trans g14.symm⟩, ?_, fun d hd => ?_⟩, g13, g2, g3, g4, g5, g6, g9, g10⟩
  · rw [g0, g14, g13, g1, g2, g3, g4, g5, g6, g7, g8, g9, g10, g11, g12]
    exact ⟨c 0 (by omega), c 1 (by omega), c 3 (by omega), c 4 (by omega), c 5 (by omega), c 6 (by omega), c 8 (by omega), c 9 (by omega), c 10 (by omega), c 11 (by omega), c 12 (by omega), c 13 (by omega), c 14 (by omega), c 15 (by omega), c 16 (by omega)⟩
  · rw [t]
    have hc : i = 0 ∨ i = 1 ∨ i = 2 ∨ i = 3 ∨ i = 4 ∨ i = 5 ∨ i = 6 ∨ i = 7 ∨ i = 8 ∨ i = 9 ∨ i = 10 ∨ i = 11 ∨ i = 12 ∨ i = 13 := by omega
    rcases hc with e | e | e | e | e | e | e | e | e | e | e | e | e | e <;> subst e
    · exact t0.trans g15.symm
    · exact t1.trans g16.symm
    · exact t2.trans g17.symm
    · exact t3.trans g18.symm
    · exact t4.trans g19.symm
    · exact t5.trans g20.symm
    · exact t6.trans g21.symm
    · exact t7.trans g22.symm
    · exact t8.trans g23.symm
    · exact t9.trans g24.symm
    · exact t10.trans g25.symm
    · exact t11.trans g26.symm
    · exact t12.trans g27.symm
    · exact t13.trans g28.symm
  · obtain ⟨d, r, hd, hr, e⟩ : ∃ d r, d < 4 ∧ r < 3 ∧ i = 3 * d + r := ⟨i / 3, i % 3, by omega, by omega, by omega⟩
    subst e
    obtain ⟨a1, a2, a3⟩ := k d hd
    obtain ⟨b1, b2, b3⟩ := h d hd
    have hc : r = 0 ∨ r = 1 ∨ r = 2 := by omega
    rcases hc with e | e | e <;> subst e
    · rw [show 3 * d + 0 = 0 + 3 * d by omega, a1, show 29 + (0 + 3 * d) = 29 + 3 * d by omega, b1]
    · rw [show 3 * d + 1 = 0 + 3 * d + 1 by omega, a2, show 29 + (0 + 3 * d + 1) = 29 + 3 * d + 1 by omega, b2]
    · rw [show 3 * d + 2 = 0 + 3 * d + 2 by omega, a3, show 29 + (0 + 3 * d + 2) = 29 + 3 * d + 2 by omega, b3]
  · rw [g8, qa_0] at hi2
    omega
  · unfold eG eH
    rw [gn, gq, g13, g14, g4, g0, qa_0]
    refine ⟨⟨by omega, by omega, fun c hc => by omega⟩, fun c hc => by omega, Or.inl rfl, ⟨by omega, by omega⟩, fun i hi => by omega, fun i j _ hj => by omega, fun c hc => by omega, fun l hl => ?_⟩
    rw [((w_0 W).2.2 (nI l)).2.1, g21]
    decide
  · unfold eZ
    rw [g0, g1, g2, g3, g4, g5, g8, g12, qa_0]
    exact ⟨by omega, by omega, by omega, by omega, by omega, by omega, Or.inl rfl, by omega, by omega, fun h => absurd h (by decide), by omega, by omega, Or.inr rfl, fun _ => rfl⟩
  · rw [g15, g16, g17, g18, g19, g20, g21, g22, g23, g24, g25, g26, g27, g28]
    decide
  · obtain ⟨b1, b2, b3⟩ := h d hd
    have f0 : eK g' d 0 = 100 := b1
    have f1 : eK g' d 1 = 10 := b2
    have f2 : eK g' d 2 = nI (d + 1) := b3
    rw [f0, f1, f2, qa_nI (by omega)]
    refine ⟨by decide, by decide, by decide, by decide, by omega, by omega⟩
theorem lv_good {u : KS} {g : Nat → Int32} (D : dQ u g) (S : eS g) : ∃ u', fX8_becomeLevel u = some u' ∧ eRel u' (upd g 1 (eV g 0)) ∧ eInv 61000 (upd g 1 (eV g 0)) := by
  obtain ⟨RB, RL⟩ := D.b
  obtain ⟨RA, _, G, ⟨z1, z2, z3, z4, z5, z6, z7, z8, z9, z10, z11, z12, z13, z14⟩, W, g0, g1, _⟩ := D
  have F : eF g (upd g 1 (eV g 0)) := eF_upd g (by omega) _
  have bv := eV_bnd S G (t := 0) (by rw [qa_0]; omega)
  have c0 : sC u 0 = 0 := RA.1.1.trans g0
  have RA' : eRA (wC u 4 (eV g 0)) (upd g 1 (eV g 0)) := eRA_4 RA _
  have S' := F.S S
  have G' : eG (upd g 1 (eV g 0)) := F.G rfl (Int.le_refl _) G
  have Z' : eZ 61000 (upd g 1 (eV g 0)) := ⟨z1, z2, z3, z4, by show _ ≤ (eV g 0).toInt; omega, by show (eV g 0).toInt ≤ _; omega, z7, z8, z9, z10, z11, z12, z13, z14⟩
  have RB' : eRB (wC u 4 (eV g 0)) (upd g 1 (eV g 0)) := F.RB RB rfl rfl rfl rfl
  have m := sb_measureAll RA' S' Z' RB'.2.1 G'
  unfold fX8_becomeLevel fX8_becomeLevel_b0
  rw [sb_deckAt RA S RB.2.1, c0, qa_b, m, qa_b]
  exact ⟨_, rfl, ⟨RA', RB', F.RL RL rfl rfl, rfl, rfl, rfl⟩, S', G', Z'⟩
