/-! a set-up: what is common to its statements -/
/-- which statements have been read, on both sides -/
def eBt (s t : Int32) : Prop := ∃ k : Nat, k < 256 ∧ s = nI k ∧ t = nI (k % 64)
theorem bt_all : ∀ k : Fin 256, ∀ x : Fin 8, (nI k.val ||| (1 <<< (nI x.val &&& 31))) = nI (k.val ||| 2 ^ x.val) ∧ k.val ||| 2 ^ x.val < 256 ∧ nI ((k.val ||| 2 ^ x.val) % 64) = (if x.val < 6 then nI (k.val % 64) ||| (1 <<< (nI x.val &&& 31)) else nI (k.val % 64)) ∧
    (x.val < 6 → (((nI k.val >>> (nI x.val &&& 31)) &&& 1 = 0) ↔ ((nI (k.val % 64) >>> (nI x.val &&& 31)) &&& 1 = 0))) := by
  decide +kernel
theorem eBt.set {s t : Int32} (h : eBt s t) {x : Nat} (hx : x < 6) {y : Int32} (hy : y = nI x) : eBt (s ||| (1 <<< (y &&& 31))) (t ||| (1 <<< (y &&& 31))) := by
  obtain ⟨k, hk, e1, e2⟩ := h
  subst hy
  obtain ⟨b1, b2, b3, _⟩ := bt_all ⟨k, hk⟩ ⟨x, by omega⟩
  rw [if_pos hx] at b3
  exact ⟨k ||| 2 ^ x, b2, by rw [e1]; exact b1, by rw [e2]; exact b3.symm⟩
theorem eBt.set2 {s t : Int32} (h : eBt s t) {x : Nat} (hx : x < 8) (h6 : 6 ≤ x) {y : Int32} (hy : y = nI x) : eBt (s ||| (1 <<< (y &&& 31))) t := by
  obtain ⟨k, hk, e1, e2⟩ := h
  subst hy
  obtain ⟨b1, b2, b3, _⟩ := bt_all ⟨k, hk⟩ ⟨x, hx⟩
  rw [if_neg (by show ¬ x < 6; omega)] at b3
  exact ⟨k ||| 2 ^ x, b2, by rw [e1]; exact b1, by rw [e2]; exact b3.symm⟩
theorem eBt.get {s t : Int32} (h : eBt s t) {x : Nat} (hx : x < 6) {y : Int32} (hy : y = nI x) : ((s >>> (y &&& 31)) &&& 1 = 0) ↔ ((t >>> (y &&& 31)) &&& 1 = 0) := by
  obtain ⟨k, hk, e1, e2⟩ := h
  subst hy
  rw [e1, e2]
  exact (bt_all ⟨k, hk⟩ ⟨x, by omega⟩).2.2.2 hx
/-- what a set-up's statement leaves alone -/
def eFl (M M' : RS) : Prop := mAs M' = mAs M ∧ mTr M' = mTr M ∧ mPa M' = mPa M ∧ mSa M' = mSa M ∧ mIs M' = mIs M ∧ mAo M' = mAo M ∧ mOu M' = mOu M ∧ mAc M' = mAc M ∧ mTh M' = mTh M ∧ mOl M' = mOl M
theorem eFl.refl (M : RS) : eFl M M := ⟨rfl, rfl, rfl, rfl, rfl, rfl, rfl, rfl, rfl, rfl⟩
theorem eFl.trans {M M1 M2 : RS} (h : eFl M M1) (k : eFl M1 M2) : eFl M M2 := by
  obtain ⟨a1, a2, a3, a4, a5, a6, a7, a8, a9, a10⟩ := h
  obtain ⟨b1, b2, b3, b4, b5, b6, b7, b8, b9, b10⟩ := k
  exact ⟨b1.trans a1, b2.trans a2, b3.trans a3, b4.trans a4, b5.trans a5, b6.trans a6, b7.trans a7, b8.trans a8, b9.trans a9, b10.trans a10⟩
theorem eFo.l {M M' : RS} (h : eFo M M') : eFl M M' := h.2
theorem eFp.td {p p' : PS} {M M' : RS} (f : eFp p p' M M') : mTd M' = mTd M := f.2.2.2.2.2.2.2.2.2.2.2.2.2.2.2.1
theorem eFp.tk {p p' : PS} {M M' : RS} (f : eFp p p' M M') : mTk M' = mTk M := f.2.2.2.2.2.2.2.2.2.2.2.2.2.2.2.2.1
theorem eFp.so {p p' : PS} {M M' : RS} (f : eFp p p' M M') : pSo p' = pSo p := f.1.2.2.2.2.1
theorem eFp.ko {p p' : PS} {M M' : RS} (f : eFp p p' M M') : pKo p' = pKo p := f.1.2.2.2.2.2
theorem eFp.st {p p' : PS} {M M' : RS} (f : eFp p p' M M') : mSt M' = mSt M := f.2.1
theorem set_e {M : RS} (h : ¬ mEc M = 0) (x v : Int32) : fX10_set x v M = some M := by
  unfold fX10_set fX10_set_b0
  rw [rb_fine, qa_b, if_neg h, if_pos (rfl : (0 : Int32) = 0)]
theorem set_sim {p : PS} {M : RS} {n : Nat} (L : pRl p M n) {i : Nat} (hi : i < 561) {x : Int32} (hx : x = nI i) (v : Int32) : ∃ M', fX10_set x v M = some M' ∧ pRl p M' n ∧ eFl M M' ∧ mTd M' = mTd M ∧ mTk M' = mTk M ∧ (pEc p = 0 → mSt M' = upd (mSt M) i v) := by
  subst hx
  have hI := qa_nI (n := i) (by omega)
  unfold fX10_set fX10_set_b0
  rw [rb_fine, qa_b]
  by_cases h0 : pEc p = 0
  · have hm : mEc M = 0 := by rw [← L.2.1]; exact h0
    rw [if_pos hm, if_neg n10, qa_gi (by omega) (by omega), qa_ix hI]
    exact ⟨nSt M i v, rfl, L.cgM rfl rfl rfl rfl rfl rfl rfl rfl, ⟨rfl, rfl, rfl, rfl, rfl, rfl, rfl, rfl, rfl, rfl⟩, rfl, rfl, fun _ => rfl⟩
  · have hm : ¬ mEc M = 0 := by rw [← L.2.1]; exact h0
    rw [if_neg hm, if_pos (rfl : (0 : Int32) = 0)]
    exact ⟨M, rfl, L, eFl.refl M, rfl, rfl, fun h => absurd h h0⟩
theorem pn_e {M : RS} (h : ¬ mEc M = 0) (lo hi : Int32) : fX10_parseNumber lo hi M = some (lo, M) := by
  unfold fX10_parseNumber fX10_parseNumber_b0
  rw [lk_e h, qa_b2, pd_e h, qa_b]
theorem pw_e {M : RS} (h : ¬ mEc M = 0) (w : Nat) : fX10_parseWord w M = some M := by
  unfold fX10_parseWord fX10_parseWord_b0
  rw [rb_worde h, qa_b, rq_e h, qa_b, pd_e h, qa_b]
theorem lh_e {M : RS} (h : ¬ mEc M = 0) (hi : Int32) : fX10_lookHeight hi M = some (0, M) := by
  have z0 : (-0 : Int32) = 0 := by decide
  have g2 : ∀ x, fX10_lookHeight_b22 hi x M = some (0, M) := by
    intro x
    unfold fX10_lookHeight_b22
    rw [lk_e h, qa_b2, z0]
    split <;> rfl
  unfold fX10_lookHeight fX10_lookHeight_b0 fX10_lookHeight_b13
  rw [pd_e h, qa_b, g2, g2]
  split
  · split
    · rfl
    · first | rfl | exact g2 _
  · split
    · rfl
    · first | rfl | exact g2 _
theorem ph_e {M : RS} (h : ¬ mEc M = 0) (hi : Int32) : fX10_parseHeight hi M = some (0, M) := by
  unfold fX10_parseHeight fX10_parseHeight_b0
  rw [lh_e h, qa_b2, pd_e h, qa_b]
/-- a set-up in the making: every car waits -/
def dQ (u : KS) (g : Nat → Int32) : Prop := eRA u g ∧ (sC u 2 = 0 ∧ sC u 7 = 0 ∧ ∀ l, l < 3 → sW u l = 0 ∧ sN u l = 0 ∧ sD u l = 0) ∧ eG g ∧ eZ 61000 g ∧ (∀ c, c < eN g → eC g c 2 = 0) ∧ g 0 = 0 ∧ g 1 = 0 ∧ g 13 = g 14
theorem w_0 {g : Nat → Int32} (W : ∀ c, c < eN g → eC g c 2 = 0) : eD g = 0 ∧ eLd g = 0 ∧ ∀ l, eW g l = 0 ∧ eL g l = 0 ∧ eM g l = 0 := by
  have n1 : ¬ (0 : Int32) = 2 := by decide
  have n2 : ¬ (0 : Int32) = 1 := by decide
  have fr : ∀ l c, c < eN g → ¬ eFr g l c := by
    intro l c hc h
    rcases h.1 with h | h
    · exact n1 ((W c hc).symm.trans h)
    · exact n2 ((W c hc).symm.trans h)
  refine ⟨sI_0 fun c hc => ?_, sI_0 fun c hc => ?_, fun l => ⟨sI_0 fun c hc => ?_, sI_0 fun c hc => ?_, sI_0 fun c hc => ?_⟩⟩
  · exact if_neg (fun h => n1 ((W c hc).symm.trans h))
  · exact if_neg (fun h => n1 ((W c hc).symm.trans h))
  · exact if_neg (fr l c hc)
  · exact if_neg (fr l c hc)
  · exact if_neg (fun h => n1 ((W c hc).symm.trans h.1))
theorem dQ.b {u : KS} {g : Nat → Int32} (D : dQ u g) : eRB u g ∧ eRL u g := by
  obtain ⟨_, ⟨a1, a2, a3⟩, _, _, W, _⟩ := D
  obtain ⟨b1, b2, b3⟩ := w_0 W
  refine ⟨⟨a1.trans b1.symm, a2.trans b2.symm, fun l hl => ⟨(a3 l hl).1.trans (b3 _).1.symm, (a3 l hl).2.1.trans (b3 _).2.1.symm⟩⟩, fun l hl => ⟨0, by omega, (a3 l hl).2.2, (b3 _).2.2, fun i hi => by omega, fun i j _ hj => by omega, fun c hc h => absurd ((W c hc).symm.trans h.1) (by decide)⟩⟩
theorem eZ.q {B : Int} {g g' : Nat → Int32} (Z : eZ B g) (h : ∀ i, i < 13 → g' i = g i) : eZ B g' := by
  unfold eZ at Z ⊢
  rw [h 0 (by omega), h 1 (by omega), h 2 (by omega), h 3 (by omega), h 4 (by omega), h 5 (by omega), h 8 (by omega), h 12 (by omega)]
  exact Z
/-- a setting, set -/
theorem dQ.set {u : KS} {g : Nat → Int32} (D : dQ u g) {j : Nat} (hj : j < 14) {x : Int32} (hx : j = 6 → 0 ≤ x.toInt) : dQ (wT u j x) (upd g (15 + j) x) := by
  obtain ⟨⟨A, k1, k2, k3, k4, k5⟩, a, G, Z, W, z0, z1, z2⟩ := D
  have un : ∀ i, i < 15 → upd g (15 + j) x i = g i := fun i hi => uq_o _ _ (by omega)
  have un2 : ∀ i, 29 ≤ i → upd g (15 + j) x i = g i := fun i hi => uq_o _ _ (by omega)
  have hN : eN (upd g (15 + j) x) = eN g := by
    unfold eN
    rw [un 13 (by omega)]
  have hQ' : eQ (upd g (15 + j) x) = eQ g := by
    unfold eQ
    rw [un 14 (by omega)]
  have hC : eC (upd g (15 + j) x) = eC g := funext fun c => funext fun k => un2 _ (by omega)
  have W' : ∀ c, c < eN (upd g (15 + j) x) → eC (upd g (15 + j) x) c 2 = 0 := by
    rw [hN, hC]
    exact W
  refine ⟨⟨?_, fun i hi => ?_, fun i hi => ?_, fun i hi => ?_, fun i hi => ?_, fun i hi hi2 => ?_⟩, a, ?_, Z.q (fun i hi => un i (by omega)), W', (un 0 (by omega)).trans z0, (un 1 (by omega)).trans z1, by rw [un 13 (by omega), un 14 (by omega)]; exact z2⟩
  · rw [un 0 (by omega), un 14 (by omega), un 13 (by omega), un 1 (by omega), un 2 (by omega), un 3 (by omega), un 4 (by omega), un 5 (by omega), un 6 (by omega), un 7 (by omega), un 8 (by omega), un 9 (by omega), un 10 (by omega), un 11 (by omega), un 12 (by omega)]
    exact A
  · show upd (sT u) j x i = upd g (15 + j) x (15 + i)
    by_cases e : i = j
    · rw [e, uq_s, uq_s]
    · rw [uq_o _ _ e, uq_o _ _ (by omega)]
      exact k1 i hi
  · rw [un2 _ (by omega)]
    exact k2 i hi
  · rw [un2 _ (by omega)]
    exact k3 i (by rw [← hQ']; exact hi)
  · rw [un2 _ (by omega)]
    exact k4 i (by rw [← hN]; exact hi)
  · rw [un2 _ (by omega)]
    rw [un 8 (by omega)] at hi2
    exact k5 i hi hi2
  · obtain ⟨g1, g2, g3, g4, g5, g6, g7, g8⟩ := G
    have e41 : ∀ i, upd g (15 + j) x (41 + i) = g (41 + i) := fun i => un2 _ (by omega)
    unfold eG eH
    rw [hN, hQ', hC, un 0 (by omega), un 4 (by omega), un 13 (by omega), un 14 (by omega)]
    refine ⟨g1, g2, g3, g4, fun i hi => ?_, fun i i' h1 h2 => ?_, fun c hc h => ?_, fun l hl => ?_⟩
    · rw [e41]
      exact g5 i hi
    · rw [e41, e41]
      exact g6 i i' h1 h2
    · obtain ⟨i, h1, h2⟩ := g7 c hc h
      exact ⟨i, h1, by rw [e41]; exact h2⟩
    · rw [((w_0 W').2.2 (nI l)).2.1, qa_0]
      by_cases e : j = 6
      · subst e
        rw [show 15 + 6 = 21 from rfl, uq_s]
        exact hx rfl
      · have := g8 l hl
        rw [((w_0 W).2.2 (nI l)).2.1, qa_0] at this
        rw [uq_o _ _ (by omega)]
        exact this
theorem eS_18 {g : Nat → Int32} (S : eS g) {x : Int32} (x0 : -500 ≤ x.toInt) (x1 : x.toInt ≤ 500) : eS (upd g 18 x) := by
  obtain ⟨⟨a1, a2, a3, l17, h17, l18, h18, l19, h19, l20, h20, l21, h21, l22, h22, l23, h23, l24, h24, l25, h25, l26, h26, l27, h27, l28, h28⟩, sk⟩ := S
  refine ⟨⟨a1, a2, a3, l17, h17, x0, x1, l19, h19, l20, h20, l21, h21, l22, h22, l23, h23, l24, h24, l25, h25, l26, h26, l27, h27, l28, h28⟩, fun d hd => ?_⟩
  unfold eK
  rw [uq_o _ _ (by omega), uq_o _ _ (by omega), uq_o _ _ (by omega)]
  exact sk d hd
theorem eS_19 {g : Nat → Int32} (S : eS g) {x : Int32} (x0 : 0 ≤ x.toInt) (x1 : x.toInt ≤ 300) : eS (upd g 19 x) := by
  obtain ⟨⟨a1, a2, a3, l17, h17, l18, h18, l19, h19, l20, h20, l21, h21, l22, h22, l23, h23, l24, h24, l25, h25, l26, h26, l27, h27, l28, h28⟩, sk⟩ := S
  refine ⟨⟨a1, a2, a3, l17, h17, l18, h18, x0, x1, l20, h20, l21, h21, l22, h22, l23, h23, l24, h24, l25, h25, l26, h26, l27, h27, l28, h28⟩, fun d hd => ?_⟩
  unfold eK
  rw [uq_o _ _ (by omega), uq_o _ _ (by omega), uq_o _ _ (by omega)]
  exact sk d hd
theorem eS_20 {g : Nat → Int32} (S : eS g) {x : Int32} (x0 : 1 ≤ x.toInt) (x1 : x.toInt ≤ 999) : eS (upd g 20 x) := by
  obtain ⟨⟨a1, a2, a3, l17, h17, l18, h18, l19, h19, l20, h20, l21, h21, l22, h22, l23, h23, l24, h24, l25, h25, l26, h26, l27, h27, l28, h28⟩, sk⟩ := S
  refine ⟨⟨a1, a2, a3, l17, h17, l18, h18, l19, h19, x0, x1, l21, h21, l22, h22, l23, h23, l24, h24, l25, h25, l26, h26, l27, h27, l28, h28⟩, fun d hd => ?_⟩
  unfold eK
  rw [uq_o _ _ (by omega), uq_o _ _ (by omega), uq_o _ _ (by omega)]
  exact sk d hd
theorem eS_21 {g : Nat → Int32} (S : eS g) {x : Int32} (x0 : 1 ≤ x.toInt) (x1 : x.toInt ≤ 30) : eS (upd g 21 x) := by
  obtain ⟨⟨a1, a2, a3, l17, h17, l18, h18, l19, h19, l20, h20, l21, h21, l22, h22, l23, h23, l24, h24, l25, h25, l26, h26, l27, h27, l28, h28⟩, sk⟩ := S
  refine ⟨⟨a1, a2, a3, l17, h17, l18, h18, l19, h19, l20, h20, x0, x1, l22, h22, l23, h23, l24, h24, l25, h25, l26, h26, l27, h27, l28, h28⟩, fun d hd => ?_⟩
  unfold eK
  rw [uq_o _ _ (by omega), uq_o _ _ (by omega), uq_o _ _ (by omega)]
  exact sk d hd
theorem eS_22 {g : Nat → Int32} (S : eS g) {x : Int32} (x0 : 1 ≤ x.toInt) (x1 : x.toInt ≤ 9999) : eS (upd g 22 x) := by
  obtain ⟨⟨a1, a2, a3, l17, h17, l18, h18, l19, h19, l20, h20, l21, h21, l22, h22, l23, h23, l24, h24, l25, h25, l26, h26, l27, h27, l28, h28⟩, sk⟩ := S
  refine ⟨⟨a1, a2, a3, l17, h17, l18, h18, l19, h19, l20, h20, l21, h21, x0, x1, l23, h23, l24, h24, l25, h25, l26, h26, l27, h27, l28, h28⟩, fun d hd => ?_⟩
  unfold eK
  rw [uq_o _ _ (by omega), uq_o _ _ (by omega), uq_o _ _ (by omega)]
  exact sk d hd
theorem eS_23 {g : Nat → Int32} (S : eS g) {x : Int32} (x0 : 0 ≤ x.toInt) (x1 : x.toInt ≤ 9999) : eS (upd g 23 x) := by
  obtain ⟨⟨a1, a2, a3, l17, h17, l18, h18, l19, h19, l20, h20, l21, h21, l22, h22, l23, h23, l24, h24, l25, h25, l26, h26, l27, h27, l28, h28⟩, sk⟩ := S
  refine ⟨⟨a1, a2, a3, l17, h17, l18, h18, l19, h19, l20, h20, l21, h21, l22, h22, x0, x1, l24, h24, l25, h25, l26, h26, l27, h27, l28, h28⟩, fun d hd => ?_⟩
  unfold eK
  rw [uq_o _ _ (by omega), uq_o _ _ (by omega), uq_o _ _ (by omega)]
  exact sk d hd
theorem eS_24 {g : Nat → Int32} (S : eS g) {x : Int32} (x0 : 1 ≤ x.toInt) (x1 : x.toInt ≤ 20) : eS (upd g 24 x) := by
  obtain ⟨⟨a1, a2, a3, l17, h17, l18, h18, l19, h19, l20, h20, l21, h21, l22, h22, l23, h23, l24, h24, l25, h25, l26, h26, l27, h27, l28, h28⟩, sk⟩ := S
  refine ⟨⟨a1, a2, a3, l17, h17, l18, h18, l19, h19, l20, h20, l21, h21, l22, h22, l23, h23, x0, x1, l25, h25, l26, h26, l27, h27, l28, h28⟩, fun d hd => ?_⟩
  unfold eK
  rw [uq_o _ _ (by omega), uq_o _ _ (by omega), uq_o _ _ (by omega)]
  exact sk d hd
theorem eS_25 {g : Nat → Int32} (S : eS g) {x : Int32} (x0 : 0 ≤ x.toInt) (x1 : x.toInt ≤ 50) : eS (upd g 25 x) := by
  obtain ⟨⟨a1, a2, a3, l17, h17, l18, h18, l19, h19, l20, h20, l21, h21, l22, h22, l23, h23, l24, h24, l25, h25, l26, h26, l27, h27, l28, h28⟩, sk⟩ := S
  refine ⟨⟨a1, a2, a3, l17, h17, l18, h18, l19, h19, l20, h20, l21, h21, l22, h22, l23, h23, l24, h24, x0, x1, l26, h26, l27, h27, l28, h28⟩, fun d hd => ?_⟩
  unfold eK
  rw [uq_o _ _ (by omega), uq_o _ _ (by omega), uq_o _ _ (by omega)]
  exact sk d hd
theorem eS_26 {g : Nat → Int32} (S : eS g) {x : Int32} (x0 : 0 ≤ x.toInt) (x1 : x.toInt ≤ 20) : eS (upd g 26 x) := by
  obtain ⟨⟨a1, a2, a3, l17, h17, l18, h18, l19, h19, l20, h20, l21, h21, l22, h22, l23, h23, l24, h24, l25, h25, l26, h26, l27, h27, l28, h28⟩, sk⟩ := S
  refine ⟨⟨a1, a2, a3, l17, h17, l18, h18, l19, h19, l20, h20, l21, h21, l22, h22, l23, h23, l24, h24, l25, h25, x0, x1, l27, h27, l28, h28⟩, fun d hd => ?_⟩
  unfold eK
  rw [uq_o _ _ (by omega), uq_o _ _ (by omega), uq_o _ _ (by omega)]
  exact sk d hd
theorem eS_27 {g : Nat → Int32} (S : eS g) {x : Int32} (x0 : 1 ≤ x.toInt) (x1 : x.toInt ≤ 20) : eS (upd g 27 x) := by
  obtain ⟨⟨a1, a2, a3, l17, h17, l18, h18, l19, h19, l20, h20, l21, h21, l22, h22, l23, h23, l24, h24, l25, h25, l26, h26, l27, h27, l28, h28⟩, sk⟩ := S
  refine ⟨⟨a1, a2, a3, l17, h17, l18, h18, l19, h19, l20, h20, l21, h21, l22, h22, l23, h23, l24, h24, l25, h25, l26, h26, x0, x1, l28, h28⟩, fun d hd => ?_⟩
  unfold eK
  rw [uq_o _ _ (by omega), uq_o _ _ (by omega), uq_o _ _ (by omega)]
  exact sk d hd
theorem eS_28 {g : Nat → Int32} (S : eS g) {x : Int32} (x0 : 1 ≤ x.toInt) (x1 : x.toInt ≤ 50) : eS (upd g 28 x) := by
  obtain ⟨⟨a1, a2, a3, l17, h17, l18, h18, l19, h19, l20, h20, l21, h21, l22, h22, l23, h23, l24, h24, l25, h25, l26, h26, l27, h27, l28, h28⟩, sk⟩ := S
  refine ⟨⟨a1, a2, a3, l17, h17, l18, h18, l19, h19, l20, h20, l21, h21, l22, h22, l23, h23, l24, h24, l25, h25, l26, h26, l27, h27, x0, x1⟩, fun d hd => ?_⟩
  unfold eK
  rw [uq_o _ _ (by omega), uq_o _ _ (by omega), uq_o _ _ (by omega)]
  exact sk d hd
theorem eS_tide {g : Nat → Int32} (S : eS g) {x x' y : Int32} (x0 : -500 ≤ x.toInt) (x1 : x.toInt ≤ x'.toInt) (x2 : x'.toInt ≤ 500) (y0 : 1 ≤ y.toInt) (y1 : y.toInt ≤ 99) : eS (upd (upd (upd g 17 y) 15 x) 16 x') := by
  obtain ⟨⟨a1, a2, a3, l17, h17, l18, h18, l19, h19, l20, h20, l21, h21, l22, h22, l23, h23, l24, h24, l25, h25, l26, h26, l27, h27, l28, h28⟩, sk⟩ := S
  refine ⟨⟨x0, x1, x2, y0, y1, l18, h18, l19, h19, l20, h20, l21, h21, l22, h22, l23, h23, l24, h24, l25, h25, l26, h26, l27, h27, l28, h28⟩, fun d hd => ?_⟩
  have un : ∀ i, 29 ≤ i → upd (upd (upd g 17 y) 15 x) 16 x' i = g i := fun i hi => by rw [uq_o _ _ (by omega), uq_o _ _ (by omega), uq_o _ _ (by omega)]
  unfold eK
  rw [un _ (by omega), un _ (by omega), un _ (by omega)]
  exact sk d hd
/-- a kind's three facts -/
def kdU (u : KS) (r : Nat) (a b c : Int32) : KS := wK (wK (wK u (3 * r) a) (3 * r + 1) b) (3 * r + 2) c
def kdG (g : Nat → Int32) (r : Nat) (a b c : Int32) : Nat → Int32 := upd (upd (upd g (29 + 3 * r) a) (30 + 3 * r) b) (31 + 3 * r) c
theorem kd_u {u : KS} {r : Nat} (hr : r < 4) {x : Int32} (hx : x.toInt = (r : Int)) (a b c : Int32) : fX8_setKind x a b c u = some (kdU u r a b c) := by
  have t3 : (3 : Int32).toInt = 3 := by decide
  have e : (x * 3).toInt = ((3 * r : Nat) : Int) := by
    rw [qa_mul, hx, t3]
    · omega
    · rw [hx, t3]; omega
    · rw [hx, t3]; omega
  have ek : ∀ (k : Nat), k ≤ 2 → (x * 3 + nI k).toInt = ((3 * r + k : Nat) : Int) := by
    intro k hk
    have hK := qa_nI (n := k) (by omega)
    rw [qa_add, e, hK]
    · omega
    · rw [e, hK]; omega
    · rw [e, hK]; omega
  have f0 := ek 0 (by omega)
  have f1 := ek 1 (by omega)
  have f2 := ek 2 (by omega)
  rw [show nI 0 = 0 from rfl] at f0
  rw [show nI 1 = 1 from rfl] at f1
  rw [show nI 2 = 2 from rfl] at f2
  unfold fX8_setKind fX8_setKind_b0
  rw [if_neg (by rw [qa_lt, qa_0]; omega), if_neg (by rw [qa_le, qa_4]; omega), qa_gi (by omega) (by omega), qa_gi (by omega) (by omega), qa_gi (by omega) (by omega), qa_ix f0, qa_ix f1, qa_ix f2]
  rfl
theorem kd_g {g : Nat → Int32} {r : Nat} (hr : r < 4) {x : Int32} (hx : x.toInt = (r : Int)) (a b c : Int32) : fX10_layKind x a b c g = some (kdG g r a b c) := by
  have t3 : (3 : Int32).toInt = 3 := by decide
  have t29 : (29 : Int32).toInt = 29 := by decide
  have e : (3 * x).toInt = ((3 * r : Nat) : Int) := by
    rw [qa_mul, hx, t3]
    · omega
    · rw [hx, t3]; omega
    · rw [hx, t3]; omega
  have f0 : (29 + 3 * x).toInt = ((29 + 3 * r : Nat) : Int) := by
    rw [qa_add, e, t29]
    · omega
    · rw [e, t29]; omega
    · rw [e, t29]; omega
  have f1 : (29 + 3 * x + 1).toInt = ((30 + 3 * r : Nat) : Int) := by
    rw [qa_add, f0, qa_1]
    · omega
    · rw [f0, qa_1]; omega
    · rw [f0, qa_1]; omega
  have f2 : (29 + 3 * x + 2).toInt = ((31 + 3 * r : Nat) : Int) := by
    rw [qa_add, f0, qa_2]
    · omega
    · rw [f0, qa_2]; omega
    · rw [f0, qa_2]; omega
  unfold fX10_layKind fX10_layKind_b0
  rw [qa_gi (by omega) (by omega), qa_gi (by omega) (by omega), qa_gi (by omega) (by omega), qa_ix f0, qa_ix f1, qa_ix f2]
  rfl
theorem dQ.kind {u : KS} {g : Nat → Int32} (D : dQ u g) {r : Nat} (hr : r < 4) (x y z : Int32) : dQ (kdU u r x y z) (kdG g r x y z) := by
  obtain ⟨⟨A, k1, k2, k3, k4, k5⟩, a, G, Z, W, z0, z1, z2⟩ := D
  have un : ∀ i, i < 29 → kdG g r x y z i = g i := fun i hi => by
    unfold kdG
    rw [uq_o _ _ (by omega), uq_o _ _ (by omega), uq_o _ _ (by omega)]
  have un2 : ∀ i, 41 ≤ i → kdG g r x y z i = g i := fun i hi => by
    unfold kdG
    rw [uq_o _ _ (by omega), uq_o _ _ (by omega), uq_o _ _ (by omega)]
  have hN : eN (kdG g r x y z) = eN g := by
    unfold eN
    rw [un 13 (by omega)]
  have hQ' : eQ (kdG g r x y z) = eQ g := by
    unfold eQ
    rw [un 14 (by omega)]
  have hC : eC (kdG g r x y z) = eC g := funext fun c => funext fun k => un2 _ (by omega)
  have W' : ∀ c, c < eN (kdG g r x y z) → eC (kdG g r x y z) c 2 = 0 := by
    rw [hN, hC]
    exact W
  refine ⟨⟨?_, fun i hi => ?_, fun i hi => ?_, fun i hi => ?_, fun i hi => ?_, fun i hi hi2 => ?_⟩, a, ?_, Z.q (fun i hi => un i (by omega)), W', (un 0 (by omega)).trans z0, (un 1 (by omega)).trans z1, by rw [un 13 (by omega), un 14 (by omega)]; exact z2⟩
  · rw [un 0 (by omega), un 14 (by omega), un 13 (by omega), un 1 (by omega), un 2 (by omega), un 3 (by omega), un 4 (by omega), un 5 (by omega), un 6 (by omega), un 7 (by omega), un 8 (by omega), un 9 (by omega), un 10 (by omega), un 11 (by omega), un 12 (by omega)]
    exact A
  · rw [un _ (by omega)]
    exact k1 i hi
  · show upd (upd (upd (sK u) (3 * r) x) (3 * r + 1) y) (3 * r + 2) z i = kdG g r x y z (29 + i)
    unfold kdG
    by_cases e2 : i = 3 * r + 2
    · rw [e2, uq_s, show 29 + (3 * r + 2) = 31 + 3 * r by omega, uq_s]
    rw [uq_o _ _ e2, uq_o _ _ (by omega : 29 + i ≠ 31 + 3 * r)]
    by_cases e1 : i = 3 * r + 1
    · rw [e1, uq_s, show 29 + (3 * r + 1) = 30 + 3 * r by omega, uq_s]
    rw [uq_o _ _ e1, uq_o _ _ (by omega : 29 + i ≠ 30 + 3 * r)]
    by_cases e0 : i = 3 * r
    · rw [e0, uq_s, uq_s]
    rw [uq_o _ _ e0, uq_o _ _ (by omega : 29 + i ≠ 29 + 3 * r)]
    exact k2 i hi
  · rw [un2 _ (by omega)]
    exact k3 i (by rw [← hQ']; exact hi)
  · rw [un2 _ (by omega)]
    exact k4 i (by rw [← hN]; exact hi)
  · rw [un2 _ (by omega)]
    rw [un 8 (by omega)] at hi2
    exact k5 i hi hi2
  · obtain ⟨g1, g2, g3, g4, g5, g6, g7, g8⟩ := G
    have e41 : ∀ i, kdG g r x y z (41 + i) = g (41 + i) := fun i => un2 _ (by omega)
    unfold eG eH
    rw [hN, hQ', hC, un 0 (by omega), un 4 (by omega), un 13 (by omega), un 14 (by omega), un 21 (by omega)]
    refine ⟨g1, g2, g3, g4, fun i hi => ?_, fun i i' h1 h2 => ?_, fun c hc h => ?_, fun l hl => ?_⟩
    · rw [e41]
      exact g5 i hi
    · rw [e41, e41]
      exact g6 i i' h1 h2
    · obtain ⟨i, h1, h2⟩ := g7 c hc h
      exact ⟨i, h1, by rw [e41]; exact h2⟩
    · rw [((w_0 W').2.2 (nI l)).2.1]
      have := g8 l hl
      rw [((w_0 W).2.2 (nI l)).2.1] at this
      exact this
theorem eS.kind {g : Nat → Int32} (S : eS g) {r : Nat} (hr : r < 4) {x y z : Int32} (x0 : 0 ≤ x.toInt) (x1 : x.toInt ≤ 500) (y0 : 0 ≤ y.toInt) (y1 : y.toInt ≤ 99) (z0 : 1 ≤ z.toInt) (z1 : z.toInt ≤ 9) : eS (kdG g r x y z) := by
  have un : ∀ i, i < 29 → kdG g r x y z i = g i := fun i hi => by
    unfold kdG
    rw [uq_o _ _ (by omega), uq_o _ _ (by omega), uq_o _ _ (by omega)]
  obtain ⟨S1, sk⟩ := S
  refine ⟨?_, fun d hd => ?_⟩
  · rw [un 15 (by omega), un 16 (by omega), un 17 (by omega), un 18 (by omega), un 19 (by omega), un 20 (by omega), un 21 (by omega), un 22 (by omega), un 23 (by omega), un 24 (by omega), un 25 (by omega), un 26 (by omega), un 27 (by omega), un 28 (by omega)]
    exact S1
  · by_cases e : d = r
    · subst e
      have a0 : eK (kdG g d x y z) d 0 = x := by
        show kdG g d x y z (29 + 3 * d + 0) = x
        unfold kdG
        rw [uq_o _ _ (by omega), uq_o _ _ (by omega)]
        exact uq_s _ _ _
      have a1 : eK (kdG g d x y z) d 1 = y := by
        show kdG g d x y z (29 + 3 * d + 1) = y
        unfold kdG
        rw [show 29 + 3 * d + 1 = 30 + 3 * d by omega, uq_o _ _ (by omega)]
        exact uq_s _ _ _
      have a2 : eK (kdG g d x y z) d 2 = z := by
        show kdG g d x y z (29 + 3 * d + 2) = z
        unfold kdG
        rw [show 29 + 3 * d + 2 = 31 + 3 * d by omega]
        exact uq_s _ _ _
      rw [a0, a1, a2]
      exact ⟨x0, x1, y0, y1, z0, z1⟩
    · have ek : ∀ k, k ≤ 2 → eK (kdG g r x y z) d k = eK g d k := by
        intro k hk
        unfold eK kdG
        rw [uq_o _ _ (by omega), uq_o _ _ (by omega), uq_o _ _ (by omega)]
      rw [ek 0 (by omega), ek 1 (by omega), ek 2 (by omega)]
      exact sk d hd
