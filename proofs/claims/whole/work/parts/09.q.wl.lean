/-! the best car to wave; the lanes written -/
theorem c_bestFirst {B : Int} {F : FS} {M : RS} (A : eAll B F M) (hB : B + 400 ≤ 100000000) (x : Int32) : eC1 B xIA (fX9_bestFirst x F) (fX10_bestFirst x M) := by
  have v : (99 : Int32).toInt = 99 := by decide
  unfold fX9_bestFirst fX9_bestFirst_b0 fX9_bestFirst_b11 fX10_bestFirst fX10_bestFirst_b0
  by_cases h0 : x.toInt < 1
  · rw [if_pos (by rw [qa_lt, qa_1]; exact h0), bt_0 (by rw [qa_1]; omega), qa_b, if_pos (rfl : (0 : Int32) = 0)]
    exact ⟨_, _, _, _, rfl, rfl, A, Or.inl ⟨rfl, rfl⟩⟩
  rw [if_neg (by rw [qa_lt, qa_1]; exact h0)]
  by_cases h1 : x.toInt ≤ 99
  · have hx := qa_ixI (i := x) (by omega)
    have c1 : fX10_copy 0 0 561 (mSt (nTh M 0)) 561 (mTr (nTh M 0)) = some (va_cpy (mSt M) (mTr M) 0 0 561) := rb_copy qa_0 qa_0 (by omega) (by omega) (by omega)
    rw [if_pos (by rw [qa_le, v]; exact h1), bt_1 (by rw [qa_1]; omega) (by rw [v]; omega), qa_b, if_neg n10, c1, qa_b]
    obtain ⟨tr, htr⟩ : ∃ tr, tr = va_cpy (mSt M) (mTr M) 0 0 561 := ⟨_, rfl⟩
    have ht : ∀ i, i < 561 → tr i = mSt M i := fun i hi => by rw [htr]; exact cpy0 _ _ i hi
    rw [← htr]
    have G := A.2.1.2.1
    have hq := G.q
    have c14 : sC (fN F) 1 = mSt M 14 := A.1.1.1.2.1
    refine qa_lrel (fun j (s : Int32 × Int32 × Int32 × Int32 × FS) (t : Int32 × Int32 × Int32 × Int32 × RS) => ∃ (b m : Int32) (w : KS) (g : Nat → Int32), s = (x, b, m, nI j, gT F w) ∧ t = (x, b, m, nI j, nStA (nTrA (nTh M 0) tr) g) ∧ ∀ i, i < 561 → g i = mSt M i) (fun a b => eC1 B xIA a b) (eQ (mSt M)) ?_ 5000 5000 0 (x, (-1), (-1), 0, F) (x, (-1), (-1), 0, nTrA (nTh M 0) tr) ⟨(-1), (-1), fT F, mSt M, ?_, rfl, fun i hi => rfl⟩ (by omega) (by omega) (by omega)
    · intro j s t k l hj hI hk
      obtain ⟨b, m, w, g, e1, e2, hg⟩ := hI
      subst e1 e2
      have hjI := qa_nI (n := j) (by omega)
      show eC1 B xIA (fX9_bestFirst_b28 k x b m (nI j) (gT F w)) (fX10_bestFirst_b41 l x b m (nI j) (nStA (nTrA (nTh M 0) tr) g))
      unfold fX9_bestFirst_b28 fX9_bestFirst_b94 fX10_bestFirst_b41 fX10_bestFirst_b92
      have a1 : sC (fN (gT F w)) 1 = mSt M 14 := c14
      have a2 : mTr (nStA (nTrA (nTh M 0) tr) g) 14 = mSt M 14 := ht 14 (by omega)
      rw [a1, a2]
      by_cases q : j = eQ (mSt M)
      · rw [if_pos (by rw [qa_le]; omega), if_pos (by rw [qa_le]; omega)]
        exact ⟨.inr b, gT F w, b, nStA (nTrA (nTh M 0) tr) g, rfl, rfl, ((A.T w).th 0 (mAs M) tr).st hg, Or.inr ⟨rfl, rfl⟩⟩
      · have hj : j < eQ (mSt M) := by omega
        obtain ⟨w1, ew, cw⟩ := sb_copy (fT (gT F w)) (fN (gT F w))
        have R1 : eRel w1 g := (A.1.cp G cw).cong G hg
        have I1 : eInv B g := A.2.1.cong hg
        have Q1 : eQ g = eQ (mSt M) := by unfold eQ; rw [hg 14 (by omega)]
        have s1 : sC w1 1 = nI (eQ g) := by
          rw [R1.1.1.2.1]
          exact (qa_nIx I1.2.1.2.2.2.1.1).symm
        have hu := sb_front (u := w1) (p := j) (q := eQ g) (by omega) (by omega) s1
        have hu : fX8_bringToFront (nI j) (fT (gT (gT F w) w1)) = some (wQA w1 (rtQ (sQ w1) 0 j)) := hu
        have gj : mTr (nStA (nTrA (nTh M 0) tr) g) (41 + j) = mSt M (41 + j) := ht _ (by omega)
        have hm : fX10_moveToFront (mSt M (41 + j)) (mSt (nStA (nTrA (nTh M 0) tr) g)) = some (nI j, rtQ g 41 j) := rb_front (by omega) (hg _ (by omega)) (fun i hi h => G.2.2.2.2.2.1 i j hi hj (by rw [← h]; exact (hg _ (by omega)).symm))
        obtain ⟨z1, z2, z3⟩ := wv_rel R1 I1 (p := j) (by omega)
        obtain ⟨r, u', g', p1, p2, p3, p4⟩ := ps_sim z1 z2 (by omega : ix x ≤ 200) hB hx
        have p1 : fX8_passTicks x (fT (gT (gT (gT F w) w1) (wQA w1 (rtQ (sQ w1) 0 j)))) = some (r, u') := p1
        have p2 : fX10_tickMany x (mSt (nStA (nStA (nTrA (nTh M 0) tr) g) (rtQ g 41 j))) = some (r, g') := p2
        have c2 : ∀ f2, fX10_copy 0 0 561 tr 561 f2 = some (va_cpy tr f2 0 0 561) := fun f2 => rb_copy qa_0 qa_0 (by omega) (by omega) (by omega)
        have c2' : fX10_copy 0 0 561 (mTr (nStA (nStA (nStA (nTrA (nTh M 0) tr) g) (rtQ g 41 j)) g')) 561 (mSt (nStA (nStA (nStA (nTrA (nTh M 0) tr) g) (rtQ g 41 j)) g')) = some (va_cpy tr g' 0 0 561) := c2 g'
        have i41 := qx_41 (j := j) (by omega)
        have qj : sQ (fN (gT (gT (gT (gT F w) w1) (wQA w1 (rtQ (sQ w1) 0 j))) u')) j = mSt M (41 + j) := A.1.1.2.2.2.1 j hj
        rw [if_neg (by rw [qa_le]; omega), if_neg (by rw [qa_le]; omega), ew, qa_b, hu, qa_b, p1, qa_b2, qa_gi (by omega) (by omega), qa_ix i41, gj, hm, qa_b2, p2, qa_b2, nI_1, c2', qa_b]
        have back : ∀ i, i < 561 → va_cpy tr g' 0 0 561 i = mSt M i := fun i hi => by rw [cpy0 _ _ i hi]; exact ht i hi
        by_cases q3 : r ≤ m
        · rw [if_pos q3, if_pos q3]
          exact hk _ _ hj ⟨b, m, u', va_cpy tr g' 0 0 561, rfl, rfl, back⟩
        · rw [if_neg q3, if_neg q3, sc_at j hjI (by omega) (by omega), qa_b, qj]
          exact hk _ _ hj ⟨mSt M (41 + j), r, u', va_cpy tr g' 0 0 561, rfl, rfl, back⟩
    · obtain ⟨f1, f2, f3⟩ := F
      rfl
  · rw [if_neg (by rw [qa_le, v]; exact h1), bt_0 (by rw [v]; omega), qa_b, if_pos (rfl : (0 : Int32) = 0)]
    exact ⟨_, _, _, _, rfl, rfl, A, Or.inl ⟨rfl, rfl⟩⟩
-- the output
def eAl0 (B : Int) (F : FS) (M : RS) : Prop := eRel (fN F) (mSt M) ∧ eInv B (mSt M) ∧ eHi B F M ∧ eSv B F M ∧ (∀ i, i < 5 → fO F i = mAo M i) ∧ ePa (fP F) M
/-- n bytes are written, alike -/
def eWr (B : Int) (u : KS) (g : Nat → Int32) (n : Nat) (F : FS) (M : RS) : Prop := eAl0 B F M ∧ fN F = u ∧ mSt M = g ∧ fL F = nI n ∧ mOl M = nI n ∧ ∀ i, i < n → fU F i = mOu M i
theorem al0_U {B : Int} {F : FS} {M : RS} (h : eAl0 B F M) (n : Nat) (x : Int32) : eAl0 B (gU F n x) (nOu M n x) := by
  obtain ⟨a1, a2, a3, a4, a5, a6⟩ := h
  exact ⟨a1, a2, a3, a4, a5, a6⟩
theorem al0_L {B : Int} {F : FS} {M : RS} (h : eAl0 B F M) (y y' : Int32) : eAl0 B (gL F y) (nOl M y') := by
  obtain ⟨a1, a2, a3, a4, a5, a6⟩ := h
  exact ⟨a1, a2, a3, a4, a5, a6⟩
theorem fN_L (F : FS) (y : Int32) : fN (gL F y) = fN F := rfl
theorem fN_U (F : FS) (n : Nat) (y : Int32) : fN (gU F n y) = fN F := rfl
theorem mSt_L (M : RS) (y : Int32) : mSt (nOl M y) = mSt M := rfl
theorem mSt_U (M : RS) (n : Nat) (y : Int32) : mSt (nOu M n y) = mSt M := rfl
theorem fL_U (F : FS) (n : Nat) (y : Int32) : fL (gU F n y) = fL F := rfl
theorem mOl_U (M : RS) (n : Nat) (y : Int32) : mOl (nOu M n y) = mOl M := rfl
theorem fL_L (F : FS) (y : Int32) : fL (gL F y) = y := rfl
theorem mOl_L (M : RS) (y : Int32) : mOl (nOl M y) = y := rfl
theorem fU_U (F : FS) (n : Nat) (y : Int32) : fU (gU F n y) = upd (fU F) n y := rfl
theorem mOu_U (M : RS) (n : Nat) (y : Int32) : mOu (nOu M n y) = upd (mOu M) n y := rfl
theorem fU_L (F : FS) (y : Int32) : fU (gL F y) = fU F := rfl
theorem mOu_L (M : RS) (y : Int32) : mOu (nOl M y) = mOu M := rfl
theorem wr_byte {B : Int} {u : KS} {g : Nat → Int32} {n : Nat} {F : FS} {M : RS} (W : eWr B u g n F M) (hn : n < 256) (x : Int32) : ∃ F' M', fX9_writeByte x F = some F' ∧ fX10_emit x M = some M' ∧ eWr B u g (n + 1) F' M' := by
  obtain ⟨w1, w2, w3, w4, w5, w6⟩ := W
  have hI := qa_nI (n := n) (by omega)
  have v : (256 : Int32).toInt = 256 := by decide
  have e1 : fX9_writeByte x F = some (gL (gU F n x) (nI (n + 1))) := by
    unfold fX9_writeByte fX9_writeByte_b0
    rw [fL_U, w4, if_neg (by rw [qa_lt, qa_0]; omega), if_neg (by rw [qa_le, v]; omega), qa_gi (by omega) (by omega), qa_ix hI, nI_1]
  have e2 : fX10_emit x M = some (nOl (nOu M n x) (nI (n + 1))) := by
    unfold fX10_emit fX10_emit_b0
    rw [mOl_U, w5, qa_gi (by omega) (by omega), qa_ix hI, nI_1]
  refine ⟨_, _, e1, e2, al0_L (al0_U w1 n x) _ _, ?_, ?_, fL_L _ _, mOl_L _ _, fun i hi => ?_⟩
  · rw [fN_L, fN_U, w2]
  · rw [mSt_L, mSt_U, w3]
  · rw [fU_L, mOu_L, fU_U, mOu_U]
    by_cases e : i = n
    · rw [e, pk_us, pk_us]
    · rw [pk_un e, pk_un e]
      exact w6 i (by omega)
theorem wr_num {B : Int} {u : KS} {g : Nat → Int32} {n : Nat} {F : FS} {M : RS} (W : eWr B u g n F M) (hn : n + 1 < 256) (x : Int32) : ∃ n' F' M', n' ≤ n + 2 ∧ fX9_writeNumber x F = some F' ∧ fX10_emitNumber x M = some M' ∧ eWr B u g n' F' M' := by
  unfold fX9_writeNumber fX9_writeNumber_b0 fX9_writeNumber_b17 fX10_emitNumber fX10_emitNumber_b0 fX10_emitNumber_b17
  by_cases q : x < 10
  · rw [if_pos q, if_pos q]
    obtain ⟨F', M', e1, e2, e3⟩ := wr_byte W (by omega) (48 + (x - x / 10 * 10))
    rw [e1, e2, qa_b, qa_b]
    exact ⟨n + 1, _, _, by omega, rfl, rfl, e3⟩
  · rw [if_neg q, if_neg q]
    obtain ⟨F1, M1, e1, e2, e3⟩ := wr_byte W (by omega) (48 + x / 10)
    obtain ⟨F2, M2, g1, g2, g3⟩ := wr_byte e3 (by omega) (48 + (x - x / 10 * 10))
    rw [e1, e2, qa_b, qa_b, g1, g2, qa_b, qa_b]
    exact ⟨n + 2, _, _, by omega, rfl, rfl, g3⟩
theorem three_lanes {g : Nat → Int32} (H : eH g) : 0 ≤ (eM g (nI 0)).toInt ∧ 0 ≤ (eM g (nI 1)).toInt ∧ 0 ≤ (eM g (nI 2)).toInt ∧ (eM g (nI 0)).toInt + (eM g (nI 1)).toInt + (eM g (nI 2)).toInt ≤ 60 := by
  have hn := H.n
  have key : ∀ n, n ≤ 60 → 0 ≤ (sI (eMf g (nI 0)) n).toInt ∧ 0 ≤ (sI (eMf g (nI 1)) n).toInt ∧ 0 ≤ (sI (eMf g (nI 2)) n).toInt ∧ (sI (eMf g (nI 0)) n).toInt + (sI (eMf g (nI 1)) n).toInt + (sI (eMf g (nI 2)) n).toInt ≤ n := by
    intro n
    induction n with
    | zero =>
      intro _
      have : (sI (eMf g (nI 0)) 0).toInt = 0 ∧ (sI (eMf g (nI 1)) 0).toInt = 0 ∧ (sI (eMf g (nI 2)) 0).toInt = 0 := ⟨qa_0, qa_0, qa_0⟩
      omega
    | succ n ih =>
      intro hn
      have h := ih (by omega)
      have f : ∀ l, (eMf g l n).toInt = if eAt g l n then 1 else 0 := by
        intro l
        unfold eMf
        split
        · exact qa_1
        · exact qa_0
      have f0 := f (nI 0)
      have f1 := f (nI 1)
      have f2 := f (nI 2)
      have e01 : ¬ (eAt g (nI 0) n ∧ eAt g (nI 1) n) := fun h => absurd (h.1.2.symm.trans h.2.2) (by decide)
      have e02 : ¬ (eAt g (nI 0) n ∧ eAt g (nI 2) n) := fun h => absurd (h.1.2.symm.trans h.2.2) (by decide)
      have e12 : ¬ (eAt g (nI 1) n ∧ eAt g (nI 2) n) := fun h => absurd (h.1.2.symm.trans h.2.2) (by decide)
      have ft : 0 ≤ (eMf g (nI 0) n).toInt ∧ 0 ≤ (eMf g (nI 1) n).toInt ∧ 0 ≤ (eMf g (nI 2) n).toInt ∧ (eMf g (nI 0) n).toInt + (eMf g (nI 1) n).toInt + (eMf g (nI 2) n).toInt ≤ 1 := by
        rw [f0, f1, f2]
        by_cases a0 : eAt g (nI 0) n
        · rw [if_pos a0, if_neg (fun h => e01 ⟨a0, h⟩), if_neg (fun h => e02 ⟨a0, h⟩)]
          omega
        · rw [if_neg a0]
          by_cases a1 : eAt g (nI 1) n
          · rw [if_pos a1, if_neg (fun h => e12 ⟨a1, h⟩)]
            omega
          · rw [if_neg a1]
            split <;> omega
      show 0 ≤ (sI (eMf g (nI 0)) n + eMf g (nI 0) n).toInt ∧ 0 ≤ (sI (eMf g (nI 1)) n + eMf g (nI 1) n).toInt ∧ 0 ≤ (sI (eMf g (nI 2)) n + eMf g (nI 2) n).toInt ∧ (sI (eMf g (nI 0)) n + eMf g (nI 0) n).toInt + (sI (eMf g (nI 1)) n + eMf g (nI 1) n).toInt + (sI (eMf g (nI 2)) n + eMf g (nI 2) n).toInt ≤ _
      rw [qa_add (by omega) (by omega), qa_add (by omega) (by omega), qa_add (by omega) (by omega)]
      omega
  have := key (eN g) hn.2
  unfold eM
  omega
theorem wl_lane {B : Int} {u : KS} {g : Nat → Int32} (R : eRel u g) (I : eInv B g) {l d : Nat} (hl : l < 3) (hd : sD u l = nI d) (d1 : d ≤ 30) (d3 : eM g (nI l) = nI d) {n0 : Nat} (hn0 : n0 + 3 * d + 4 ≤ 200) (k7 : Int32 × FS → Option (Int32 × FS)) (k12 : Int32 × RS → Option (Int32 × RS)) (Q : Option (Int32 × FS) → Option (Int32 × RS) → Prop)
    (hk : ∀ F' M' n', eWr B u g n' F' M' → n' ≤ n0 + 3 * d + 4 → Q (k7 (nI (l + 1), F')) (k12 (nI (l + 1), M'))) {F : FS} {M : RS} {n : Nat} (W : eWr B u g n F M) (hn : n ≤ n0) :
    Q (lop (fun y (z : Int32 × Int32 × FS) => fX9_writeLanes_b14 k7 y z.1 z.2.1 z.2.2) LF (nI l, 0, F)) (lop (fun y (z : Int32 × Int32 × RS) => fX10_writeLanes_b19 k12 y z.1 z.2.1 z.2.2) LF (nI l, 0, M)) := by
  have hlI := qa_nI (n := l) (by omega)
  have hdI := qa_nI (n := d) (by omega)
  have t6 : sT u 6 = g 21 := R.1.2.1 6 (by decide)
  have hN := (R.2.1.2.2 l hl).2
  refine qa_lrel (fun j (s : Int32 × Int32 × FS) (t : Int32 × Int32 × RS) => ∃ (n : Nat) (F' : FS) (M' : RS), s = (nI l, nI j, F') ∧ t = (nI l, nI j, M') ∧ eWr B u g n F' M' ∧ n ≤ n0 + 3 * j) Q d ?_ 5000 5000 0 _ _ ⟨n, F, M, rfl, rfl, W, by omega⟩ (by omega) (by omega) (by omega)
  intro j s t k k' hj hI hkk
  obtain ⟨m, F1, M1, e1, e2, W1, hm⟩ := hI
  subst e1 e2
  have hjI := qa_nI (n := j) (by omega)
  show Q (fX9_writeLanes_b14 k7 k (nI l) (nI j) F1) (fX10_writeLanes_b19 k12 k' (nI l) (nI j) M1)
  unfold fX9_writeLanes_b14 fX10_writeLanes_b19
  rw [qa_gi (by omega) (by omega), W1.2.1, W1.2.2.1, qa_ix hlI, hd, rb_standingMany I.2.1.1, qa_b, d3]
  by_cases q : j = d
  · rw [if_pos (by rw [qa_le]; omega), if_pos (by rw [qa_le]; omega)]
    obtain ⟨F2, M2, a1, a2, W2⟩ := wr_byte W1 (by omega) 47
    obtain ⟨m3, F3, M3, hm3, b1, b2, W3⟩ := wr_num W2 (by omega) (g 21 - eL g (nI l))
    obtain ⟨F4, M4, c1, c2, W4⟩ := wr_byte W3 (by omega) 59
    rw [a1, qa_b, a2, qa_b, qa_gi (by omega) (by omega), W2.2.1, W2.2.2.1, t6, hN, b1, qa_b, c1, qa_b, rb_freeOf I.2.1.1, qa_b, b2, qa_b, c2, qa_b, nI_1]
    exact hk _ _ _ W4 (by omega)
  · have hj : j < d := by omega
    have nd : ¬ nI d ≤ nI j := by
      rw [qa_le]
      omega
    rw [if_neg nd, if_neg nd]
    have b37 : ∀ (F2 : FS) (M2 : RS) (m2 : Nat), eWr B u g m2 F2 M2 → m2 ≤ n0 + 3 * j + 1 → Q (fX9_writeLanes_b37 k7 k (nI l) (nI j) F2) (fX10_writeLanes_b38 k12 k' (nI l) (nI j) M2) := by
      intro F2 M2 m2 W2 hm2
      obtain ⟨m3, F3, M3, hm3, b1, b2, W3⟩ := wr_num W2 (by omega) (sO u (30 * l + j))
      unfold fX9_writeLanes_b37 fX10_writeLanes_b38
      rw [W2.2.1, sb_carIn (g := g) hlI hl hd d1 hjI hj, qa_b, b1, qa_b, W2.2.2.1, rb_stIn I.2.1.1 R.2.2.1 hl hd d1 hj, qa_b, b2, qa_b, nI_1]
      exact hkk _ _ hj ⟨m3, F3, M3, rfl, rfl, W3, by omega⟩
    by_cases q0 : j = 0
    · have p0 : nI j ≤ 0 := by
        rw [qa_le, qa_0]
        omega
      rw [if_pos p0, if_pos p0]
      exact b37 F1 M1 m W1 (by omega)
    · have p0 : ¬ nI j ≤ 0 := by
        rw [qa_le, qa_0]
        omega
      rw [if_neg p0, if_neg p0]
      obtain ⟨F2, M2, a1, a2, W2⟩ := wr_byte W1 (by omega) 44
      rw [a1, qa_b, a2, qa_b]
      exact b37 F2 M2 (m + 1) W2 (by omega)
theorem c_writeLanes {B : Int} {F : FS} {M : RS} (A : eAll B F M) : eCw B (fX9_writeLanes F) (fX10_writeLanes M) := by
  obtain ⟨a1, a2, ⟨y, k, hx, hk, ex, ey, em, hj⟩, a4, a5, a6, a7⟩ := A
  have W0 : eWr B (fN F) (mSt M) 0 (gL F 0) (nOl (nTh M 0) 0) := ⟨⟨a1, a2, ⟨y, k, hx, hk, ex, ey, em, hj⟩, a4, a5, a7⟩, rfl, rfl, rfl, rfl, fun i hi => by omega⟩
  obtain ⟨d0, p1, p2, p3, -⟩ := a1.2.2.1 0 (by omega)
  obtain ⟨d1, q1, q2, q3, -⟩ := a1.2.2.1 1 (by omega)
  obtain ⟨d2, r1, r2, r3, -⟩ := a1.2.2.1 2 (by omega)
  have tl := three_lanes a2.2.1.1
  rw [p3, q3, r3, qa_nI (by omega), qa_nI (by omega), qa_nI (by omega)] at tl
  unfold fX9_writeLanes fX9_writeLanes_b0 fX10_writeLanes fX10_writeLanes_b0
  have stop : ∀ (F' : FS) (M' : RS) (n : Nat) k k', eWr B (fN F) (mSt M) n F' M' → n ≤ 200 → eCw B (fX9_writeLanes_b7 k (nI 3) F') (fX10_writeLanes_b12 k' (nI 3) M') := by
    intro F' M' n k k' W hn
    obtain ⟨⟨b1, b2, b3, b4, b5, b6⟩, w2, w3, w4, w5, w6⟩ := W
    unfold fX9_writeLanes_b7 fX10_writeLanes_b12
    rw [if_pos (by decide), if_pos (by decide), w4, w5]
    exact ⟨nI n, F', M', rfl, rfl, b1, b2, b3, b4, b5, ⟨n, by omega, w4, w5, w6⟩, b6⟩
  have goes : ∀ (l : Nat) (F' : FS) (M' : RS) (k : Int32 × FS → Option (Int32 × FS)) (k' : Int32 × RS → Option (Int32 × RS)), l < 3 → fX9_writeLanes_b7 k (nI l) F' = lop (fun y (z : Int32 × Int32 × FS) => fX9_writeLanes_b14 k y z.1 z.2.1 z.2.2) LF (nI l, 0, F') ∧ fX10_writeLanes_b12 k' (nI l) M' = lop (fun y (z : Int32 × Int32 × RS) => fX10_writeLanes_b19 k' y z.1 z.2.1 z.2.2) LF (nI l, 0, M') := by
    intro l F' M' k k' hl
    have hn : ¬ 3 ≤ nI l := by
      rw [qa_le, qa_3, qa_nI (by omega)]
      omega
    unfold fX9_writeLanes_b7 fX10_writeLanes_b12
    exact ⟨if_neg hn, if_neg hn⟩
  refine qa_lrel (fun j (s : Int32 × FS) (t : Int32 × RS) => ∃ (n : Nat) (F' : FS) (M' : RS), s = (nI j, F') ∧ t = (nI j, M') ∧ eWr B (fN F) (mSt M) n F' M' ∧ n ≤ (if j = 0 then 0 else if j = 1 then 3 * d0 + 4 else if j = 2 then 3 * d0 + 3 * d1 + 8 else 3 * d0 + 3 * d1 + 3 * d2 + 12)) (fun a b => eCw B a b) 3 ?_ 5000 5000 0 _ _ ⟨0, gL F 0, nOl (nTh M 0) 0, rfl, rfl, W0, by omega⟩ (by omega) (by omega) (by omega)
  intro j s t k k' hj3 hI hkk
  obtain ⟨n, F1, M1, e1, e2, W1, hn⟩ := hI
  subst e1 e2
  show eCw B (fX9_writeLanes_b7 k (nI j) F1) (fX10_writeLanes_b12 k' (nI j) M1)
  have cs : j = 0 ∨ j = 1 ∨ j = 2 ∨ j = 3 := by omega
  rcases cs with e | e | e | e <;> subst e
  · obtain ⟨g1, g2⟩ := goes 0 F1 M1 k k' (by omega)
    rw [g1, g2]
    exact wl_lane a1 a2 (by omega) p2 p1 p3 (n0 := 0) (by omega) k k' (fun a b => eCw B a b) (fun F' M' n' W' h => hkk _ _ (by omega) ⟨n', F', M', rfl, rfl, W', by simpa using h⟩) W1 (by simpa using hn)
  · obtain ⟨g1, g2⟩ := goes 1 F1 M1 k k' (by omega)
    rw [g1, g2]
    exact wl_lane a1 a2 (by omega) q2 q1 q3 (n0 := 3 * d0 + 4) (by omega) k k' (fun a b => eCw B a b) (fun F' M' n' W' h => hkk _ _ (by omega) ⟨n', F', M', rfl, rfl, W', by show n' ≤ 3 * d0 + 3 * d1 + 8; omega⟩) W1 hn
  · obtain ⟨g1, g2⟩ := goes 2 F1 M1 k k' (by omega)
    rw [g1, g2]
    exact wl_lane a1 a2 (by omega) r2 r1 r3 (n0 := 3 * d0 + 3 * d1 + 8) (by omega) k k' (fun a b => eCw B a b) (fun F' M' n' W' h => hkk _ _ (by omega) ⟨n', F', M', rfl, rfl, W', by show n' ≤ 3 * d0 + 3 * d1 + 3 * d2 + 12; omega⟩) W1 hn
  · have hn : n ≤ 3 * d0 + 3 * d1 + 3 * d2 + 12 := hn
    exact stop F1 M1 n k k' W1 (by omega)
