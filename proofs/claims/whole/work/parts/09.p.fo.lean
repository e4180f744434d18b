/-! what would be: in how many ticks -/
theorem ps_one {u : KS} {g : Nat → Int32} {B : Int} (R : eRel u g) (I : eInv B g) (hB : B + 2 ≤ 100000000) :
    ∃ r u' g', fX8_passTicks 1 u = some (r, u') ∧ fX10_tickOnce g = some g' ∧ eRel u' g' ∧ eInv (B + 2) g' ∧ ((eBg g' = eBg g ∧ (g' 4 = g 4 ∨ g' 4 = (-1))) ∨ (eBg g' = eBg g + 1 ∧ ¬ g' 4 = g 4 ∧ ∃ c, c < eN g ∧ g' 4 = nI c)) := by
  obtain ⟨u1, u2, u3, u', g', a1, a2, a3, a4, a5, a6, a7, a8⟩ := tk_sim R I hB
  refine ⟨sC u' 13 - sC u 13, u', g', ?_, a5, a6, a7, a8⟩
  unfold fX8_passTicks fX8_passTicks_b0
  show fX8_passTicks_b10 (lop (fun y z => fX8_passTicks_b10 y z.1 z.2.1 z.2.2.1 z.2.2.2) 4999) 1 (sC u 13) 0 u = _
  unfold fX8_passTicks_b10
  rw [if_neg (by decide), a1, qa_b, a2, qa_b, a3, qa_b, a4, qa_b]
  show fX8_passTicks_b10 (lop (fun y z => fX8_passTicks_b10 y z.1 z.2.1 z.2.2.1 z.2.2.2) 4998) 1 (sC u 13) (0 + 1) u' = _
  unfold fX8_passTicks_b10
  exact if_pos (by decide)
theorem eBg_bnd {g : Nat → Int32} (H : eH g) : 0 ≤ (eBg g).toInt ∧ (eBg g).toInt ≤ 59940 := by
  have hn := H.n
  have := sI_bnd (f := eBf g) (n := eN g) (by omega) (fun c hc => by
    unfold eBf
    split
    · rw [qa_0]
      omega
    · rw [qa_1]
      omega)
  unfold eBg
  omega
theorem si_loop {B : Int} (hB : B + 400 ≤ 100000000) (F : FS) (M : RS) (b : Int32) (hs : ∀ i, i < 561 → mAs M i = mSt M i) : ∀ (d j m m' : Nat) (w : KS) (g : Nat → Int32), j + d = 200 → d + 2 ≤ m → d + 3 ≤ m' → eRel w g → eInv (B + 2 * j) g → eBg g = b →
    ∃ r w' g', lop (fun y (z : Int32 × FS) => fX9_startIn_b13 y z.1 z.2) m (nI (j + 1), gT F w) = some (r, gT F w') ∧ lop (fun y (z : Int32 × Int32 × RS) => fX10_startIn_b25 y z.1 z.2.1 z.2.2) m' (b, nI j, nStA M g) = some (r, nStA M g') ∧ (∀ i, i < 561 → g' i = mSt M i) := by
  have fin : ∀ g' : Nat → Int32, ∀ x s, fX10_startIn_b63 x s (nStA M g') = some (if s = 0 then (-1) else x, nStA M (va_cpy (mAs M) g' 0 0 561)) := by
    intro g' x s
    have c : fX10_copy 0 0 561 (mAs (nStA M g')) 561 (mSt (nStA M g')) = some (va_cpy (mAs M) g' 0 0 561) := rb_copy qa_0 qa_0 (by omega) (by omega) (by omega)
    unfold fX10_startIn_b63
    rw [c, qa_b]
    by_cases q : s = 0
    · rw [if_pos q, if_pos q]
      rfl
    · rw [if_neg q, if_neg q]
      rfl
  have back : ∀ g' : Nat → Int32, ∀ i, i < 561 → va_cpy (mAs M) g' 0 0 561 i = mSt M i := fun g' i hi => by rw [cpy0 _ _ i hi]; exact hs i hi
  intro d
  induction d with
  | zero =>
    intro j m m' w g hj hm hm' R I hb
    have ej : j = 200 := by omega
    subst ej
    have beg : fX10_begun (mSt (nStA M g)) = some (eBg g) := rb_begun I.2.1.1
    obtain ⟨m, rfl⟩ : ∃ k, m = k + 1 := ⟨m - 1, by omega⟩
    obtain ⟨m', rfl⟩ : ∃ k, m' = k + 1 := ⟨m' - 1, by omega⟩
    refine ⟨(-1), w, va_cpy (mAs M) g 0 0 561, ?_, ?_, back g⟩
    · show fX9_startIn_b13 _ (nI 201) (gT F w) = _
      unfold fX9_startIn_b13
      exact if_pos (by decide)
    · show fX10_startIn_b25 _ b (nI 200) (nStA M g) = _
      unfold fX10_startIn_b25 fX10_startIn_b50
      rw [if_pos (by decide), beg, qa_b, hb, if_pos Int32.le_rfl, fin, if_pos rfl]
  | succ d ih =>
    intro j m m' w g hj hm hm' R I hb
    have beg : fX10_begun (mSt (nStA M g)) = some (eBg g) := rb_begun I.2.1.1
    have hjI := qa_nI (n := j) (by omega)
    have hjI1 := qa_nI (n := j + 1) (by omega)
    have v : (200 : Int32).toInt = 200 := by decide
    obtain ⟨m, rfl⟩ : ∃ k, m = k + 1 := ⟨m - 1, by omega⟩
    obtain ⟨m', rfl⟩ : ∃ k, m' = k + 1 := ⟨m' - 1, by omega⟩
    obtain ⟨r, w', g', p1, p2, p3, p4, p5⟩ := ps_one R I (by omega)
    have p1 : fX8_passTicks 1 (fT (gT F w)) = some (r, w') := p1
    have p2 : fX10_tickOnce (mSt (nStA M g)) = some g' := p2
    have a8 : sC (fT (gT F w)) 8 = g 4 := R.1.1.2.2.2.2.2.2.1
    have a8' : sC (fT (gT (gT F w) w')) 8 = g' 4 := p3.1.1.2.2.2.2.2.2.1
    show ∃ r w' g', fX9_startIn_b13 (lop (fun y (z : Int32 × FS) => fX9_startIn_b13 y z.1 z.2) m) (nI (j + 1)) (gT F w) = some (r, gT F w') ∧ fX10_startIn_b25 (lop (fun y (z : Int32 × Int32 × RS) => fX10_startIn_b25 y z.1 z.2.1 z.2.2) m') b (nI j) (nStA M g) = some (r, nStA M g') ∧ (∀ i, i < 561 → g' i = mSt M i)
    unfold fX9_startIn_b13 fX9_startIn_b63 fX10_startIn_b25
    rw [if_neg (by rw [qa_lt, v]; omega), if_neg (by rw [qa_le, v]; omega), p1, qa_b2, a8, a8', beg, qa_b, if_pos hb, p2, qa_b, nI_1, nI_1]
    rcases p5 with ⟨q1, q2⟩ | ⟨q1, q2, c, q3, q4⟩
    · -- no car began
      have := ih (j + 1) m m' w' g' (by omega) (by omega) (by omega) p3 (p4.mono (by omega) (by omega)) (by rw [q1, hb])
      rcases q2 with q | q
      · rw [q, if_pos (rfl : g 4 = g 4)]
        by_cases q5 : g 4 = (-1)
        · rw [if_pos q5]
          exact this
        · rw [if_neg q5]
          exact this
      · rw [if_pos q]
        exact this
    · have hn := I.2.1.1.n
      have nm : ¬ g' 4 = (-1) := by
        rw [q4]
        intro h
        have h := congrArg Int32.toInt h
        rw [qa_nI (by omega), qa_m1] at h
        omega
      rw [if_neg nm, if_neg q2]
      refine ⟨nI (j + 1), w', va_cpy (mAs M) g' 0 0 561, rfl, ?_, back g'⟩
      obtain ⟨m', rfl⟩ : ∃ k, m' = k + 1 := ⟨m' - 1, by omega⟩
      have beg' : fX10_begun (mSt (nStA (nStA M g) g')) = some (eBg g') := rb_begun p4.2.1.1
      have hb2 := eBg_bnd I.2.1.1
      rw [hb] at hb2
      have e1 : eBg g' = b + 1 := by rw [q1, hb]
      have e2 : (b + 1).toInt = b.toInt + 1 := by rw [qa_add (by rw [qa_1]; omega) (by rw [qa_1]; omega), qa_1]
      show fX10_startIn_b25 _ b (nI (j + 1)) (nStA (nStA M g) g') = _
      unfold fX10_startIn_b25 fX10_startIn_b50
      rw [beg', qa_b, qa_b, e1, if_neg (show ¬ b + 1 = b by intro h; have h := congrArg Int32.toInt h; omega), if_neg (show ¬ b + 1 ≤ b by rw [qa_le]; omega)]
      have f := fin g' (nI (j + 1)) 1
      rw [if_neg n10] at f
      have f : fX10_startIn_b63 (nI (j + 1)) 1 (nStA (nStA M g) g') = some (nI (j + 1), nStA M (va_cpy (mAs M) g' 0 0 561)) := f
      rw [f]
      split <;> rfl
theorem c_startIn {B : Int} {F : FS} {M : RS} (A : eAll B F M) (hB : B + 400 ≤ 100000000) : eCw B (fX9_startIn F) (fX10_startIn M) := by
  obtain ⟨w, ew, cw⟩ := sb_copy (fT F) (fN F)
  have c1 : fX10_copy 0 0 561 (mSt (nTh M 0)) 561 (mAs (nTh M 0)) = some (va_cpy (mSt M) (mAs M) 0 0 561) := rb_copy qa_0 qa_0 (by omega) (by omega) (by omega)
  have beg : fX10_begun (mSt (nAsA (nTh M 0) (va_cpy (mSt M) (mAs M) 0 0 561))) = some (eBg (mSt M)) := rb_begun A.2.1.2.1.1
  obtain ⟨r, w', g', l1, l2, l3⟩ := si_loop hB F (nAsA (nTh M 0) (va_cpy (mSt M) (mAs M) 0 0 561)) (eBg (mSt M)) (fun i hi => cpy0 _ _ i hi) 200 0 5000 5000 w (mSt M) (by omega) (by omega) (by omega) (A.1.cp A.2.1.2.1 cw) (by simpa using A.2.1) rfl
  unfold fX9_startIn fX9_startIn_b0 fX10_startIn fX10_startIn_b0
  rw [ew, qa_b, c1, qa_b, beg, qa_b]
  exact ⟨r, gT F w', nStA (nAsA (nTh M 0) (va_cpy (mSt M) (mAs M) 0 0 561)) g', l1, l2, ((A.T w').th 0 (va_cpy (mSt M) (mAs M) 0 0 561) (mTr M)).st l3⟩
theorem wk_loop {B : Int} (hB : B + 402 ≤ 100000000) (F : FS) (M : RS) (hs : ∀ i, i < 561 → mAs M i = mSt M i) : ∀ (d j m m' : Nat) (w : KS) (g : Nat → Int32), j + d = 200 → d + 2 ≤ m → d + 3 ≤ m' → eRel w g → eInv (B + 2 * j) g →
    ∃ r w' g', lop (fun y (z : Int32 × FS) => fX9_wakesIn_b13 y z.1 z.2) m (nI j, gT F w) = some (r, gT F w') ∧ lop (fun y (z : Int32 × RS) => fX10_wakesIn_b20 y z.1 z.2) m' (nI j, nStA M g) = some (r, nStA M g') ∧ (∀ i, i < 561 → g' i = mSt M i) := by
  have fin : ∀ g' : Nat → Int32, ∀ x s, fX10_wakesIn_b60 x s (nStA M g') = some (if s = 0 then (-1) else x, nStA M (va_cpy (mAs M) g' 0 0 561)) := by
    intro g' x s
    have c : fX10_copy 0 0 561 (mAs (nStA M g')) 561 (mSt (nStA M g')) = some (va_cpy (mAs M) g' 0 0 561) := rb_copy qa_0 qa_0 (by omega) (by omega) (by omega)
    unfold fX10_wakesIn_b60
    rw [c, qa_b]
    by_cases q : s = 0
    · rw [if_pos q, if_pos q]
      rfl
    · rw [if_neg q, if_neg q]
      rfl
  have back : ∀ g' : Nat → Int32, ∀ i, i < 561 → va_cpy (mAs M) g' 0 0 561 i = mSt M i := fun g' i hi => by rw [cpy0 _ _ i hi]; exact hs i hi
  intro d
  induction d with
  | zero =>
    intro j m m' w g hj hm hm' R I
    have ej : j = 200 := by omega
    subst ej
    obtain ⟨m, rfl⟩ : ∃ k, m = k + 1 + 1 := ⟨m - 2, by omega⟩
    obtain ⟨m', rfl⟩ : ∃ k, m' = k + 1 := ⟨m' - 1, by omega⟩
    have a5 : sC (fT (gT F w)) 5 = g 2 := R.1.1.2.2.2.2.1
    obtain ⟨r, w', g', p1, p2, p3, p4, p5⟩ := ps_one R I (by omega)
    have p1 : fX8_passTicks 1 (fT (gT F w)) = some (r, w') := p1
    show ∃ r w' g', fX9_wakesIn_b13 (lop (fun y (z : Int32 × FS) => fX9_wakesIn_b13 y z.1 z.2) (m + 1)) (nI 200) (gT F w) = some (r, gT F w') ∧ fX10_wakesIn_b20 (lop (fun y (z : Int32 × RS) => fX10_wakesIn_b20 y z.1 z.2) m') (nI 200) (nStA M g) = some (r, nStA M g') ∧ (∀ i, i < 561 → g' i = mSt M i)
    unfold fX9_wakesIn_b13 fX10_wakesIn_b20 fX10_wakesIn_b46
    rw [if_neg (show ¬ (200 : Int32) < nI 200 by decide), if_pos (show (200 : Int32) ≤ nI 200 by decide), a5]
    show ∃ r w' g', (if g 2 = 0 then _ else _) = _ ∧ (if g 2 = 0 then _ else _) = _ ∧ _
    by_cases q : g 2 = 0
    · rw [if_pos q, if_pos q, p1, qa_b2, fin, if_pos (rfl : (0 : Int32) = 0)]
      refine ⟨(-1), w', _, ?_, rfl, back g⟩
      show fX9_wakesIn_b13 _ (nI 200 + 1) (gT (gT F w) w') = _
      unfold fX9_wakesIn_b13
      exact if_pos (by decide)
    · rw [if_neg q, if_neg q, fin, if_neg n10]
      exact ⟨nI 200, w, _, rfl, rfl, back g⟩
  | succ d ih =>
    intro j m m' w g hj hm hm' R I
    have hjI := qa_nI (n := j) (by omega)
    have v : (200 : Int32).toInt = 200 := by decide
    obtain ⟨m, rfl⟩ : ∃ k, m = k + 1 := ⟨m - 1, by omega⟩
    obtain ⟨m', rfl⟩ : ∃ k, m' = k + 1 := ⟨m' - 1, by omega⟩
    have a5 : sC (fT (gT F w)) 5 = g 2 := R.1.1.2.2.2.2.1
    obtain ⟨r, w', g', p1, p2, p3, p4, p5⟩ := ps_one R I (by omega)
    have p1 : fX8_passTicks 1 (fT (gT F w)) = some (r, w') := p1
    have p2 : fX10_tickOnce (mSt (nStA M g)) = some g' := p2
    show ∃ r w' g', fX9_wakesIn_b13 (lop (fun y (z : Int32 × FS) => fX9_wakesIn_b13 y z.1 z.2) m) (nI j) (gT F w) = some (r, gT F w') ∧ fX10_wakesIn_b20 (lop (fun y (z : Int32 × RS) => fX10_wakesIn_b20 y z.1 z.2) m') (nI j) (nStA M g) = some (r, nStA M g') ∧ (∀ i, i < 561 → g' i = mSt M i)
    unfold fX9_wakesIn_b13 fX10_wakesIn_b20 fX10_wakesIn_b46
    rw [if_neg (show ¬ (200 : Int32) < nI j by rw [qa_lt, v]; omega), if_neg (show ¬ (200 : Int32) ≤ nI j by rw [qa_le, v]; omega), a5]
    show ∃ r w' g', (if g 2 = 0 then _ else _) = _ ∧ (if g 2 = 0 then _ else (if g 2 = 0 then _ else _)) = _ ∧ _
    by_cases q : g 2 = 0
    · rw [if_pos q, if_pos q, p1, qa_b2, p2, qa_b, nI_1]
      exact ih (j + 1) m m' w' g' (by omega) (by omega) (by omega) p3 (p4.mono (by omega) (by omega))
    · rw [if_neg q, if_neg q, if_neg q, fin, if_neg n10]
      exact ⟨nI j, w, _, rfl, rfl, back g⟩
theorem c_wakesIn {B : Int} {F : FS} {M : RS} (A : eAll B F M) (hB : B + 402 ≤ 100000000) : eCw B (fX9_wakesIn F) (fX10_wakesIn M) := by
  obtain ⟨w, ew, cw⟩ := sb_copy (fT F) (fN F)
  have c1 : fX10_copy 0 0 561 (mSt (nTh M 0)) 561 (mAs (nTh M 0)) = some (va_cpy (mSt M) (mAs M) 0 0 561) := rb_copy qa_0 qa_0 (by omega) (by omega) (by omega)
  obtain ⟨r, w', g', l1, l2, l3⟩ := wk_loop hB F (nAsA (nTh M 0) (va_cpy (mSt M) (mAs M) 0 0 561)) (fun i hi => cpy0 _ _ i hi) 200 0 5000 5000 w (mSt M) (by omega) (by omega) (by omega) (A.1.cp A.2.1.2.1 cw) (by simpa using A.2.1)
  unfold fX9_wakesIn fX9_wakesIn_b0 fX10_wakesIn fX10_wakesIn_b0
  rw [ew, qa_b, c1, qa_b]
  exact ⟨r, gT F w', nStA (nAsA (nTh M 0) (va_cpy (mSt M) (mAs M) 0 0 561)) g', l1, l2, ((A.T w').th 0 (va_cpy (mSt M) (mAs M) 0 0 561) (mTr M)).st l3⟩
theorem rb_isEasy {g : Nat → Int32} (S : eS g) (H : eH g) {x : Int32} (d : Nat) (hx : x.toInt = (d : Int)) (hd : d < 4) : fX10_isEasy x g = some (if eP g ≤ eK g d 0 ∧ eI g ≤ eK g d 1 then 1 else 0) := by
  unfold fX10_isEasy fX10_isEasy_b0
  rw [rb_slopeNow, qa_b, rb_ofKind d 0 hx hd qa_0 (by decide), qa_b, rb_lipNow S H, qa_b, rb_ofKind d 1 hx hd qa_1 (by decide), qa_b]
  by_cases q : eK g d 0 < eP g
  · rw [if_pos q, if_neg (fun h => absurd (Int32.lt_of_lt_of_le q h.1) Int32.lt_irrefl)]
  · rw [if_neg q]
    by_cases q2 : eK g d 1 < eI g
    · rw [if_pos q2, if_neg (fun h => absurd (Int32.lt_of_lt_of_le q2 h.2) Int32.lt_irrefl)]
    · rw [if_neg q2, if_pos ⟨Int32.not_lt.mp q, Int32.not_lt.mp q2⟩]
theorem es_loop {B : Int} (hB : B + 402 ≤ 100000000) (F : FS) (M : RS) {x : Int32} {kd : Nat} (hx : x.toInt = (kd : Int)) (hk : kd < 4) (hs : ∀ i, i < 561 → mAs M i = mSt M i) : ∀ (d j m m' : Nat) (w : KS) (g : Nat → Int32), j + d = 200 → d + 2 ≤ m → d + 3 ≤ m' → eRel w g → eInv (B + 2 * j) g →
    ∃ r w' g', lop (fun y (z : Int32 × Int32 × FS) => fX9_easyIn_b32 y z.1 z.2.1 z.2.2) m (x, nI j, gT F w) = some (.inr r, gT F w') ∧ lop (fun y (z : Int32 × Int32 × RS) => fX10_easyIn_b33 y z.1 z.2.1 z.2.2) m' (x, nI j, nStA M g) = some (r, nStA M g') ∧ (∀ i, i < 561 → g' i = mSt M i) := by
  have back : ∀ g' : Nat → Int32, ∀ i, i < 561 → va_cpy (mAs M) g' 0 0 561 i = mSt M i := fun g' i hi => by rw [cpy0 _ _ i hi]; exact hs i hi
  have fin : ∀ (g' : Nat → Int32) (y : Int32) (B' : Int), eInv B' g' → fX10_easyIn_b58 x y (nStA M g') = some (if eP g' ≤ eK g' kd 0 ∧ eI g' ≤ eK g' kd 1 then y else (-1), nStA M (va_cpy (mAs M) g' 0 0 561)) := by
    intro g' y B' I'
    have c : fX10_copy 0 0 561 (mAs (nStA M g')) 561 (mSt (nStA M g')) = some (va_cpy (mAs M) g' 0 0 561) := rb_copy qa_0 qa_0 (by omega) (by omega) (by omega)
    have e : fX10_isEasy x (mSt (nStA M g')) = _ := rb_isEasy I'.1 I'.2.1.1 kd hx hk
    unfold fX10_easyIn_b58
    rw [e, qa_b, c, qa_b]
    by_cases q : eP g' ≤ eK g' kd 0 ∧ eI g' ≤ eK g' kd 1
    · rw [if_pos q, if_pos q, if_neg n10]
      rfl
    · rw [if_neg q, if_neg q, if_pos rfl]
      rfl
  have cls : ∀ (k : Int32 × Int32 × FS → Option ((String ⊕ Int32) × FS)) (y : Int32) (w : KS) (g : Nat → Int32), eRel w g → fX9_easyIn_b32 k x y (gT F w) = (if 200 < y then some (.inr (-1), gT F w) else (if eP g ≤ eK g kd 0 ∧ eI g ≤ eK g kd 1 then some (.inr y, gT F w) else fX9_easyIn_b79 k x y (gT F w))) := by
    intro k y w g R
    have k0 : fX8_kindFact x 0 (fT (gT F w)) = _ := sb_kindFact (u := w) R.1 kd 0 hx hk qa_0 (by decide)
    have k1 : fX8_kindFact x 1 (fT (gT F w)) = _ := sb_kindFact (u := w) R.1 kd 1 hx hk qa_1 (by decide)
    unfold fX9_easyIn_b32
    rw [k0, qa_b, k1, qa_b, show sp (fT (gT F w)) = eP g from R.2.2.2.2.1, show si (fT (gT F w)) = eI g from R.2.2.2.2.2]
    by_cases q0 : 200 < y
    · rw [if_pos q0, if_pos q0]
    rw [if_neg q0, if_neg q0]
    by_cases q : eK g kd 0 < eP g
    · rw [if_pos q, if_neg (fun h => absurd (Int32.lt_of_lt_of_le q h.1) Int32.lt_irrefl)]
    · rw [if_neg q]
      by_cases q2 : eK g kd 1 < eI g
      · rw [if_pos q2, if_neg (fun h => absurd (Int32.lt_of_lt_of_le q2 h.2) Int32.lt_irrefl)]
      · rw [if_neg q2, if_pos ⟨Int32.not_lt.mp q, Int32.not_lt.mp q2⟩]
  intro d
  induction d with
  | zero =>
    intro j m m' w g hj hm hm' R I
    have ej : j = 200 := by omega
    subst ej
    obtain ⟨m, rfl⟩ : ∃ k, m = k + 1 + 1 := ⟨m - 2, by omega⟩
    obtain ⟨m', rfl⟩ : ∃ k, m' = k + 1 := ⟨m' - 1, by omega⟩
    obtain ⟨r, w', g', p1, p2, p3, p4, p5⟩ := ps_one R I (by omega)
    have p1 : fX8_passTicks 1 (fT (gT F w)) = some (r, w') := p1
    show ∃ r w' g', fX9_easyIn_b32 (lop (fun y (z : Int32 × Int32 × FS) => fX9_easyIn_b32 y z.1 z.2.1 z.2.2) (m + 1)) x (nI 200) (gT F w) = some (.inr r, gT F w') ∧ fX10_easyIn_b33 (lop (fun y (z : Int32 × Int32 × RS) => fX10_easyIn_b33 y z.1 z.2.1 z.2.2) m') x (nI 200) (nStA M g) = some (r, nStA M g') ∧ (∀ i, i < 561 → g' i = mSt M i)
    rw [cls _ _ _ _ R]
    unfold fX10_easyIn_b33
    rw [if_neg (show ¬ (200 : Int32) < nI 200 by decide), if_pos (show (200 : Int32) ≤ nI 200 by decide), fin _ _ _ I]
    by_cases q : eP g ≤ eK g kd 0 ∧ eI g ≤ eK g kd 1
    · rw [if_pos q, if_pos q]
      exact ⟨nI 200, w, _, rfl, rfl, back g⟩
    · rw [if_neg q, if_neg q]
      refine ⟨(-1), w', _, ?_, rfl, back g⟩
      unfold fX9_easyIn_b79
      rw [p1, qa_b2]
      show fX9_easyIn_b32 _ x (nI 200 + 1) (gT F w') = _
      unfold fX9_easyIn_b32
      exact if_pos (by decide)
  | succ d ih =>
    intro j m m' w g hj hm hm' R I
    have hjI := qa_nI (n := j) (by omega)
    have v : (200 : Int32).toInt = 200 := by decide
    obtain ⟨m, rfl⟩ : ∃ k, m = k + 1 := ⟨m - 1, by omega⟩
    obtain ⟨m', rfl⟩ : ∃ k, m' = k + 1 := ⟨m' - 1, by omega⟩
    obtain ⟨r, w', g', p1, p2, p3, p4, p5⟩ := ps_one R I (by omega)
    have p1 : fX8_passTicks 1 (fT (gT F w)) = some (r, w') := p1
    have p2 : fX10_tickOnce (mSt (nStA M g)) = some g' := p2
    have e : fX10_isEasy x (mSt (nStA M g)) = _ := rb_isEasy I.1 I.2.1.1 kd hx hk
    show ∃ r w' g', fX9_easyIn_b32 (lop (fun y (z : Int32 × Int32 × FS) => fX9_easyIn_b32 y z.1 z.2.1 z.2.2) m) x (nI j) (gT F w) = some (.inr r, gT F w') ∧ fX10_easyIn_b33 (lop (fun y (z : Int32 × Int32 × RS) => fX10_easyIn_b33 y z.1 z.2.1 z.2.2) m') x (nI j) (nStA M g) = some (r, nStA M g') ∧ (∀ i, i < 561 → g' i = mSt M i)
    rw [cls _ _ _ _ R]
    unfold fX10_easyIn_b33
    rw [if_neg (show ¬ (200 : Int32) < nI j by rw [qa_lt, v]; omega), if_neg (show ¬ (200 : Int32) ≤ nI j by rw [qa_le, v]; omega), e, qa_b, p2, qa_b, fin _ _ _ I]
    by_cases q : eP g ≤ eK g kd 0 ∧ eI g ≤ eK g kd 1
    · rw [if_pos q, if_pos q, if_pos q, if_neg n10]
      exact ⟨nI j, w, _, rfl, rfl, back g⟩
    · rw [if_neg q, if_neg q, if_pos rfl, nI_1]
      unfold fX9_easyIn_b79
      rw [p1, qa_b2, nI_1]
      exact ih (j + 1) m m' w' g' (by omega) (by omega) (by omega) p3 (p4.mono (by omega) (by omega))
theorem c_easyIn {B : Int} {F : FS} {M : RS} (A : eAll B F M) (hB : B + 402 ≤ 100000000) (x : Int32) : eC1 B xIO (fX9_easyIn x F) (fX10_easyIn x M) := by
  unfold fX9_easyIn fX9_easyIn_b0 fX9_easyIn_b9 fX10_easyIn fX10_easyIn_b0
  by_cases h0 : x.toInt < 0
  · rw [if_pos (by rw [qa_lt, qa_0]; exact h0), isK_0 (Or.inl h0), qa_b, if_pos (rfl : (0 : Int32) = 0)]
    exact ⟨_, _, _, _, rfl, rfl, A, Or.inl ⟨rfl, rfl⟩⟩
  rw [if_neg (by rw [qa_lt, qa_0]; exact h0)]
  by_cases h1 : x.toInt < 4
  · have hx := qa_ixI (i := x) (by omega)
    obtain ⟨w, ew, cw⟩ := sb_copy (fT F) (fN F)
    have c1 : fX10_copy 0 0 561 (mSt (nTh M 0)) 561 (mAs (nTh M 0)) = some (va_cpy (mSt M) (mAs M) 0 0 561) := rb_copy qa_0 qa_0 (by omega) (by omega) (by omega)
    obtain ⟨r, w', g', l1, l2, l3⟩ := es_loop hB F (nAsA (nTh M 0) (va_cpy (mSt M) (mAs M) 0 0 561)) hx (by omega) (fun i hi => cpy0 _ _ i hi) 200 0 5000 5000 w (mSt M) (by omega) (by omega) (by omega) (A.1.cp A.2.1.2.1 cw) (by simpa using A.2.1)
    rw [if_pos (by rw [qa_lt, qa_4]; exact h1), isK_1 (by omega) (by omega), qa_b, if_neg n10, ew, qa_b, c1, qa_b]
    exact ⟨.inr r, gT F w', r, nStA (nAsA (nTh M 0) (va_cpy (mSt M) (mAs M) 0 0 561)) g', l1, l2, ((A.T w').th 0 (va_cpy (mSt M) (mAs M) 0 0 561) (mTr M)).st l3, Or.inr ⟨rfl, rfl⟩⟩
  · rw [if_neg (by rw [qa_lt, qa_4]; exact h1), isK_0 (Or.inr (by omega)), qa_b, if_pos (rfl : (0 : Int32) = 0)]
    exact ⟨_, _, _, _, rfl, rfl, A, Or.inl ⟨rfl, rfl⟩⟩
