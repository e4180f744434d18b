/-! what there is, heights: the readers -/
def xIA : String := "java/lang/IllegalArgumentException"
def xIO : String := "java/lang/IndexOutOfBoundsException"
def xIS : String := "java/lang/IllegalStateException"
def o1 (n : String) (rv : String ⊕ Int32) (b th : Int32) : Prop := (rv = .inl n ∧ th = 1) ∨ (rv = .inr b ∧ th = 0)
def o2 (n n' : String) (rv : String ⊕ Int32) (b th : Int32) : Prop := (rv = .inl n ∧ th = 1) ∨ (rv = .inl n' ∧ th = 2) ∨ (rv = .inr b ∧ th = 0)
/-- a call that may throw one, two exceptions; a call that reads; a call that may change -/
def eC1 (B : Int) (n : String) (o : Option ((String ⊕ Int32) × FS)) (o' : Option (Int32 × RS)) : Prop := ∃ rv F' b M', o = some (rv, F') ∧ o' = some (b, M') ∧ eAll B F' M' ∧ o1 n rv b (mTh M')
def eC2 (B : Int) (n n' : String) (o : Option ((String ⊕ Int32) × FS)) (o' : Option (Int32 × RS)) : Prop := ∃ rv F' b M', o = some (rv, F') ∧ o' = some (b, M') ∧ eAll B F' M' ∧ o2 n n' rv b (mTh M')
def eCr (B : Int) (F : FS) (o : Option Int32) (o' : Option (Int32 × RS)) : Prop := ∃ r M', o = some r ∧ o' = some (r, M') ∧ eAll B F M'
def eCw (B : Int) (o : Option (Int32 × FS)) (o' : Option (Int32 × RS)) : Prop := ∃ r F' M', o = some (r, F') ∧ o' = some (r, M') ∧ eAll B F' M'
theorem c_count {B : Int} {F : FS} {M : RS} (A : eAll B F M) (x : Int32) : eC1 B xIA (fX9_count x F) (fX10_count x M) := by
  have R := A.1
  have H := A.2.1.2.1.1
  obtain ⟨⟨h0, h1, h2, h3, h4, h5, h6, h7, h8, h9, h10, h11, h12, h13, h14⟩, -⟩ := R.1
  by_cases hx : 0 ≤ x.toInt ∧ x.toInt ≤ 17
  · obtain ⟨i, hi⟩ : ∃ i, i = ix x := ⟨_, rfl⟩
    have hI := qa_ixI hx.1
    have ex : x = nI i := by rw [hi, qa_nIx hx.1]
    rw [← hi] at hI
    have h17 : i ≤ 17 := by omega
    have cs : i = 0 ∨ i = 1 ∨ i = 2 ∨ i = 3 ∨ i = 4 ∨ i = 5 ∨ i = 6 ∨ i = 7 ∨ i = 8 ∨ i = 9 ∨ i = 10 ∨ i = 11 ∨ i = 12 ∨ i = 13 ∨ i = 14 ∨ i = 15 ∨ i = 16 ∨ i = 17 := by omega
    rw [ex]
    rcases cs with e | e | e | e | e | e | e | e | e | e | e | e | e | e | e | e | e | e <;> subst e
    · have e1 : fX10_count (nI 0) M = some (mSt M 0, nTh M 0) := rfl
      rw [e1, ← h0]
      exact ⟨_, _, _, _, rfl, rfl, A, Or.inr ⟨rfl, rfl⟩⟩
    · have e1 : fX10_count (nI 1) M = some (mSt M 14, nTh M 0) := rfl
      rw [e1, ← h1]
      exact ⟨_, _, _, _, rfl, rfl, A, Or.inr ⟨rfl, rfl⟩⟩
    · have e1 : fX10_count (nI 2) M = bnd (fX10_onDeck (mSt M)) (fun r => some (r, nTh M 0)) := rfl
      rw [e1, rb_onDeck H, qa_b, ← R.2.1.1]
      exact ⟨_, _, _, _, rfl, rfl, A, Or.inr ⟨rfl, rfl⟩⟩
    · have e1 : fX10_count (nI 3) M = some (mSt M 13, nTh M 0) := rfl
      rw [e1, ← h2]
      exact ⟨_, _, _, _, rfl, rfl, A, Or.inr ⟨rfl, rfl⟩⟩
    · have e1 : fX10_count (nI 4) M = some (mSt M 1, nTh M 0) := rfl
      rw [e1, ← h3]
      exact ⟨_, _, _, _, rfl, rfl, A, Or.inr ⟨rfl, rfl⟩⟩
    · have e1 : fX10_count (nI 5) M = some (mSt M 2, nTh M 0) := rfl
      rw [e1, ← h4]
      exact ⟨_, _, _, _, rfl, rfl, A, Or.inr ⟨rfl, rfl⟩⟩
    · have e1 : fX10_count (nI 6) M = some (mSt M 3, nTh M 0) := rfl
      rw [e1, ← h5]
      exact ⟨_, _, _, _, rfl, rfl, A, Or.inr ⟨rfl, rfl⟩⟩
    · have e1 : fX10_count (nI 7) M = bnd (fX10_weightOnDeck (mSt M)) (fun r => some (r, nTh M 0)) := rfl
      rw [e1, rb_wod H, qa_b, ← R.2.1.2.1]
      exact ⟨_, _, _, _, rfl, rfl, A, Or.inr ⟨rfl, rfl⟩⟩
    · have e1 : fX10_count (nI 8) M = some (mSt M 4, nTh M 0) := rfl
      rw [e1, ← h6]
      exact ⟨_, _, _, _, rfl, rfl, A, Or.inr ⟨rfl, rfl⟩⟩
    · have e1 : fX10_count (nI 9) M = some (mSt M 5, nTh M 0) := rfl
      rw [e1, ← h7]
      exact ⟨_, _, _, _, rfl, rfl, A, Or.inr ⟨rfl, rfl⟩⟩
    · have e1 : fX10_count (nI 10) M = some (mSt M 6, nTh M 0) := rfl
      rw [e1, ← h8]
      exact ⟨_, _, _, _, rfl, rfl, A, Or.inr ⟨rfl, rfl⟩⟩
    · have e1 : fX10_count (nI 11) M = some (mSt M 7, nTh M 0) := rfl
      rw [e1, ← h9]
      exact ⟨_, _, _, _, rfl, rfl, A, Or.inr ⟨rfl, rfl⟩⟩
    · have e1 : fX10_count (nI 12) M = some (mSt M 8, nTh M 0) := rfl
      rw [e1, ← h10]
      exact ⟨_, _, _, _, rfl, rfl, A, Or.inr ⟨rfl, rfl⟩⟩
    · have e1 : fX10_count (nI 13) M = some (mSt M 9, nTh M 0) := rfl
      rw [e1, ← h11]
      exact ⟨_, _, _, _, rfl, rfl, A, Or.inr ⟨rfl, rfl⟩⟩
    · have e1 : fX10_count (nI 14) M = some (mSt M 10, nTh M 0) := rfl
      rw [e1, ← h12]
      exact ⟨_, _, _, _, rfl, rfl, A, Or.inr ⟨rfl, rfl⟩⟩
    · have e1 : fX10_count (nI 15) M = some (mSt M 11, nTh M 0) := rfl
      rw [e1, ← h13]
      exact ⟨_, _, _, _, rfl, rfl, A, Or.inr ⟨rfl, rfl⟩⟩
    · have e1 : fX10_count (nI 16) M = some (mSt M 12, nTh M 0) := rfl
      rw [e1, ← h14]
      exact ⟨_, _, _, _, rfl, rfl, A, Or.inr ⟨rfl, rfl⟩⟩
    · have e1 : fX10_count (nI 17) M = some (mAc M, nTh M 0) := rfl
      obtain ⟨x, k, -, -, -, y1, y2, -⟩ := A.2.2.1
      rw [e1, y2, ← y1]
      exact ⟨_, _, _, _, rfl, rfl, A, Or.inr ⟨rfl, rfl⟩⟩
  · have ne : ∀ k : Int32, 0 ≤ k.toInt → k.toInt ≤ 17 → ¬ x = k := fun k h1 h2 e => hx (by rw [e]; exact ⟨h1, h2⟩)
    have e0 : fX9_count x F = some (.inl xIA, F) := by
      unfold fX9_count fX9_count_b0 fX9_count_b24
      rw [if_neg (ne 17 (by decide) (by decide))]
      by_cases q : x < 0
      · rw [if_pos q]
        rfl
      · rw [if_neg q]
        have q' : ¬ x ≤ 17 := by
          rw [qa_lt, qa_0] at q
          rw [qa_le, show (17 : Int32).toInt = 17 by decide]
          omega
        rw [if_neg q']
        rfl
    have e1 : fX10_count x M = some (0, nTh (nTh M 0) 1) := by
      unfold fX10_count fX10_count_b0 fX10_countMore fX10_countMore_b0
      rw [if_neg (ne 0 (by decide) (by decide)), if_neg (ne 1 (by decide) (by decide)), if_neg (ne 2 (by decide) (by decide)), if_neg (ne 3 (by decide) (by decide)), if_neg (ne 4 (by decide) (by decide)), if_neg (ne 5 (by decide) (by decide)), if_neg (ne 6 (by decide) (by decide)), if_neg (ne 7 (by decide) (by decide)), if_neg (ne 8 (by decide) (by decide)), if_neg (ne 9 (by decide) (by decide)), if_neg (ne 10 (by decide) (by decide)), if_neg (ne 11 (by decide) (by decide)), if_neg (ne 12 (by decide) (by decide)), if_neg (ne 13 (by decide) (by decide)), if_neg (ne 14 (by decide) (by decide)), if_neg (ne 15 (by decide) (by decide)), if_neg (ne 16 (by decide) (by decide)), if_neg (ne 17 (by decide) (by decide))]
      rw [if_neg (ne 11 (by decide) (by decide)), if_neg (ne 12 (by decide) (by decide)), if_neg (ne 13 (by decide) (by decide)), if_neg (ne 14 (by decide) (by decide)), if_neg (ne 15 (by decide) (by decide)), if_neg (ne 16 (by decide) (by decide))]
      rfl
    rw [e0, e1]
    exact ⟨_, _, _, _, rfl, rfl, A, Or.inl ⟨rfl, rfl⟩⟩
theorem bt_1 {x a b : Int32} (h1 : a.toInt ≤ x.toInt) (h2 : x.toInt ≤ b.toInt) : fX10_isBetween x a b = some 1 := by
  rw [rb_between, if_pos ⟨qa_le.mpr h1, qa_le.mpr h2⟩]
theorem bt_0 {x a b : Int32} (h : x.toInt < a.toInt ∨ b.toInt < x.toInt) : fX10_isBetween x a b = some 0 := by
  rw [rb_between, if_neg]
  intro h'
  have h1 := qa_le.mp h'.1
  have h2 := qa_le.mp h'.2
  omega
theorem c_setting {B : Int} {F : FS} {M : RS} (A : eAll B F M) (x : Int32) : eC1 B xIA (fX9_setting x F) (fX10_setting x M) := by
  have k := A.1.1.2.1
  have v13 : (13 : Int32).toInt = 13 := by decide
  have v14 : (14 : Int32).toInt = 14 := by decide
  have v15 : (15 : Int32).toInt = 15 := by decide
  unfold fX9_setting fX9_setting_b0 fX9_setting_b10 fX10_setting fX10_setting_b0
  by_cases h0 : x.toInt < 0
  · rw [if_pos (by rw [qa_lt, qa_0]; exact h0), bt_0 (by rw [qa_0]; omega), qa_b, if_pos (rfl : (0 : Int32) = 0)]
    exact ⟨_, _, _, _, rfl, rfl, A, Or.inl ⟨rfl, rfl⟩⟩
  · rw [if_neg (by rw [qa_lt, qa_0]; exact h0)]
    by_cases h1 : x.toInt < 14
    · have hx := qa_ixI (i := x) (by omega)
      have e : (15 + x).toInt = ((15 + ix x : Nat) : Int) := by
        rw [qa_add (by rw [v15]; omega) (by rw [v15]; omega), v15]
        omega
      rw [if_pos (by rw [qa_lt, v14]; exact h1), bt_1 (by rw [qa_0]; omega) (by rw [v13]; omega), qa_b, if_neg n10, qa_gi (by omega) (by omega), qa_gi (by omega) (by omega), qa_ix e, k _ (by omega)]
      exact ⟨_, _, _, _, rfl, rfl, A, Or.inr ⟨rfl, rfl⟩⟩
    · rw [if_neg (by rw [qa_lt, v14]; exact h1), bt_0 (by rw [v13]; omega), qa_b, if_pos (rfl : (0 : Int32) = 0)]
      exact ⟨_, _, _, _, rfl, rfl, A, Or.inl ⟨rfl, rfl⟩⟩
theorem isK_1 {x : Int32} (h0 : 0 ≤ x.toInt) (h1 : x.toInt ≤ 3) : fX10_isKind x = some 1 := by
  unfold fX10_isKind fX10_isKind_b0
  rw [bt_1 (by rw [qa_0]; exact h0) (by rw [qa_3]; exact h1), qa_b, qa_g (by decide)]
theorem isK_0 {x : Int32} (h : x.toInt < 0 ∨ 3 < x.toInt) : fX10_isKind x = some 0 := by
  unfold fX10_isKind fX10_isKind_b0
  rw [bt_0 (by rw [qa_0, qa_3]; exact h), qa_b, qa_g (by decide)]
theorem isL_1 {x : Int32} (h0 : 0 ≤ x.toInt) (h1 : x.toInt ≤ 2) : fX10_isLane x = some 1 := by
  unfold fX10_isLane fX10_isLane_b0
  rw [bt_1 (by rw [qa_0]; exact h0) (by rw [qa_2]; exact h1), qa_b, qa_g (by decide)]
theorem isL_0 {x : Int32} (h : x.toInt < 0 ∨ 2 < x.toInt) : fX10_isLane x = some 0 := by
  unfold fX10_isLane fX10_isLane_b0
  rw [bt_0 (by rw [qa_0, qa_2]; exact h), qa_b, qa_g (by decide)]
theorem c_kind {B : Int} {F : FS} {M : RS} (A : eAll B F M) (x y : Int32) : eC2 B xIO xIA (fX9_kind x y F) (fX10_kind x y M) := by
  unfold fX9_kind fX9_kind_b0 fX9_kind_b9 fX9_kind_b28 fX10_kind fX10_kind_b0
  by_cases h0 : x.toInt < 0
  · rw [if_pos (by rw [qa_lt, qa_0]; exact h0), isK_0 (Or.inl h0), qa_b, if_pos (rfl : (0 : Int32) = 0)]
    exact ⟨_, _, _, _, rfl, rfl, A, Or.inl ⟨rfl, rfl⟩⟩
  · rw [if_neg (by rw [qa_lt, qa_0]; exact h0)]
    by_cases h1 : x.toInt < 4
    · have hx := qa_ixI (i := x) (by omega)
      rw [if_pos (by rw [qa_lt, qa_4]; exact h1), isK_1 (by omega) (by omega), qa_b, if_neg n10]
      by_cases g0 : y.toInt < 0
      · rw [if_pos (by rw [qa_lt, qa_0]; exact g0), bt_0 (by rw [qa_0]; omega), qa_b, if_pos (rfl : (0 : Int32) = 0)]
        exact ⟨_, _, _, _, rfl, rfl, A, Or.inr (Or.inl ⟨rfl, rfl⟩)⟩
      · rw [if_neg (by rw [qa_lt, qa_0]; exact g0)]
        by_cases g1 : y.toInt < 3
        · have hy := qa_ixI (i := y) (by omega)
          have e : fX10_ofKind x y (mSt (nTh M 0)) = _ := rb_ofKind (g := mSt M) (ix x) (ix y) hx (by omega) hy (by omega)
          rw [if_pos (by rw [qa_lt, qa_3]; exact g1), bt_1 (by rw [qa_0]; omega) (by rw [qa_2]; omega), qa_b, if_neg n10, sb_kindFact A.1.1 (ix x) (ix y) hx (by omega) hy (by omega), qa_b, e, qa_b]
          exact ⟨_, _, _, _, rfl, rfl, A, Or.inr (Or.inr ⟨rfl, rfl⟩)⟩
        · rw [if_neg (by rw [qa_lt, qa_3]; exact g1), bt_0 (by rw [qa_2]; omega), qa_b, if_pos (rfl : (0 : Int32) = 0)]
          exact ⟨_, _, _, _, rfl, rfl, A, Or.inr (Or.inl ⟨rfl, rfl⟩)⟩
    · rw [if_neg (by rw [qa_lt, qa_4]; exact h1), isK_0 (Or.inr (by omega)), qa_b, if_pos (rfl : (0 : Int32) = 0)]
      exact ⟨_, _, _, _, rfl, rfl, A, Or.inl ⟨rfl, rfl⟩⟩
theorem c_car {B : Int} {F : FS} {M : RS} (A : eAll B F M) (x y : Int32) : eC2 B xIO xIA (fX9_car x y F) (fX10_car x y M) := by
  have H := A.2.1.2.1.1
  have hn := H.n
  have c3 : sC (fN F) 3 = mSt M 13 := A.1.1.1.2.2.1
  have v6 : (6 : Int32).toInt = 6 := qa_6
  have v7 : (7 : Int32).toInt = 7 := qa_7
  have hs : (mSt M 13 - 1).toInt = (mSt M 13).toInt - 1 := by rw [qa_sub (by rw [qa_1]; omega) (by rw [qa_1]; omega), qa_1]
  have i1 : 0 ≤ x.toInt → x.toInt < (mSt M 13).toInt → fX10_isCar x (mSt (nTh M 0)) = some 1 := by
    intro a b
    show fX10_isCar x (mSt M) = some 1
    unfold fX10_isCar fX10_isCar_b0
    rw [bt_1 (by rw [qa_0]; exact a) (by rw [hs]; omega), qa_b, qa_g (by decide)]
  have i0 : x.toInt < 0 ∨ (mSt M 13).toInt ≤ x.toInt → fX10_isCar x (mSt (nTh M 0)) = some 0 := by
    intro a
    show fX10_isCar x (mSt M) = some 0
    unfold fX10_isCar fX10_isCar_b0
    rw [bt_0 (by rw [qa_0, hs]; omega), qa_b, qa_g (by decide)]
  unfold fX9_car fX9_car_b0 fX9_car_b17 fX9_car_b37 fX10_car fX10_car_b0
  rw [c3]
  by_cases h0 : x.toInt < 0
  · rw [if_pos (by rw [qa_lt, qa_0]; exact h0), i0 (Or.inl h0), qa_b, if_pos (rfl : (0 : Int32) = 0)]
    exact ⟨_, _, _, _, rfl, rfl, A, Or.inl ⟨rfl, rfl⟩⟩
  · rw [if_neg (by rw [qa_lt, qa_0]; exact h0)]
    by_cases h1 : x.toInt < (mSt M 13).toInt
    · have hx := qa_ixI (i := x) (by omega)
      rw [if_pos (by rw [qa_lt]; exact h1), i1 (by omega) h1, qa_b, if_neg n10]
      by_cases g0 : y.toInt < 0
      · rw [if_pos (by rw [qa_lt, qa_0]; exact g0), bt_0 (by rw [qa_0]; omega), qa_b, if_pos (rfl : (0 : Int32) = 0)]
        exact ⟨_, _, _, _, rfl, rfl, A, Or.inr (Or.inl ⟨rfl, rfl⟩)⟩
      · rw [if_neg (by rw [qa_lt, qa_0]; exact g0)]
        by_cases g1 : y.toInt < 7
        · have hy := qa_ixI (i := y) (by omega)
          have e : fX10_ofCar x y (mSt (nTh M 0)) = _ := rb_ofCar (g := mSt M) (ix x) (ix y) hx (by omega) hy (by omega)
          rw [if_pos (by rw [qa_lt, v7]; exact g1), bt_1 (by rw [qa_0]; omega) (by rw [v6]; omega), qa_b, if_neg n10, sb_carFact A.1.1 H (ix x) (ix y) hx (by omega) hy (by omega), qa_b, e, qa_b]
          exact ⟨_, _, _, _, rfl, rfl, A, Or.inr (Or.inr ⟨rfl, rfl⟩)⟩
        · rw [if_neg (by rw [qa_lt, v7]; exact g1), bt_0 (by rw [v6]; omega), qa_b, if_pos (rfl : (0 : Int32) = 0)]
          exact ⟨_, _, _, _, rfl, rfl, A, Or.inr (Or.inl ⟨rfl, rfl⟩)⟩
    · rw [if_neg (by rw [qa_lt]; exact h1), i0 (Or.inr (by omega)), qa_b, if_pos (rfl : (0 : Int32) = 0)]
      exact ⟨_, _, _, _, rfl, rfl, A, Or.inl ⟨rfl, rfl⟩⟩
theorem c_queued {B : Int} {F : FS} {M : RS} (A : eAll B F M) (x : Int32) : eCr B F (fX9_queued x F) (fX10_queued x M) := by
  have G := A.2.1.2.1
  have hq := G.q
  have c1 : sC (fN F) 1 = mSt M 14 := A.1.1.1.2.1
  have hs : (mSt (nTh M 0) 14 - 1).toInt = (mSt M 14).toInt - 1 := by
    show (mSt M 14 - 1).toInt = _
    rw [qa_sub (by rw [qa_1]; omega) (by rw [qa_1]; omega), qa_1]
  unfold fX9_queued fX9_queued_b0 fX10_queued fX10_queued_b0
  rw [c1]
  by_cases h0 : x.toInt < 0
  · rw [if_pos (by rw [qa_lt, qa_0]; exact h0), bt_0 (by rw [qa_0]; omega), qa_b, if_pos (rfl : (0 : Int32) = 0)]
    exact ⟨_, _, rfl, rfl, A⟩
  · rw [if_neg (by rw [qa_lt, qa_0]; exact h0)]
    by_cases h1 : (mSt M 14).toInt ≤ x.toInt
    · rw [if_pos (by rw [qa_le]; exact h1), bt_0 (by rw [hs]; omega), qa_b, if_pos (rfl : (0 : Int32) = 0)]
      exact ⟨_, _, rfl, rfl, A⟩
    · have hx := qa_ixI (i := x) (by omega)
      have e : (41 + x).toInt = ((41 + ix x : Nat) : Int) := by
        rw [qa_add (by rw [show (41 : Int32).toInt = 41 by decide]; omega) (by rw [show (41 : Int32).toInt = 41 by decide]; omega), show (41 : Int32).toInt = 41 by decide]
        omega
      rw [if_neg (by rw [qa_le]; exact h1), bt_1 (by rw [qa_0]; omega) (by rw [hs]; omega), qa_b, if_neg n10, qa_gi (by omega) (by omega), qa_ix e, sc_at (ix x) hx (by omega) (by omega), qa_b, A.1.1.2.2.2.1 _ (by omega)]
      exact ⟨_, _, rfl, rfl, A⟩
theorem c_standing {B : Int} {F : FS} {M : RS} (A : eAll B F M) (x y : Int32) : eC1 B xIO (fX9_standing x y F) (fX10_standing x y M) := by
  have G := A.2.1.2.1
  unfold fX9_standing fX9_standing_b0 fX9_standing_b9 fX10_standing fX10_standing_b0
  by_cases h0 : x.toInt < 0
  · rw [if_pos (by rw [qa_lt, qa_0]; exact h0), isL_0 (Or.inl h0), qa_b, if_pos (rfl : (0 : Int32) = 0)]
    exact ⟨_, _, _, _, rfl, rfl, A, Or.inl ⟨rfl, rfl⟩⟩
  · rw [if_neg (by rw [qa_lt, qa_0]; exact h0)]
    by_cases h1 : x.toInt < 3
    · have hx := qa_ixI (i := x) (by omega)
      rw [if_pos (by rw [qa_lt, qa_3]; exact h1), isL_1 (by omega) (by omega), qa_b, if_neg n10]
      have ex : x = nI (ix x) := (qa_nIx (by omega)).symm
      obtain ⟨d, d1, d2, d3, d4, d5, d6⟩ := A.1.2.2.1 (ix x) (by omega)
      by_cases hy : 0 ≤ y.toInt ∧ y.toInt < d
      · have hyI := qa_ixI hy.1
        have ey : y = nI (ix y) := (qa_nIx hy.1).symm
        have e : fX10_standingAt x y (mSt (nTh M 0)) = some (sO (fN F) (30 * ix x + ix y)) := by
          have := rb_stIn (u := fN F) (g := mSt M) G.1 A.1.2.2.1 (l := ix x) (by omega) d2 d1 (i := ix y) (by omega)
          rw [← ex, ← ey] at this
          exact this
        rw [sb_carIn (g := mSt M) hx (by omega) d2 d1 hyI (by omega), qa_b, e, qa_b]
        exact ⟨_, _, _, _, rfl, rfl, A, Or.inr ⟨rfl, rfl⟩⟩
      · have e : fX10_standingAt x y (mSt (nTh M 0)) = some (-1) := by
          have := rb_stOut (u := fN F) (g := mSt M) G.1 A.1.2.2.1 (l := ix x) (by omega) d2 d1 (y := y) (by omega)
          rw [← ex] at this
          exact this
        rw [sb_carOut (g := mSt M) hx (by omega) d2 d1 (by omega), qa_b, e, qa_b]
        exact ⟨_, _, _, _, rfl, rfl, A, Or.inr ⟨rfl, rfl⟩⟩
    · rw [if_neg (by rw [qa_lt, qa_3]; exact h1), isL_0 (Or.inr (by omega)), qa_b, if_pos (rfl : (0 : Int32) = 0)]
      exact ⟨_, _, _, _, rfl, rfl, A, Or.inl ⟨rfl, rfl⟩⟩
theorem c_lane {B : Int} {F : FS} {M : RS} (A : eAll B F M) (x y : Int32) : eC1 B xIO (fX9_lane x y F) (fX10_lane x y M) := by
  have H := A.2.1.2.1.1
  have t6 : sT (fN F) 6 = mSt M 21 := A.1.1.2.1 6 (by decide)
  unfold fX9_lane fX9_lane_b0 fX9_lane_b9 fX10_lane fX10_lane_b0
  by_cases h0 : x.toInt < 0
  · rw [if_pos (by rw [qa_lt, qa_0]; exact h0), isL_0 (Or.inl h0), qa_b, if_pos (rfl : (0 : Int32) = 0)]
    exact ⟨_, _, _, _, rfl, rfl, A, Or.inl ⟨rfl, rfl⟩⟩
  · rw [if_neg (by rw [qa_lt, qa_0]; exact h0)]
    by_cases h1 : x.toInt < 3
    · have hl := sb_lane A.1.2.1 (b := x) (by omega) h1
      have e1 : fX10_weightOf x (mSt (nTh M 0)) = some (eW (mSt M) x) := rb_weightOf H x
      have e2 : fX10_freeOf x (mSt (nTh M 0)) = some (mSt M 21 - eL (mSt M) x) := rb_freeOf H x
      rw [if_pos (by rw [qa_lt, qa_3]; exact h1), isL_1 (by omega) (by omega), qa_b, if_neg n10, e1, e2, qa_b, qa_b, qa_gi (by omega) (by omega), qa_gi (by omega) (by omega), hl.1, hl.2, t6]
      by_cases hy : y = 0
      · rw [if_pos hy, if_pos hy]
        exact ⟨_, _, _, _, rfl, rfl, A, Or.inr ⟨rfl, rfl⟩⟩
      · rw [if_neg hy, if_neg hy]
        exact ⟨_, _, _, _, rfl, rfl, A, Or.inr ⟨rfl, rfl⟩⟩
    · rw [if_neg (by rw [qa_lt, qa_3]; exact h1), isL_0 (Or.inr (by omega)), qa_b, if_pos (rfl : (0 : Int32) = 0)]
      exact ⟨_, _, _, _, rfl, rfl, A, Or.inl ⟨rfl, rfl⟩⟩
theorem c_account {B : Int} {F : FS} {M : RS} (A : eAll B F M) (x : Int32) : eC1 B xIA (fX9_account x F) (fX10_account x M) := by
  unfold fX9_account fX9_account_b0 fX9_account_b13 fX10_account fX10_account_b0
  by_cases h0 : x.toInt < 0
  · rw [if_pos (by rw [qa_lt, qa_0]; exact h0), bt_0 (by rw [qa_0]; omega), qa_b, if_pos (rfl : (0 : Int32) = 0)]
    exact ⟨_, _, _, _, rfl, rfl, A, Or.inl ⟨rfl, rfl⟩⟩
  · rw [if_neg (by rw [qa_lt, qa_0]; exact h0)]
    by_cases h1 : x.toInt < 5
    · have hx := qa_ixI (i := x) (by omega)
      rw [if_pos (by rw [qa_lt, qa_5]; exact h1), bt_1 (by rw [qa_0]; omega) (by rw [qa_4]; omega), qa_b, if_neg n10, qa_gi (by omega) (by omega), qa_gi (by omega) (by omega), A.2.2.2.2.1 _ (by omega)]
      exact ⟨_, _, _, _, rfl, rfl, A, Or.inr ⟨rfl, rfl⟩⟩
    · rw [if_neg (by rw [qa_lt, qa_5]; exact h1), bt_0 (by rw [qa_4]; omega), qa_b, if_pos (rfl : (0 : Int32) = 0)]
      exact ⟨_, _, _, _, rfl, rfl, A, Or.inl ⟨rfl, rfl⟩⟩
theorem c_tide {B : Int} {F : FS} {M : RS} (A : eAll B F M) (x : Int32) : eC1 B xIA (fX9_tide x F) (fX10_tide x M) := by
  unfold fX9_tide fX9_tide_b0 fX10_tide fX10_tide_b0
  by_cases h0 : 0 ≤ x
  · have e : fX10_tideAt x (mSt (nTh M 0)) = some (eT (mSt M) x) := rb_tideAt A.2.1.1 x
    rw [if_pos h0, if_neg (Int32.not_lt.mpr h0), sb_tideAt A.1.1 A.2.1.1, qa_b, e, qa_b]
    exact ⟨_, _, _, _, rfl, rfl, A, Or.inr ⟨rfl, rfl⟩⟩
  · rw [if_neg h0, if_pos (Int32.not_le.mp h0)]
    exact ⟨_, _, _, _, rfl, rfl, A, Or.inl ⟨rfl, rfl⟩⟩
theorem c_deck {B : Int} {F : FS} {M : RS} (A : eAll B F M) (x : Int32) : eC1 B xIA (fX9_deck x F) (fX10_deck x M) := by
  unfold fX9_deck fX9_deck_b0 fX10_deck fX10_deck_b0
  by_cases h0 : 0 ≤ x
  · have e : fX10_deckAt x (mSt (nTh M 0)) = some (eV (mSt M) x) := rb_deckAt A.2.1.1 A.2.1.2.1.1 x
    rw [if_pos h0, if_neg (Int32.not_lt.mpr h0), sb_deckAt A.1.1 A.2.1.1 A.1.2.1.2.1, qa_b, e, qa_b]
    exact ⟨_, _, _, _, rfl, rfl, A, Or.inr ⟨rfl, rfl⟩⟩
  · rw [if_neg h0, if_pos (Int32.not_le.mp h0)]
    exact ⟨_, _, _, _, rfl, rfl, A, Or.inl ⟨rfl, rfl⟩⟩
theorem c_slope {B : Int} {F : FS} {M : RS} (A : eAll B F M) : eCr B F (fX9_slope F) (fX10_slope M) :=
  ⟨_, nTh M 0, rfl, by show some (eP (mSt M), nTh M 0) = some (sp (fN F), nTh M 0); rw [A.1.2.2.2.2.1], A⟩
theorem c_lip {B : Int} {F : FS} {M : RS} (A : eAll B F M) : eCr B F (fX9_lip F) (fX10_lip M) := by
  have e : fX10_lipNow (mSt (nTh M 0)) = some (eI (mSt M)) := rb_lipNow A.2.1.1 A.2.1.2.1.1
  unfold fX9_lip fX9_lip_b0 fX10_lip fX10_lip_b0
  rw [e, qa_b, A.1.2.2.2.2.2]
  exact ⟨_, _, rfl, rfl, A⟩
theorem c_list {B : Int} {F : FS} {M : RS} (A : eAll B F M) : eCr B F (fX9_list F) (fX10_list M) := by
  have e : fX10_listNow (mSt (nTh M 0)) = some (eW (mSt M) 0 - eW (mSt M) 2) := rb_listNow A.2.1.2.1.1
  have W0 : sW (fN F) 0 = eW (mSt M) 0 := (A.1.2.1.2.2 0 (by decide)).1
  have W2 : sW (fN F) 2 = eW (mSt M) 2 := (A.1.2.1.2.2 2 (by decide)).1
  unfold fX9_list fX9_list_b0 fX10_list fX10_list_b0
  rw [e, qa_b, W0, W2]
  exact ⟨_, _, rfl, rfl, A⟩
theorem c_waterIn {B : Int} {F : FS} {M : RS} (A : eAll B F M) (x : Int32) : eCr B F (fX9_waterIn x F) (fX10_waterIn x M) := by
  have h := A.2.1.1.1
  have h1 : ¬ 2 * mSt M 17 = 0 := by
    simp only [qa_ar, Int32.reduceToInt]
    omega
  have h3 : 1 ≤ mSt M 17 := by
    simp only [qa_ar, Int32.reduceToInt]
    omega
  have c0 : sC (fN F) 0 = mSt M 0 := A.1.1.1.1
  have t2 : sT (fN F) 2 = mSt M 17 := A.1.1.2.1 2 (by decide)
  have hb : ∀ a b c : Int32, (a + c) - b = (a - b) + c := by
    intro a b c
    rw [Int32.sub_eq_add_neg, Int32.sub_eq_add_neg]
    ac_rfl
  unfold fX9_waterIn fX9_waterIn_b0 fX9_waterIn_b30 fX10_waterIn fX10_waterIn_b0 fX10_waterIn_b39
  rw [t2, c0, if_pos h3, qa_gn h1, qa_gn h1, qa_gn h1]
  show eCr B F _ (grd (nz (2 * mSt M 17)) _)
  rw [qa_gn h1]
  by_cases hx : x = 0
  · rw [if_pos hx, if_pos hx, hb]
    exact ⟨_, nTh M 0, rfl, (qa_gn h1).trans (qa_gn h1), A⟩
  · rw [if_neg hx, if_neg hx, hb]
    exact ⟨_, nTh M 0, rfl, (qa_gn h1).trans (qa_gn h1), A⟩
