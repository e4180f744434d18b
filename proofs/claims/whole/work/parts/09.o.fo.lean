/-! saved states; what would be -/
theorem eAll.T {B : Int} {F : FS} {M : RS} (A : eAll B F M) (w : KS) : eAll B (gT F w) M := by
  obtain ⟨a1, a2, ⟨x, k, hx, hk, ex, ey, em, hj⟩, a4, a5, a6, a7⟩ := A
  exact ⟨a1, a2, ⟨x, k, hx, hk, ex, ey, em, hj⟩, a4, a5, a6, a7⟩
theorem eAll.st {B : Int} {F : FS} {M : RS} (A : eAll B F M) {g : Nat → Int32} (h : ∀ i, i < 561 → g i = mSt M i) : eAll B F (nStA M g) := by
  obtain ⟨a1, a2, ⟨x, k, hx, hk, ex, ey, em, hj⟩, a4, a5, a6, a7⟩ := A
  exact ⟨a1.cong a2.2.1 h, a2.cong h, ⟨x, k, hx, hk, ex, ey, em, hj⟩, a4, a5, a6, a7⟩
theorem eAll.th {B : Int} {F : FS} {M : RS} (A : eAll B F M) (x : Int32) (f f' : Nat → Int32) : eAll B F (nAsA (nTrA (nTh M x) f') f) := by
  obtain ⟨a1, a2, ⟨y, k, hx, hk, ex, ey, em, hj⟩, a4, a5, a6, a7⟩ := A
  exact ⟨a1, a2, ⟨y, k, hx, hk, ex, ey, em, hj⟩, a4, a5, a6, a7⟩
theorem cpy0 (f f2 : Nat → Int32) : ∀ i, i < 561 → va_cpy f f2 0 0 561 i = f i := by
  intro i hi
  rw [pk_cpy_in (by omega) (by omega)]
  congr 1
  omega
theorem c_save {B : Int} {F : FS} {M : RS} (A : eAll B F M) (x : Int32) : ∃ rv F' M', fX9_save x F = some (rv, F') ∧ fX10_save x M = some M' ∧ eAll B F' M' ∧ o1 xIA rv 0 (mTh M') := by
  have A0 := A
  obtain ⟨a1, a2, a3, ⟨b1, b2, b3⟩, a5, a6, a7⟩ := A
  unfold fX9_save fX9_save_b0 fX10_save fX10_save_b0 fX10_save_b15
  by_cases h0 : x.toInt < 0
  · rw [if_pos (by rw [qa_lt, qa_0]; exact h0), bt_0 (by rw [qa_0]; omega), qa_b, if_pos (rfl : (0 : Int32) = 0)]
    exact ⟨_, _, _, rfl, rfl, A0, Or.inl ⟨rfl, rfl⟩⟩
  rw [if_neg (by rw [qa_lt, qa_0]; exact h0)]
  by_cases h1 : x.toInt < 2
  · have hx := qa_ixI (i := x) (by omega)
    have v : (561 : Int32).toInt = 561 := by decide
    have e5 : (561 * x).toInt = ((561 * ix x : Nat) : Int) := by
      rw [qa_mul (by rw [v]; omega) (by rw [v]; omega), v]
      omega
    rw [if_pos (by rw [qa_lt, qa_2]; exact h1), bt_1 (by rw [qa_0]; omega) (by rw [qa_1]; omega), qa_b, if_neg n10]
    have cpy : ∀ (f2 : Nat → Int32) b, ∀ i, i < 561 → rowA (va_cpy (mSt M) f2 0 b 561) b i = mSt M i := by
      intro f2 b i hi
      unfold rowA
      rw [pk_cpy_in (by omega) (by omega)]
      congr 1
      omega
    have hc : fX10_copy 0 (561 * x) 561 (mSt (nTh M 0)) 1122 (mSa (nTh M 0)) = some (va_cpy (mSt M) (mSa M) 0 (561 * ix x) 561) := rb_copy (a := 0) (b := 561 * ix x) qa_0 e5 (by omega) (by omega) (by omega)
    rw [if_pos (show mTh (nTh M 0) = 0 from rfl), hc, qa_b, qa_gi (by omega) (by omega), qa_gi (by omega) (by omega)]
    have cs : ix x = 0 ∨ ix x = 1 := by omega
    rcases cs with e | e
    · have ex : x = 0 := by rw [← qa_nIx (i := x) (by omega), e]; rfl
      subst ex
      obtain ⟨w, ew, cw⟩ := sb_copy (fA F) (fN F)
      rw [if_pos (rfl : (0 : Int32) = 0), ew, qa_b, qa_gi (by omega) (by omega)]
      refine ⟨_, _, _, rfl, rfl, ⟨a1, a2, a3, ⟨fun s hs => ?_, fun _ => ?_, fun q => ?_⟩, a5, a6, a7⟩, Or.inr ⟨rfl, rfl⟩⟩
      · show (upd (fI F) (ix 0) 1 s = 0 ∨ upd (fI F) (ix 0) 1 s = 1) ∧ upd (mIs M) (ix 0) 1 s = upd (fI F) (ix 0) 1 s
        rw [e]
        by_cases q : s = 0
        · rw [q, pk_us, pk_us]
          exact ⟨Or.inr rfl, rfl⟩
        · rw [pk_un q, pk_un q]
          exact b1 s hs
      · have := cpy (mSa M) 0
        exact ⟨(a1.cp a2.2.1 cw).cong a2.2.1 (cpy (mSa M) 0), a2.cong (cpy (mSa M) 0)⟩
      · have q : upd (fI F) (ix 0) 1 1 = 1 := q
        rw [e, pk_un (by omega)] at q
        obtain ⟨r1, r2⟩ := b3 q
        have eqr : ∀ i, i < 561 → rowA (va_cpy (mSt M) (mSa M) 0 (561 * ix 0) 561) 561 i = rowA (mSa M) 561 i := by
          intro i hi
          unfold rowA
          rw [e, pk_cpy_out (by omega)]
        exact ⟨r1.cong r2.2.1 eqr, r2.cong eqr⟩
    · have ex : x = 1 := by rw [← qa_nIx (i := x) (by omega), e]; rfl
      subst ex
      obtain ⟨w, ew, cw⟩ := sb_copy (fB F) (fN F)
      rw [if_neg n10, if_pos (rfl : (1 : Int32) = 1), ew, qa_b, qa_gi (by omega) (by omega)]
      refine ⟨_, _, _, rfl, rfl, ⟨a1, a2, a3, ⟨fun s hs => ?_, fun q => ?_, fun _ => ?_⟩, a5, a6, a7⟩, Or.inr ⟨rfl, rfl⟩⟩
      · show (upd (fI F) (ix 1) 1 s = 0 ∨ upd (fI F) (ix 1) 1 s = 1) ∧ upd (mIs M) (ix 1) 1 s = upd (fI F) (ix 1) 1 s
        rw [e]
        by_cases q : s = 1
        · rw [q, pk_us, pk_us]
          exact ⟨Or.inr rfl, rfl⟩
        · rw [pk_un q, pk_un q]
          exact b1 s hs
      · have q : upd (fI F) (ix 1) 1 0 = 1 := q
        rw [e, pk_un (by omega)] at q
        obtain ⟨r1, r2⟩ := b2 q
        have eqr : ∀ i, i < 561 → rowA (va_cpy (mSt M) (mSa M) 0 (561 * ix 1) 561) 0 i = rowA (mSa M) 0 i := by
          intro i hi
          unfold rowA
          rw [e, pk_cpy_out (by omega)]
        exact ⟨r1.cong r2.2.1 eqr, r2.cong eqr⟩
      · exact ⟨(a1.cp a2.2.1 cw).cong a2.2.1 (cpy (mSa M) 561), a2.cong (cpy (mSa M) 561)⟩
  · rw [if_neg (by rw [qa_lt, qa_2]; exact h1), bt_0 (by rw [qa_1]; omega), qa_b, if_pos (rfl : (0 : Int32) = 0)]
    exact ⟨_, _, _, rfl, rfl, A0, Or.inl ⟨rfl, rfl⟩⟩
theorem fg_sim {B : Int} {F : FS} {M : RS} (A : eAll B F M) {w : KS} {g : Nat → Int32} (R : eRel w g) (I : eInv B g) : ∃ h', fX4_forget (fH (gN F w)) = some h' ∧ eAll B (gH (gN F w) h') (nAc (nStA M g) 0) := by
  obtain ⟨a1, a2, ⟨x, k, hx, hk, ex, ey, em, hj⟩, a4, a5, a6, a7⟩ := A
  exact ⟨iY (fH (gN F w)) 0, rfl, ⟨R, I, ⟨x, 0, hx, by omega, ex, rfl, rfl, fun j q => by omega⟩, a4, a5, a6, a7⟩⟩
theorem c_restore {B : Int} {F : FS} {M : RS} (A : eAll B F M) (x : Int32) : ∃ rv F' M', fX9_restore x F = some (rv, F') ∧ fX10_restore x M = some M' ∧ eAll B F' M' ∧ o2 xIA xIS rv 0 (mTh M') := by
  have A0 := A
  obtain ⟨a1, a2, a3, ⟨b1, b2, b3⟩, a5, a6, a7⟩ := A
  have n20 : ¬ (2 : Int32) = 0 := by decide
  unfold fX9_restore fX9_restore_b0 fX10_restore fX10_restore_b0 fX10_restore_b28
  rw [if_neg (show ¬ mTh (nTh M 1) = 0 from n10), if_neg (show ¬ mTh (nTh M 2) = 0 from n20), if_pos (show mTh (nTh M 0) = 0 from rfl)]
  by_cases h0 : x.toInt < 0
  · rw [if_pos (by rw [qa_lt, qa_0]; exact h0), bt_0 (by rw [qa_0]; omega), qa_b, if_pos (rfl : (0 : Int32) = 0)]
    exact ⟨_, _, _, rfl, rfl, A0, Or.inl ⟨rfl, rfl⟩⟩
  rw [if_neg (by rw [qa_lt, qa_0]; exact h0)]
  by_cases h1 : x.toInt < 2
  · have hx := qa_ixI (i := x) (by omega)
    have v : (561 : Int32).toInt = 561 := by decide
    have e5 : (561 * x).toInt = ((561 * ix x : Nat) : Int) := by
      rw [qa_mul (by rw [v]; omega) (by rw [v]; omega), v]
      omega
    have hc : fX10_copy (561 * x) 0 1122 (mSa (nTh M 0)) 561 (mSt (nTh M 0)) = some (va_cpy (mSa M) (mSt M) (561 * ix x) 0 561) := rb_copy (a := 561 * ix x) (b := 0) e5 qa_0 (by omega) (by omega) (by omega)
    have cpy : ∀ i, i < 561 → va_cpy (mSa M) (mSt M) (561 * ix x) 0 561 i = rowA (mSa M) (561 * ix x) i := by
      intro i hi
      unfold rowA
      rw [pk_cpy_in (by omega) (by omega)]
      congr 1
    rw [if_pos (by rw [qa_lt, qa_2]; exact h1), bt_1 (by rw [qa_0]; omega) (by rw [qa_1]; omega), qa_b, if_neg n10, hc, qa_b, qa_gi (by omega) (by omega), qa_gi (by omega) (by omega), qa_gi (by omega) (by omega), qa_gi (by omega) (by omega), (b1 _ (by omega)).2]
    have cs : ix x = 0 ∨ ix x = 1 := by omega
    by_cases q : fI F (ix x) = 0
    · simp only [if_pos q]
      rcases cs with e | e
      · have ex : x = 0 := by rw [← qa_nIx (i := x) (by omega), e]; rfl
        rw [if_pos ex]
        exact ⟨_, _, nTh M 2, rfl, rfl, A0, Or.inr (Or.inl ⟨rfl, rfl⟩)⟩
      · have ex : x = 1 := by rw [← qa_nIx (i := x) (by omega), e]; rfl
        rw [if_neg (by rw [ex]; decide), if_pos ex]
        exact ⟨_, _, nTh M 2, rfl, rfl, A0, Or.inr (Or.inl ⟨rfl, rfl⟩)⟩
    · simp only [if_neg q]
      have q1 := ((b1 _ (by omega : ix x < 2)).1).resolve_left q
      rcases cs with e | e
      · have ex : x = 0 := by rw [← qa_nIx (i := x) (by omega), e]; rfl
        obtain ⟨w, ew, cw⟩ := sb_copy (fN F) (fA F)
        rw [e] at q1
        obtain ⟨r1, r2⟩ := b2 q1
        rw [e] at cpy
        obtain ⟨h', f1, f2⟩ := fg_sim (M := nTh M 0) A0 ((r1.cp r2.2.1 cw).cong r2.2.1 cpy) (r2.cong cpy)
        rw [if_pos ex, ew, qa_b, f1, qa_b, e]
        exact ⟨_, _, _, rfl, rfl, f2, Or.inr (Or.inr ⟨rfl, rfl⟩)⟩
      · have ex : x = 1 := by rw [← qa_nIx (i := x) (by omega), e]; rfl
        obtain ⟨w, ew, cw⟩ := sb_copy (fN F) (fB F)
        have q2 := q
        rw [e] at q1
        obtain ⟨r1, r2⟩ := b3 q1
        rw [e] at cpy
        obtain ⟨h', f1, f2⟩ := fg_sim (M := nTh M 0) A0 ((r1.cp r2.2.1 cw).cong r2.2.1 cpy) (r2.cong cpy)
        rw [if_neg (by rw [ex]; decide), if_pos ex, ew, qa_b, f1, qa_b, e]
        exact ⟨_, _, _, rfl, rfl, f2, Or.inr (Or.inr ⟨rfl, rfl⟩)⟩
  · rw [if_neg (by rw [qa_lt, qa_2]; exact h1), bt_0 (by rw [qa_1]; omega), qa_b, if_pos (rfl : (0 : Int32) = 0)]
    exact ⟨_, _, _, rfl, rfl, A0, Or.inl ⟨rfl, rfl⟩⟩
theorem c_boardIn {B : Int} {F : FS} {M : RS} (A : eAll B F M) (hB : B + 400 ≤ 100000000) (x : Int32) : eC1 B xIA (fX9_boardIn x F) (fX10_boardIn x M) := by
  have v : (200 : Int32).toInt = 200 := by decide
  unfold fX9_boardIn fX9_boardIn_b0 fX9_boardIn_b12 fX10_boardIn fX10_boardIn_b0
  by_cases h0 : x.toInt < 1
  · rw [if_pos (by rw [qa_lt, qa_1]; exact h0), bt_0 (by rw [qa_1]; omega), qa_b, if_pos (rfl : (0 : Int32) = 0)]
    exact ⟨_, _, _, _, rfl, rfl, A, Or.inl ⟨rfl, rfl⟩⟩
  rw [if_neg (by rw [qa_lt, qa_1]; exact h0)]
  by_cases h1 : x.toInt ≤ 200
  · have hx := qa_ixI (i := x) (by omega)
    obtain ⟨w, ew, cw⟩ := sb_copy (fT F) (fN F)
    have c1 : fX10_copy 0 0 561 (mSt (nTh M 0)) 561 (mAs (nTh M 0)) = some (va_cpy (mSt M) (mAs M) 0 0 561) := rb_copy qa_0 qa_0 (by omega) (by omega) (by omega)
    obtain ⟨r, u', g', p1, p2, p3, p4⟩ := ps_sim (A.1.cp A.2.1.2.1 cw) A.2.1 (by omega : ix x ≤ 200) hB hx
    have p1 : fX8_passTicks x (fT (gT F w)) = some (r, u') := p1
    have p2 : fX10_tickMany x (mSt (nAsA (nTh M 0) (va_cpy (mSt M) (mAs M) 0 0 561))) = some (r, g') := p2
    have c2 : fX10_copy 0 0 561 (mAs (nStA (nAsA (nTh M 0) (va_cpy (mSt M) (mAs M) 0 0 561)) g')) 561 (mSt (nStA (nAsA (nTh M 0) (va_cpy (mSt M) (mAs M) 0 0 561)) g')) = some (va_cpy (va_cpy (mSt M) (mAs M) 0 0 561) g' 0 0 561) := rb_copy qa_0 qa_0 (by omega) (by omega) (by omega)
    rw [if_pos (by rw [qa_le, v]; exact h1), bt_1 (by rw [qa_1]; omega) (by rw [v]; omega), qa_b, if_neg n10, ew, qa_b, p1, qa_b2, c1, qa_b, p2, qa_b2, c2, qa_b]
    refine ⟨_, _, _, _, rfl, rfl, ?_, Or.inr ⟨rfl, rfl⟩⟩
    have := ((A.T u').th 0 (va_cpy (mSt M) (mAs M) 0 0 561) (mTr M)).st (g := va_cpy (va_cpy (mSt M) (mAs M) 0 0 561) g' 0 0 561) (fun i hi => by rw [cpy0 _ _ i hi, cpy0 _ _ i hi]; rfl)
    exact this
  · rw [if_neg (by rw [qa_le, v]; exact h1), bt_0 (by rw [v]; omega), qa_b, if_pos (rfl : (0 : Int32) = 0)]
    exact ⟨_, _, _, _, rfl, rfl, A, Or.inl ⟨rfl, rfl⟩⟩
