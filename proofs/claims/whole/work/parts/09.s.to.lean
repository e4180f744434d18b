/-! tokens -/
def tyB (c : Int32) : Int32 := if 97 ≤ c ∧ c ≤ 122 then 1 else if 48 ≤ c ∧ c ≤ 57 then 2 else if c = 45 then 3 else if c = 59 then 4 else if c = 32 then 5 else if c = 10 then 5 else 6
theorem rb_letter (c : Int32) : fX10_isLetter c = some (if 97 ≤ c ∧ c ≤ 122 then 1 else 0) := by
  unfold fX10_isLetter fX10_isLetter_b0
  by_cases h1 : c < 97
  · rw [if_pos h1, if_neg (fun h => absurd (Int32.lt_of_lt_of_le h1 h.1) Int32.lt_irrefl)]
  · rw [if_neg h1]
    by_cases h2 : 122 < c
    · rw [if_pos h2, if_neg (fun h => absurd (Int32.lt_of_lt_of_le h2 h.2) Int32.lt_irrefl)]
    · rw [if_neg h2, if_pos ⟨Int32.not_lt.mp h1, Int32.not_lt.mp h2⟩]
theorem rb_digit (c : Int32) : fX10_isDigit c = some (if 48 ≤ c ∧ c ≤ 57 then 1 else 0) := by
  unfold fX10_isDigit fX10_isDigit_b0
  by_cases h1 : c < 48
  · rw [if_pos h1, if_neg (fun h => absurd (Int32.lt_of_lt_of_le h1 h.1) Int32.lt_irrefl)]
  · rw [if_neg h1]
    by_cases h2 : 57 < c
    · rw [if_pos h2, if_neg (fun h => absurd (Int32.lt_of_lt_of_le h2 h.2) Int32.lt_irrefl)]
    · rw [if_neg h2, if_pos ⟨Int32.not_lt.mp h1, Int32.not_lt.mp h2⟩]
theorem sb_typeAt {p : PS} {M : RS} {n : Nat} (P : pRn p M n) {i : Nat} (hi : i ≤ 600) : fX6_typeAt (nI i) p = some (if i < n then tyB (mTx M i) else 0) := by
  obtain ⟨h1, h2, h3, h4⟩ := P
  have hI := qa_nI (n := i) (by omega)
  have hN := qa_nI (n := n) (by omega)
  have v : (500 : Int32).toInt = 500 := by decide
  unfold fX6_typeAt fX6_typeAt_b0 fX6_typeAt_b44 fX6_typeAt_b58
  rw [if_neg (by rw [qa_lt, qa_0]; omega), h2]
  by_cases q : i < n
  · rw [if_neg (by rw [qa_le]; omega), if_pos (by rw [qa_lt, v]; omega), qa_gi (by omega) (by omega), qa_ix hI, (h4 i q).1, if_pos q]
    generalize mTx M i = c
    unfold tyB
    have b58 : (if c = 45 then some (3 : Int32) else if c = 59 then some 4 else if c = 32 then some 5 else if c = 10 then some 5 else some 6) = some (if c = 45 then 3 else if c = 59 then 4 else if c = 32 then 5 else if c = 10 then 5 else 6) := by
      repeat (split <;> try rfl)
    rw [b58]
    have b44 : (if c < 48 then some (if c = 45 then 3 else if c = 59 then 4 else if c = 32 then 5 else if c = 10 then 5 else 6) else if 57 < c then some (if c = 45 then 3 else if c = 59 then 4 else if c = 32 then 5 else if c = 10 then 5 else 6) else some (2 : Int32)) = some (if 48 ≤ c ∧ c ≤ 57 then 2 else if c = 45 then 3 else if c = 59 then 4 else if c = 32 then 5 else if c = 10 then 5 else 6) := by
      by_cases a : c < 48
      · rw [if_pos a]
        exact congrArg some (if_neg (fun h => absurd (Int32.lt_of_lt_of_le a h.1) Int32.lt_irrefl)).symm
      · rw [if_neg a]
        by_cases b : 57 < c
        · rw [if_pos b]
          exact congrArg some (if_neg (fun h => absurd (Int32.lt_of_lt_of_le b h.2) Int32.lt_irrefl)).symm
        · rw [if_neg b]
          exact congrArg some (if_pos ⟨Int32.not_lt.mp a, Int32.not_lt.mp b⟩).symm
    rw [b44]
    by_cases a : c < 97
    · rw [if_pos a]
      exact congrArg some (if_neg (fun h => absurd (Int32.lt_of_lt_of_le a h.1) Int32.lt_irrefl)).symm
    · rw [if_neg a]
      by_cases b : 122 < c
      · rw [if_pos b]
        exact congrArg some (if_neg (fun h => absurd (Int32.lt_of_lt_of_le b h.2) Int32.lt_irrefl)).symm
      · rw [if_neg b]
        exact congrArg some (if_pos ⟨Int32.not_lt.mp a, Int32.not_lt.mp b⟩).symm
  · rw [if_pos (by rw [qa_le]; omega), if_neg q]
theorem rb_byteAt {M : RS} {n : Nat} (h1 : n ≤ 500) (h3 : mTl M = nI n) {i : Nat} (hi : i ≤ 600) : fX10_byteAt (nI i) M = some (if i < n then mTx M i else (-1)) := by
  have hI := qa_nI (n := i) (by omega)
  have hN := qa_nI (n := n) (by omega)
  unfold fX10_byteAt fX10_byteAt_b0
  rw [h3]
  by_cases q : i < n
  · rw [if_neg (by rw [qa_le]; omega), qa_gi (by omega) (by omega), qa_ix hI, if_pos q]
  · rw [if_pos (by rw [qa_le]; omega), if_neg q]
theorem tyB_5 (c : Int32) : tyB c = 5 ↔ c = 32 ∨ c = 10 := by
  constructor
  · intro h
    unfold tyB at h
    by_cases a : 97 ≤ c ∧ c ≤ 122
    · rw [if_pos a] at h
      exact absurd h (by decide)
    rw [if_neg a] at h
    by_cases b : 48 ≤ c ∧ c ≤ 57
    · rw [if_pos b] at h
      exact absurd h (by decide)
    rw [if_neg b] at h
    by_cases d : c = 45
    · rw [if_pos d] at h
      exact absurd h (by decide)
    rw [if_neg d] at h
    by_cases e : c = 59
    · rw [if_pos e] at h
      exact absurd h (by decide)
    rw [if_neg e] at h
    by_cases f : c = 32
    · exact Or.inl f
    rw [if_neg f] at h
    by_cases g : c = 10
    · exact Or.inr g
    rw [if_neg g] at h
    exact absurd h (by decide)
  · intro h
    rcases h with h | h <;> subst h <;> decide
/-- the end of a run -/
theorem run_end (P : Nat → Prop) [DecidablePred P] (n : Nat) : ∀ (d b : Nat), b + d = n → ∃ e, b ≤ e ∧ e ≤ n ∧ (∀ i, b ≤ i → i < e → P i) ∧ (e = n ∨ ¬ P e) := by
  intro d
  induction d with
  | zero => exact fun b h => ⟨b, Nat.le_refl b, by omega, fun i h1 h2 => by omega, Or.inl (by omega)⟩
  | succ d ih =>
    intro b h
    by_cases q : P b
    · obtain ⟨e, e1, e2, e3, e4⟩ := ih (b + 1) (by omega)
      refine ⟨e, by omega, e2, fun i h1 h2 => ?_, e4⟩
      by_cases qi : i = b
      · rw [qi]
        exact q
      · exact e3 i (by omega) h2
    · exact ⟨b, Nat.le_refl b, by omega, fun i h1 h2 => by omega, Or.inr q⟩
def nvR (t : Nat → Int32) (a : Nat) : Nat → Int32
  | 0 => 0
  | k + 1 => if ((10 * nvR t a k) + t (a + k)) - 48 < 1000000 then ((10 * nvR t a k) + t (a + k)) - 48 else 1000000
def nvC (t : Nat → Int32) (a : Nat) : Nat → Int32
  | 0 => 0
  | k + 1 => if ((nvC t a k * 10) + t (a + k)) - 48 ≤ 100000 then ((nvC t a k * 10) + t (a + k)) - 48 else 100000
theorem nv_rel (t : Nat → Int32) (a : Nat) : ∀ k, (∀ i, i < k → 48 ≤ (t (a + i)).toInt ∧ (t (a + i)).toInt ≤ 57) → 0 ≤ (nvR t a k).toInt ∧ (nvR t a k).toInt ≤ 1000000 ∧ ((nvR t a k).toInt ≤ 100000 ∧ (nvC t a k).toInt = (nvR t a k).toInt ∨ 100000 ≤ (nvR t a k).toInt ∧ (nvC t a k).toInt = 100000) := by
  intro k
  induction k with
  | zero =>
    intro _
    have : (nvR t a 0).toInt = 0 ∧ (nvC t a 0).toInt = 0 := ⟨qa_0, qa_0⟩
    omega
  | succ k ih =>
    intro h
    have h1 := ih (fun i hi => h i (by omega))
    have h2 := h k (by omega)
    have v10 : (10 : Int32).toInt = 10 := by decide
    have v48 : (48 : Int32).toInt = 48 := by decide
    have vM : (1000000 : Int32).toInt = 1000000 := by decide
    have vC : (100000 : Int32).toInt = 100000 := by decide
    have r1 : (10 * nvR t a k).toInt = 10 * (nvR t a k).toInt := by rw [qa_mul (by rw [v10]; omega) (by rw [v10]; omega), v10]
    have r2 : (10 * nvR t a k + t (a + k)).toInt = 10 * (nvR t a k).toInt + (t (a + k)).toInt := by rw [qa_add (by rw [r1]; omega) (by rw [r1]; omega), r1]
    have r3 : (10 * nvR t a k + t (a + k) - 48).toInt = 10 * (nvR t a k).toInt + (t (a + k)).toInt - 48 := by rw [qa_sub (by rw [r2, v48]; omega) (by rw [r2, v48]; omega), r2, v48]
    have c1 : (nvC t a k * 10).toInt = (nvC t a k).toInt * 10 := by rw [qa_mul (by rw [v10]; omega) (by rw [v10]; omega), v10]
    have c2 : (nvC t a k * 10 + t (a + k)).toInt = (nvC t a k).toInt * 10 + (t (a + k)).toInt := by rw [qa_add (by rw [c1]; omega) (by rw [c1]; omega), c1]
    have c3 : (nvC t a k * 10 + t (a + k) - 48).toInt = (nvC t a k).toInt * 10 + (t (a + k)).toInt - 48 := by rw [qa_sub (by rw [c2, v48]; omega) (by rw [c2, v48]; omega), c2, v48]
    have R : (nvR t a (k + 1)).toInt = (if 10 * (nvR t a k).toInt + (t (a + k)).toInt - 48 < 1000000 then 10 * (nvR t a k).toInt + (t (a + k)).toInt - 48 else 1000000) := by
      show (if ((10 * nvR t a k) + t (a + k)) - 48 < 1000000 then ((10 * nvR t a k) + t (a + k)) - 48 else 1000000 : Int32).toInt = _
      by_cases q : ((10 * nvR t a k) + t (a + k)) - 48 < 1000000
      · rw [if_pos q, r3]
        rw [qa_lt, r3, vM] at q
        rw [if_pos q]
      · rw [if_neg q, vM]
        rw [qa_lt, r3, vM] at q
        rw [if_neg q]
    have C : (nvC t a (k + 1)).toInt = (if (nvC t a k).toInt * 10 + (t (a + k)).toInt - 48 ≤ 100000 then (nvC t a k).toInt * 10 + (t (a + k)).toInt - 48 else 100000) := by
      show (if ((nvC t a k * 10) + t (a + k)) - 48 ≤ 100000 then ((nvC t a k * 10) + t (a + k)) - 48 else 100000 : Int32).toInt = _
      by_cases q : ((nvC t a k * 10) + t (a + k)) - 48 ≤ 100000
      · rw [if_pos q, c3]
        rw [qa_le, c3, vC] at q
        rw [if_pos q]
      · rw [if_neg q, vC]
        rw [qa_le, c3, vC] at q
        rw [if_neg q]
    rw [R, C]
    by_cases q1 : 10 * (nvR t a k).toInt + (t (a + k)).toInt - 48 < 1000000
    · rw [if_pos q1]
      by_cases q2 : (nvC t a k).toInt * 10 + (t (a + k)).toInt - 48 ≤ 100000
      · rw [if_pos q2]
        omega
      · rw [if_neg q2]
        omega
    · rw [if_neg q1]
      by_cases q2 : (nvC t a k).toInt * 10 + (t (a + k)).toInt - 48 ≤ 100000
      · rw [if_pos q2]
        omega
      · rw [if_neg q2]
        omega
theorem sb_number {p : PS} {M : RS} {n : Nat} (P : pRn p M n) {a e : Nat} (hae : a ≤ e) (he : e ≤ n) (h1 : pSt p = nI a) (h2 : pEn p = nI e) : fX6_numberHere p = some (nvC (mTx M) a (e - a)) := by
  obtain ⟨p1, p2, p3, p4⟩ := P
  unfold fX6_numberHere fX6_numberHere_b0
  rw [h1]
  refine qa_lop0 (fun j => (nvC (mTx M) a j, nI (a + j))) (e - a) (by omega) (fun j hj k => ?_) (fun k => ?_)
  · show fX6_numberHere_b7 k (nvC (mTx M) a j) (nI (a + j)) p = k (nvC (mTx M) a (j + 1), nI (a + j + 1))
    have hI := qa_nI (n := a + j) (by omega)
    have hE := qa_nI (n := e) (by omega)
    unfold fX6_numberHere_b7 fX6_numberHere_b41
    rw [h2, if_neg (by rw [qa_le]; omega), sc_at (a + j) hI (by omega) (by omega), qa_b, (p4 _ (by omega)).1, nI_1]
    show _ = k ((if ((nvC (mTx M) a j * 10) + mTx M (a + j)) - 48 ≤ 100000 then ((nvC (mTx M) a j * 10) + mTx M (a + j)) - 48 else 100000), nI (a + j + 1))
    split <;> rfl
  · show fX6_numberHere_b7 k (nvC (mTx M) a (e - a)) (nI (a + (e - a))) p = _
    have hE := qa_nI (n := e) (by omega)
    rw [show a + (e - a) = e by omega]
    unfold fX6_numberHere_b7
    rw [h2, if_pos Int32.le_rfl]
/-- the token at hand, on both sides -/
def pTk (p : PS) (M : RS) (n a e : Nat) : Prop := a ≤ e ∧ e ≤ n ∧ pSt p = nI a ∧ mTs M = nI a ∧ pEn p = nI e ∧ mPo M = nI e ∧
  ((a = n ∧ pTy p = 0 ∧ mTo M = 0) ∨ (a < e ∧ pTy p = 1 ∧ mTo M = 1) ∨ (a < e ∧ pTy p = 2 ∧ mTo M = 2 ∧ (∀ i, i < e - a → 48 ≤ (mTx M (a + i)).toInt ∧ (mTx M (a + i)).toInt ≤ 57) ∧ mNu M = nvR (mTx M) a (e - a)) ∨
    (a < e ∧ pTy p = 3 ∧ mTo M = 3) ∨ (a < e ∧ pTy p = 4 ∧ mTo M = 4) ∨ (a < e ∧ pTy p = 6 ∧ mTo M = 5))
def tkP (p : PS) (a ty e : Int32) : PS := tEn (tTy (tSt p a) ty) e
def tkM (M : RS) (a nu to e : Int32) : RS := nPo (nTo (nNu (nTs M a) nu) to) e
/-- the class's reading of a token -/
theorem sb_token {p : PS} {M : RS} {n : Nat} (P : pRn p M n) (h0 : pEc p = 0) {b i1 i2 : Nat} (hb : pEn p = nI b) (h1 : b ≤ i1) (h2 : i1 ≤ n) (h3 : ∀ i, b ≤ i → i < i1 → tyB (mTx M i) = 5) (h4 : i1 = n ∨ ¬ tyB (mTx M i1) = 5)
    (h5 : i1 = n ∧ i2 = n ∨ i1 < n ∧ (tyB (mTx M i1) = 1 ∨ tyB (mTx M i1) = 2) ∧ i1 ≤ i2 ∧ i2 ≤ n ∧ (∀ i, i1 ≤ i → i < i2 → tyB (mTx M i) = tyB (mTx M i1)) ∧ (i2 = n ∨ ¬ tyB (mTx M i2) = tyB (mTx M i1)) ∨ i1 < n ∧ ¬ tyB (mTx M i1) = 1 ∧ ¬ tyB (mTx M i1) = 2 ∧ ¬ tyB (mTx M i1) = 0 ∧ i2 = i1 + 1) :
    fX6_readToken p = some (tkP p (nI i1) (if i1 < n then tyB (mTx M i1) else 0) (nI i2)) := by
  have hn := P.1
  have hle := P.2.1
  have hN := qa_nI (n := n) (by omega)
  have tl : ∀ (ty : Int32), fX6_readToken_b36 (nI i1) p = some (tkP p (nI i1) (if i1 < n then tyB (mTx M i1) else 0) (nI i2)) := by
    intro _
    have ht : fX6_typeAt (nI i1) (tSt p (nI i1)) = some (if i1 < n then tyB (mTx M i1) else 0) := sb_typeAt (p := tSt p (nI i1)) (M := M) P (by omega)
    unfold fX6_readToken_b36
    rw [ht, qa_b]
    have e1 : ∀ ty, pTy (tTy (tSt p (nI i1)) ty) = ty := fun _ => rfl
    rw [e1]
    rcases h5 with ⟨q1, q2⟩ | ⟨q1, q2, q3, q4, q5, q6⟩ | ⟨q1, q2, q3, q4, q5⟩
    · rw [if_neg (by omega : ¬ i1 < n), if_neg (show ¬ (0 : Int32) = 1 by decide), if_neg (show ¬ (0 : Int32) = 2 by decide), if_pos (rfl : (0 : Int32) = 0), q1, q2]
      rfl
    · rw [if_pos q1]
      have lp : lop (fun y (z : Int32 × PS) => fX6_readToken_b66 y z.1 z.2) LF (nI i1, tTy (tSt p (nI i1)) (tyB (mTx M i1))) = some (tkP p (nI i1) (tyB (mTx M i1)) (nI i2)) := by
        refine qa_lop0 (fun j => (nI (i1 + j), tTy (tSt p (nI i1)) (tyB (mTx M i1)))) (i2 - i1) (by omega) (fun j hj k => ?_) (fun k => ?_)
        · show fX6_readToken_b66 k (nI (i1 + j)) (tTy (tSt p (nI i1)) (tyB (mTx M i1))) = k (nI (i1 + j + 1), tTy (tSt p (nI i1)) (tyB (mTx M i1)))
          have hI := qa_nI (n := i1 + j) (by omega)
          have hle' : pLe (tTy (tSt p (nI i1)) (tyB (mTx M i1))) = nI n := hle
          have ht' : fX6_typeAt (nI (i1 + j)) (tTy (tSt p (nI i1)) (tyB (mTx M i1))) = some (if i1 + j < n then tyB (mTx M (i1 + j)) else 0) := sb_typeAt (p := tTy (tSt p (nI i1)) (tyB (mTx M i1))) (M := M) P (by omega)
          unfold fX6_readToken_b66
          rw [hle', if_neg (by rw [qa_le]; omega), ht', qa_b, if_pos (by omega : i1 + j < n), e1, if_pos (q5 (i1 + j) (by omega) (by omega)), nI_1]
        · show fX6_readToken_b66 k (nI (i1 + (i2 - i1))) (tTy (tSt p (nI i1)) (tyB (mTx M i1))) = _
          rw [show i1 + (i2 - i1) = i2 by omega]
          have hI := qa_nI (n := i2) (by omega)
          have hle' : pLe (tTy (tSt p (nI i1)) (tyB (mTx M i1))) = nI n := hle
          have ht' : fX6_typeAt (nI i2) (tTy (tSt p (nI i1)) (tyB (mTx M i1))) = some (if i2 < n then tyB (mTx M i2) else 0) := sb_typeAt (p := tTy (tSt p (nI i1)) (tyB (mTx M i1))) (M := M) P (by omega)
          unfold fX6_readToken_b66
          rw [hle']
          by_cases q : i2 = n
          · rw [if_pos (by rw [qa_le]; omega)]
            rfl
          · rw [if_neg (by rw [qa_le]; omega), ht', qa_b, if_pos (by omega : i2 < n), e1, if_neg (q6.resolve_left q)]
            rfl
      rw [lp]
      rcases q2 with q | q
      · rw [if_pos q]
      · rw [if_neg (by rw [q]; decide), if_pos q]
    · rw [if_pos q1, if_neg q2, if_neg q3, if_neg q4, q5, nI_1]
      rfl
  unfold fX6_readToken fX6_readToken_b0
  rw [if_pos h0, hb]
  refine qa_lop0 (fun j => (nI (b + j), p)) (i1 - b) (by omega) (fun j hj k => ?_) (fun k => ?_)
  · show fX6_readToken_b13 k (nI (b + j)) p = k (nI (b + j + 1), p)
    have hI := qa_nI (n := b + j) (by omega)
    unfold fX6_readToken_b13
    rw [hle, if_neg (by rw [qa_le]; omega), sb_typeAt P (by omega), qa_b, if_pos (by omega : b + j < n), if_pos (h3 (b + j) (by omega) (by omega)), nI_1]
  · show fX6_readToken_b13 k (nI (b + (i1 - b))) p = _
    rw [show b + (i1 - b) = i1 by omega]
    have hI := qa_nI (n := i1) (by omega)
    unfold fX6_readToken_b13
    rw [hle]
    by_cases q : i1 = n
    · rw [if_pos (by rw [qa_le]; omega)]
      exact tl 0
    · rw [if_neg (by rw [qa_le]; omega), sb_typeAt P (by omega), qa_b, if_pos (by omega : i1 < n), if_neg (h4.resolve_left q)]
      have := tl 0
      rw [if_pos (by omega : i1 < n)] at this
      exact this
