/-! the reference's reading of a token; both together -/
theorem nPo_eta (M : RS) {x : Int32} (h : mPo M = x) : nPo M x = M := by
  subst h
  obtain ⟨b1, b2, b3, b4, b5, b6, b7, b8, b9, b10, b11, b12, b13, b14, b15, b16, b17, b18, b19, b20, b21, b22, b23⟩ := M
  rfl
theorem tyB_l (c : Int32) : (97 ≤ c ∧ c ≤ 122) ↔ tyB c = 1 := by
  constructor
  · intro h
    unfold tyB
    rw [if_pos h]
  · intro h
    unfold tyB at h
    by_cases a : 97 ≤ c ∧ c ≤ 122
    · exact a
    rw [if_neg a] at h
    exfalso
    revert h
    repeat (split; decide)
    decide
theorem tyB_d (c : Int32) : (48 ≤ c ∧ c ≤ 57) ↔ tyB c = 2 := by
  constructor
  · intro h
    have : ¬ (97 ≤ c ∧ c ≤ 122) := by
      intro h'
      have h1 := qa_le.mp h.2
      have h2 := qa_le.mp h'.1
      rw [show (57 : Int32).toInt = 57 by decide] at h1
      rw [show (97 : Int32).toInt = 97 by decide] at h2
      omega
    unfold tyB
    rw [if_neg this, if_pos h]
  · intro h
    unfold tyB at h
    by_cases a : 97 ≤ c ∧ c ≤ 122
    · rw [if_pos a] at h
      exact absurd h (by decide)
    rw [if_neg a] at h
    by_cases b : 48 ≤ c ∧ c ≤ 57
    · exact b
    rw [if_neg b] at h
    exfalso
    revert h
    repeat (split; decide)
    decide
theorem tyB_n0 (c : Int32) : ¬ tyB c = 0 := by
  intro h
  unfold tyB at h
  revert h
  repeat (split; decide)
  decide
theorem mPo_Po (A : RS) (x : Int32) : mPo (nPo A x) = x := rfl
theorem mTl_Po (A : RS) (x : Int32) : mTl (nPo A x) = mTl A := rfl
theorem mTx_Po (A : RS) (x : Int32) : mTx (nPo A x) = mTx A := rfl
theorem mNu_Po (A : RS) (x : Int32) : mNu (nPo A x) = mNu A := rfl
theorem mTl_Nu (A : RS) (x : Int32) : mTl (nNu A x) = mTl A := rfl
theorem mTx_Nu (A : RS) (x : Int32) : mTx (nNu A x) = mTx A := rfl
theorem mNu_Nu (A : RS) (x : Int32) : mNu (nNu A x) = x := rfl
theorem mPo_Nu (A : RS) (x : Int32) : mPo (nNu A x) = mPo A := rfl
theorem mPo_Ts (A : RS) (x : Int32) : mPo (nTs A x) = mPo A := rfl
theorem mTl_Ts (A : RS) (x : Int32) : mTl (nTs A x) = mTl A := rfl
theorem mTx_Ts (A : RS) (x : Int32) : mTx (nTs A x) = mTx A := rfl
theorem mTl_To (A : RS) (x : Int32) : mTl (nTo A x) = mTl A := rfl
theorem mTx_To (A : RS) (x : Int32) : mTx (nTo A x) = mTx A := rfl
set_option maxHeartbeats 200000 in
theorem nPoPo (A : RS) (x y : Int32) : nPo (nPo A x) y = nPo A y := by
  dsimp only [tkM, nPo, nTo, nNu, nTs, mPo]
set_option maxHeartbeats 200000 in
theorem nPoNu (A : RS) (v p w q : Int32) : nPo (nNu (nPo (nNu A v) p) w) q = nPo (nNu A w) q := by
  dsimp only [tkM, nPo, nTo, nNu, nTs, mPo]
set_option maxHeartbeats 200000 in
theorem tk_end (A : RS) (p a to : Int32) : nTo (nNu (nTs (nPo A p) a) 0) to = tkM A a 0 to p := by
  dsimp only [tkM, nPo, nTo, nNu, nTs, mPo]
set_option maxHeartbeats 200000 in
theorem tk_wd (A : RS) (p a : Int32) : nTo (nNu (nTs (nPo A p) a) 0) 1 = nPo (nTo (nNu (nTs A a) 0) 1) p := by
  dsimp only [tkM, nPo, nTo, nNu, nTs, mPo]
set_option maxHeartbeats 200000 in
theorem tk_wd2 (A : RS) (e a : Int32) : tkM A a 0 1 e = nPo (nTo (nNu (nTs A a) 0) 1) e := by
  dsimp only [tkM, nPo, nTo, nNu, nTs, mPo]
set_option maxHeartbeats 200000 in
theorem tk_nu (A : RS) (p a : Int32) : nTo (nNu (nTs (nPo A p) a) 0) 2 = nPo (nNu (nTo (nTs A a) 2) 0) p := by
  dsimp only [tkM, nPo, nTo, nNu, nTs, mPo]
set_option maxHeartbeats 200000 in
theorem tk_nu2 (A : RS) (e a v : Int32) : tkM A a v 2 e = nPo (nNu (nTo (nTs A a) 2) v) e := by
  dsimp only [tkM, nPo, nTo, nNu, nTs, mPo]
set_option maxHeartbeats 200000 in
theorem tk_po (A : RS) (a v to e e2 : Int32) : nPo (tkM A a v to e) e2 = tkM A a v to e2 := by
  dsimp only [tkM, nPo, nTo, nNu, nTs, mPo]
set_option maxHeartbeats 200000 in
theorem mPo_tk (A : RS) (a v to e : Int32) : mPo (tkM A a v to e) = e := by
  dsimp only [tkM, nPo, nTo, nNu, nTs, mPo]
set_option maxHeartbeats 200000 in
/-- a number's digits, one by one -/
theorem adv_num (X : RS) {n : Nat} (n5 : n ≤ 500) (hle : mTl X = nI n) {t : Nat → Int32} (ht : mTx X = t) {i1 i2 : Nat} (q3 : i1 ≤ i2) (q4 : i2 ≤ n) (q5 : ∀ i, i1 ≤ i → i < i2 → tyB (t i) = 2) (q6 : i2 = n ∨ ¬ tyB (t i2) = 2) :
    lop (fun y z => fX10_advance_b136 y z) LF (nPo (nNu X 0) (nI i1)) = some (nPo (nNu X (nvR t i1 (i2 - i1))) (nI i2)) := by
  have m1 : ∀ (v : Int32) (i : Nat), i ≤ 600 → fX10_byteAt (mPo (nPo (nNu X v) (nI i))) (nPo (nNu X v) (nI i)) = some (if i < n then t i else (-1)) := by
    intro v i x3
    rw [mPo_Po, rb_byteAt n5 (by rw [mTl_Po, mTl_Nu]; exact hle) x3, mTx_Po, mTx_Nu, ht]
  have md : ¬ (48 ≤ (-1 : Int32) ∧ (-1 : Int32) ≤ 57) := by decide
  refine qa_lop0 (fun j => nPo (nNu X (nvR t i1 j)) (nI (i1 + j))) (i2 - i1) (by omega) (fun j hj k => ?_) (fun k => ?_)
  · have e : nvR t i1 (j + 1) = if ((10 * nvR t i1 j) + t (i1 + j)) - 48 < 1000000 then ((10 * nvR t i1 j) + t (i1 + j)) - 48 else 1000000 := rfl
    show fX10_advance_b136 k (nPo (nNu X (nvR t i1 j)) (nI (i1 + j))) = k (nPo (nNu X (nvR t i1 (j + 1))) (nI (i1 + j + 1)))
    rw [e]
    generalize nvR t i1 j = v
    unfold fX10_advance_b136
    rw [m1 v (i1 + j) (by omega), qa_b, qa_b, if_pos (by omega : i1 + j < n), rb_digit, qa_b, if_pos ((tyB_d _).mpr (q5 (i1 + j) (by omega) (by omega))), if_neg n10, mNu_Po, mNu_Nu, mPo_Nu, mPo_Po, nI_1, nPoNu]
  · have e : i1 + (i2 - i1) = i2 := by omega
    show fX10_advance_b136 k (nPo (nNu X (nvR t i1 (i2 - i1))) (nI (i1 + (i2 - i1)))) = _
    rw [e]
    generalize nvR t i1 (i2 - i1) = v
    unfold fX10_advance_b136
    have no : ¬ (48 ≤ (if i2 < n then t i2 else (-1)) ∧ (if i2 < n then t i2 else (-1)) ≤ 57) := by
      by_cases z : i2 = n
      · rw [if_neg (by omega : ¬ i2 < n)]
        exact md
      · rw [if_pos (by omega : i2 < n)]
        exact fun h => q6.resolve_left z ((tyB_d _).mp h)
    rw [m1 v i2 (by omega), qa_b, qa_b, rb_digit, qa_b, if_neg no, if_pos (rfl : (0 : Int32) = 0)]
set_option maxHeartbeats 200000 in
/-- a word's letters -/
theorem adv_word (X : RS) {n : Nat} (n5 : n ≤ 500) (hle : mTl X = nI n) {t : Nat → Int32} (ht : mTx X = t) {i1 i2 : Nat} (q3 : i1 ≤ i2) (q4 : i2 ≤ n) (q5 : ∀ i, i1 ≤ i → i < i2 → tyB (t i) = 1) (q6 : i2 = n ∨ ¬ tyB (t i2) = 1) :
    lop (fun y z => fX10_advance_b90 y z) LF (nPo X (nI i1)) = some (nPo X (nI i2)) := by
  have m1 : ∀ (i : Nat), i ≤ 600 → fX10_byteAt (mPo (nPo X (nI i))) (nPo X (nI i)) = some (if i < n then t i else (-1)) := by
    intro i x3
    rw [mPo_Po, rb_byteAt n5 (by rw [mTl_Po]; exact hle) x3, mTx_Po, ht]
  have ml : ¬ (97 ≤ (-1 : Int32) ∧ (-1 : Int32) ≤ 122) := by decide
  refine qa_lop0 (fun j => nPo X (nI (i1 + j))) (i2 - i1) (by omega) (fun j hj k => ?_) (fun k => ?_)
  · show fX10_advance_b90 k (nPo X (nI (i1 + j))) = k (nPo X (nI (i1 + j + 1)))
    unfold fX10_advance_b90
    rw [m1 (i1 + j) (by omega), qa_b, if_pos (by omega : i1 + j < n), rb_letter, qa_b, if_pos ((tyB_l _).mpr (q5 (i1 + j) (by omega) (by omega))), if_neg n10, mPo_Po, nI_1, nPoPo]
  · have e : i1 + (i2 - i1) = i2 := by omega
    show fX10_advance_b90 k (nPo X (nI (i1 + (i2 - i1)))) = _
    rw [e]
    unfold fX10_advance_b90
    have no : ¬ (97 ≤ (if i2 < n then t i2 else (-1)) ∧ (if i2 < n then t i2 else (-1)) ≤ 122) := by
      by_cases z : i2 = n
      · rw [if_neg (by omega : ¬ i2 < n)]
        exact ml
      · rw [if_pos (by omega : i2 < n)]
        exact fun h => q6.resolve_left z ((tyB_l _).mp h)
    rw [m1 i2 (by omega), qa_b, rb_letter, qa_b, if_neg no, if_pos (rfl : (0 : Int32) = 0)]
/-- a token's kind in the reference's numbers -/
def toB (c : Int32) : Int32 := if tyB c = 1 then 1 else if tyB c = 2 then 2 else if c = 59 then 4 else if c = 45 then 3 else 5
set_option maxHeartbeats 200000 in
/-- what is behind the spaces -/
theorem adv_tok (M : RS) {n : Nat} (n5 : n ≤ 500) (hle : mTl M = nI n) {i1 i2 : Nat} (h2 : i1 ≤ n) (h4 : i1 = n ∨ ¬ tyB (mTx M i1) = 5)
    (h5 : i1 = n ∧ i2 = n ∨ i1 < n ∧ (tyB (mTx M i1) = 1 ∨ tyB (mTx M i1) = 2) ∧ i1 ≤ i2 ∧ i2 ≤ n ∧ (∀ i, i1 ≤ i → i < i2 → tyB (mTx M i) = tyB (mTx M i1)) ∧ (i2 = n ∨ ¬ tyB (mTx M i2) = tyB (mTx M i1)) ∨ i1 < n ∧ ¬ tyB (mTx M i1) = 1 ∧ ¬ tyB (mTx M i1) = 2 ∧ ¬ tyB (mTx M i1) = 0 ∧ i2 = i1 + 1) (k : RS → Option RS) :
    fX10_advance_b0 k (nPo M (nI i1)) = some (tkM M (nI i1) (if i1 < n ∧ tyB (mTx M i1) = 2 then nvR (mTx M) i1 (i2 - i1) else 0) (if i1 < n then toB (mTx M i1) else 0) (nI i2)) := by
  have hN := qa_nI (n := n) (by omega)
  have hI := qa_nI (n := i1) (by omega)
  have hby : fX10_byteAt (nI i1) (nPo M (nI i1)) = some (if i1 < n then mTx M i1 else (-1)) := by
    rw [rb_byteAt n5 (by rw [mTl_Po]; exact hle) (by omega), mTx_Po]
  have hX : fX10_byteAt (nI i1) (nNu (nTs (nPo M (nI i1)) (nI i1)) 0) = some (if i1 < n then mTx M i1 else (-1)) := by
    rw [rb_byteAt n5 (by rw [mTl_Nu, mTl_Ts, mTl_Po]; exact hle) (by omega), mTx_Nu, mTx_Ts, mTx_Po]
  unfold fX10_advance_b0
  rw [mPo_Po, hby, qa_b, qa_b, mPo_Nu, mPo_Ts, mPo_Po, mTl_Nu, mTl_Ts, mTl_Po, hle, hX, qa_b, qa_b, qa_b, rb_letter, qa_b, rb_digit, qa_b]
  have ns : ¬ (if i1 < n then mTx M i1 else (-1)) = 32 ∧ ¬ (if i1 < n then mTx M i1 else (-1)) = 10 := by
    by_cases q : i1 = n
    · rw [if_neg (by omega : ¬ i1 < n)]
      decide
    · rw [if_pos (by omega : i1 < n)]
      have := h4.resolve_left q
      exact ⟨fun h => this ((tyB_5 _).mpr (Or.inl h)), fun h => this ((tyB_5 _).mpr (Or.inr h))⟩
  rw [if_neg ns.1, if_neg ns.2]
  rcases h5 with ⟨q1, q2⟩ | ⟨q1, q2, q3, q4, q5, q6⟩ | ⟨q1, q2, q3, q4, q5⟩
  · rw [if_neg (show ¬ nI i1 < nI n by rw [qa_lt]; omega), if_neg (by omega : ¬ (i1 < n ∧ tyB (mTx M i1) = 2)), if_neg (by omega : ¬ i1 < n), tk_end, q1, q2]
  · rw [if_pos (show nI i1 < nI n by rw [qa_lt]; omega)]
    simp only [if_pos q1]
    rcases q2 with q | q
    · have et : toB (mTx M i1) = 1 := by unfold toB; rw [if_pos q]
      rw [if_pos ((tyB_l _).mpr q), if_neg n10, if_neg (fun h => absurd (h.2.symm.trans q) (by decide) : ¬ (i1 < n ∧ tyB (mTx M i1) = 2)), et, tk_wd, tk_wd2]
      exact adv_word _ n5 (by rw [mTl_To, mTl_Nu, mTl_Ts]; exact hle) (by rw [mTx_To, mTx_Nu, mTx_Ts]) q3 q4 (fun i a b => (q5 i a b).trans q) (q6.imp id (fun h h' => h (h'.trans q.symm)))
    · have nl : ¬ (97 ≤ mTx M i1 ∧ mTx M i1 ≤ 122) := fun h => absurd (((tyB_l _).mp h).symm.trans q) (by decide)
      have et : toB (mTx M i1) = 2 := by unfold toB; rw [if_neg (by rw [q]; decide), if_pos q]
      rw [if_neg nl, if_pos (rfl : (0 : Int32) = 0), if_pos ((tyB_d _).mpr q), if_neg n10, if_pos (⟨q1, q⟩ : i1 < n ∧ tyB (mTx M i1) = 2), et, tk_nu, tk_nu2]
      exact adv_num _ n5 (by rw [mTl_To, mTl_Ts]; exact hle) (by rw [mTx_To, mTx_Ts]) q3 q4 (fun i a b => (q5 i a b).trans q) (q6.imp id (fun h h' => h (h'.trans q.symm)))
  · rw [if_pos (show nI i1 < nI n by rw [qa_lt]; omega)]
    simp only [if_pos q1]
    have nl : ¬ (97 ≤ mTx M i1 ∧ mTx M i1 ≤ 122) := fun h => q2 ((tyB_l _).mp h)
    have nd : ¬ (48 ≤ mTx M i1 ∧ mTx M i1 ≤ 57) := fun h => q3 ((tyB_d _).mp h)
    rw [if_neg nl, if_pos (rfl : (0 : Int32) = 0), if_neg nd, if_pos (rfl : (0 : Int32) = 0), if_neg (fun h => q3 h.2 : ¬ (i1 < n ∧ tyB (mTx M i1) = 2)), q5]
    unfold toB fX10_advance_b222
    rw [if_neg q2, if_neg q3, tk_end, tk_end, tk_end, mPo_tk, mPo_tk, mPo_tk, tk_po, tk_po, tk_po, nI_1]
    by_cases z : mTx M i1 = 59
    · rw [if_pos z, if_pos z]
    · rw [if_neg z, if_neg z]
      by_cases z2 : mTx M i1 = 45
      · rw [if_pos z2, if_pos z2]
      · rw [if_neg z2, if_neg z2]
set_option maxHeartbeats 200000 in
theorem rb_advance {M : RS} {n : Nat} (n5 : n ≤ 500) (hle : mTl M = nI n) {b i1 i2 : Nat} (hb : mPo M = nI b) (h1 : b ≤ i1) (h2 : i1 ≤ n) (h3 : ∀ i, b ≤ i → i < i1 → tyB (mTx M i) = 5) (h4 : i1 = n ∨ ¬ tyB (mTx M i1) = 5)
    (h5 : i1 = n ∧ i2 = n ∨ i1 < n ∧ (tyB (mTx M i1) = 1 ∨ tyB (mTx M i1) = 2) ∧ i1 ≤ i2 ∧ i2 ≤ n ∧ (∀ i, i1 ≤ i → i < i2 → tyB (mTx M i) = tyB (mTx M i1)) ∧ (i2 = n ∨ ¬ tyB (mTx M i2) = tyB (mTx M i1)) ∨ i1 < n ∧ ¬ tyB (mTx M i1) = 1 ∧ ¬ tyB (mTx M i1) = 2 ∧ ¬ tyB (mTx M i1) = 0 ∧ i2 = i1 + 1) :
    fX10_advance M = some (tkM M (nI i1) (if i1 < n ∧ tyB (mTx M i1) = 2 then nvR (mTx M) i1 (i2 - i1) else 0) (if i1 < n then toB (mTx M i1) else 0) (nI i2)) := by
  have h0 : M = nPo M (nI (b + 0)) := (nPo_eta M hb).symm
  unfold fX10_advance
  refine (congrArg (lop (fun y z => fX10_advance_b0 y z) LF) h0).trans ?_
  refine qa_lop0 (fun j => nPo M (nI (b + j))) (i1 - b) (by omega) (fun j hj k => ?_) (fun k => ?_)
  · show fX10_advance_b0 k (nPo M (nI (b + j))) = k (nPo M (nI (b + j + 1)))
    have hj5 := (tyB_5 _).mp (h3 (b + j) (by omega) (by omega))
    unfold fX10_advance_b0 fX10_advance_b26
    rw [mPo_Po, rb_byteAt n5 (by rw [mTl_Po]; exact hle) (by omega), qa_b, qa_b, if_pos (by omega : b + j < n), mTx_Po, nPoPo, nI_1]
    rcases hj5 with q | q
    · rw [if_pos q]
    · rw [if_neg (by rw [q]; decide), if_pos q]
  · have e : b + (i1 - b) = i1 := by omega
    show fX10_advance_b0 k (nPo M (nI (b + (i1 - b)))) = _
    rw [e]
    exact adv_tok M n5 hle h2 h4 h5 k
