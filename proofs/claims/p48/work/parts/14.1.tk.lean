/-! tokens of a text -/
def tyB (c : Int32) : Int32 := if 97 ≤ c ∧ c ≤ 122 then 1 else if 48 ≤ c ∧ c ≤ 57 then 2 else if c = 45 then 3 else if c = 59 then 4 else if c = 32 then 5 else if c = 10 then 5 else 6
/-- the length of the text -/
def pRb (p : PS) (n : Nat) : Prop := n ≤ 500 ∧ pLe p = nI n
theorem tb_typeAt {p : PS} {n : Nat} (P : pRb p n) {i : Nat} (hi : i ≤ 600) : fX6_typeAt (nI i) p = some (if i < n then tyB (pBy p i) else 0) := by
  obtain ⟨h1, h2⟩ := P
  have hI := qa_nI (n := i) (by omega)
  have hN := qa_nI (n := n) (by omega)
  have v : (500 : Int32).toInt = 500 := by decide
  unfold fX6_typeAt fX6_typeAt_b0 fX6_typeAt_b44 fX6_typeAt_b58
  rw [if_neg (by rw [qa_lt, qa_0]; omega), h2]
  by_cases q : i < n
  · rw [if_neg (by rw [qa_le]; omega), if_pos (by rw [qa_lt, v]; omega), qa_gi (by omega) (by omega), qa_ix hI, if_pos q]
    generalize pBy p i = c
    unfold tyB
    have b58 : (if c = 45 then some (3 : Int32) else if c = 59 then some 4 else if c = 32 then some 5 else if c = 10 then some 5 else some 6) = some (if c = 45 then 3 else if c = 59 then 4 else if c = 32 then 5 else if c = 10 then 5 else 6) := by
      repeat (split <;> try rfl)
    rw [b58]
    have b44 : (if c < 48 then some (if c = 45 then 3 else if c = 59 then 4 else if c = 32 then 5 else if c = 10 then 5 else 6) else if 57 < c then some (if c = 45 then 3 else if c = 59 then 4 else if c = 32 then 5 else if c = 10 then 5 else 6) else some (2 : Int32)) = some (if 48 ≤ c ∧ c ≤ 57 then 2 else if c = 45 then 3 else if c = 59 then 4 else if c = 32 then 5 else if c = 10 then 5 else 6) := by
      by_cases a : c < 48
      · rw [if_pos a]
        exact congrArg some (if_neg (fun h => absurd (Int32.lt_of_lt_of_le a h.1) Int32.lt_irrefl)).symm
      · rw [if_neg a]
        by_cases b : 57 < c
        · rw [if_pos b]
          exact congrArg some (if_neg (fun h => absurd (Int32.lt_of_lt_of_le b h.2) Int32.lt_irrefl)).symm
        · rw [if_neg b]
          exact congrArg some (if_pos ⟨Int32.not_lt.mp a, Int32.not_lt.mp b⟩).symm
    rw [b44]
    by_cases a : c < 97
    · rw [if_pos a]
      exact congrArg some (if_neg (fun h => absurd (Int32.lt_of_lt_of_le a h.1) Int32.lt_irrefl)).symm
    · rw [if_neg a]
      by_cases b : 122 < c
      · rw [if_pos b]
        exact congrArg some (if_neg (fun h => absurd (Int32.lt_of_lt_of_le b h.2) Int32.lt_irrefl)).symm
      · rw [if_neg b]
        exact congrArg some (if_pos ⟨Int32.not_lt.mp a, Int32.not_lt.mp b⟩).symm
  · rw [if_pos (by rw [qa_le]; omega), if_neg q]
theorem run_end (P : Nat → Prop) [DecidablePred P] (n : Nat) : ∀ (d b : Nat), b + d = n → ∃ e, b ≤ e ∧ e ≤ n ∧ (∀ i, b ≤ i → i < e → P i) ∧ (e = n ∨ ¬ P e) := by
  intro d
  induction d with
  | zero => exact fun b h => ⟨b, Nat.le_refl b, by omega, fun i h1 h2 => by omega, Or.inl (by omega)⟩
  | succ d ih =>
    intro b h
    by_cases q : P b
    · obtain ⟨e, e1, e2, e3, e4⟩ := ih (b + 1) (by omega)
      refine ⟨e, by omega, e2, fun i h1 h2 => ?_, e4⟩
      by_cases qi : i = b
      · rw [qi]
        exact q
      · exact e3 i (by omega) h2
    · exact ⟨b, Nat.le_refl b, by omega, fun i h1 h2 => by omega, Or.inr q⟩
def nvC (t : Nat → Int32) (a : Nat) : Nat → Int32
  | 0 => 0
  | k + 1 => if ((nvC t a k * 10) + t (a + k)) - 48 ≤ 100000 then ((nvC t a k * 10) + t (a + k)) - 48 else 100000
theorem tb_number {p : PS} {n : Nat} (P : pRb p n) {a e : Nat} (hae : a ≤ e) (he : e ≤ n) (h1 : pSt p = nI a) (h2 : pEn p = nI e) : fX6_numberHere p = some (nvC (pBy p) a (e - a)) := by
  obtain ⟨p1, p2⟩ := P
  unfold fX6_numberHere fX6_numberHere_b0
  rw [h1]
  refine qa_lop0 (fun j => (nvC (pBy p) a j, nI (a + j))) (e - a) (by omega) (fun j hj k => ?_) (fun k => ?_)
  · show fX6_numberHere_b7 k (nvC (pBy p) a j) (nI (a + j)) p = k (nvC (pBy p) a (j + 1), nI (a + j + 1))
    have hI := qa_nI (n := a + j) (by omega)
    have hE := qa_nI (n := e) (by omega)
    unfold fX6_numberHere_b7 fX6_numberHere_b41
    rw [h2, if_neg (by rw [qa_le]; omega), sc_at (a + j) hI (by omega) (by omega), qa_b, nI_1]
    show _ = k ((if ((nvC (pBy p) a j * 10) + pBy p (a + j)) - 48 ≤ 100000 then ((nvC (pBy p) a j * 10) + pBy p (a + j)) - 48 else 100000), nI (a + j + 1))
    split <;> rfl
  · show fX6_numberHere_b7 k (nvC (pBy p) a (e - a)) (nI (a + (e - a))) p = _
    have hE := qa_nI (n := e) (by omega)
    rw [show a + (e - a) = e by omega]
    unfold fX6_numberHere_b7
    rw [h2, if_pos Int32.le_rfl]
def tkP (p : PS) (a ty e : Int32) : PS := tEn (tTy (tSt p a) ty) e
theorem tb_token {p : PS} {n : Nat} (P : pRb p n) (h0 : pEc p = 0) {b i1 i2 : Nat} (hb : pEn p = nI b) (h1 : b ≤ i1) (h2 : i1 ≤ n) (h3 : ∀ i, b ≤ i → i < i1 → tyB (pBy p i) = 5) (h4 : i1 = n ∨ ¬ tyB (pBy p i1) = 5)
    (h5 : i1 = n ∧ i2 = n ∨ i1 < n ∧ (tyB (pBy p i1) = 1 ∨ tyB (pBy p i1) = 2) ∧ i1 ≤ i2 ∧ i2 ≤ n ∧ (∀ i, i1 ≤ i → i < i2 → tyB (pBy p i) = tyB (pBy p i1)) ∧ (i2 = n ∨ ¬ tyB (pBy p i2) = tyB (pBy p i1)) ∨ i1 < n ∧ ¬ tyB (pBy p i1) = 1 ∧ ¬ tyB (pBy p i1) = 2 ∧ ¬ tyB (pBy p i1) = 0 ∧ i2 = i1 + 1) :
    fX6_readToken p = some (tkP p (nI i1) (if i1 < n then tyB (pBy p i1) else 0) (nI i2)) := by
  have hn := P.1
  have hle := P.2
  have hN := qa_nI (n := n) (by omega)
  have tl : ∀ (ty : Int32), fX6_readToken_b36 (nI i1) p = some (tkP p (nI i1) (if i1 < n then tyB (pBy p i1) else 0) (nI i2)) := by
    intro _
    have ht : fX6_typeAt (nI i1) (tSt p (nI i1)) = some (if i1 < n then tyB (pBy p i1) else 0) := tb_typeAt (p := tSt p (nI i1)) P (by omega)
    unfold fX6_readToken_b36
    rw [ht, qa_b]
    have e1 : ∀ ty, pTy (tTy (tSt p (nI i1)) ty) = ty := fun _ => rfl
    rw [e1]
    rcases h5 with ⟨q1, q2⟩ | ⟨q1, q2, q3, q4, q5, q6⟩ | ⟨q1, q2, q3, q4, q5⟩
    · rw [if_neg (by omega : ¬ i1 < n), if_neg (show ¬ (0 : Int32) = 1 by decide), if_neg (show ¬ (0 : Int32) = 2 by decide), if_pos (rfl : (0 : Int32) = 0), q1, q2]
      rfl
    · rw [if_pos q1]
      have lp : lop (fun y (z : Int32 × PS) => fX6_readToken_b66 y z.1 z.2) LF (nI i1, tTy (tSt p (nI i1)) (tyB (pBy p i1))) = some (tkP p (nI i1) (tyB (pBy p i1)) (nI i2)) := by
        refine qa_lop0 (fun j => (nI (i1 + j), tTy (tSt p (nI i1)) (tyB (pBy p i1)))) (i2 - i1) (by omega) (fun j hj k => ?_) (fun k => ?_)
        · show fX6_readToken_b66 k (nI (i1 + j)) (tTy (tSt p (nI i1)) (tyB (pBy p i1))) = k (nI (i1 + j + 1), tTy (tSt p (nI i1)) (tyB (pBy p i1)))
          have hI := qa_nI (n := i1 + j) (by omega)
          have hle' : pLe (tTy (tSt p (nI i1)) (tyB (pBy p i1))) = nI n := hle
          have ht' : fX6_typeAt (nI (i1 + j)) (tTy (tSt p (nI i1)) (tyB (pBy p i1))) = some (if i1 + j < n then tyB (pBy p (i1 + j)) else 0) := tb_typeAt (p := tTy (tSt p (nI i1)) (tyB (pBy p i1))) P (by omega)
          unfold fX6_readToken_b66
          rw [hle', if_neg (by rw [qa_le]; omega), ht', qa_b, if_pos (by omega : i1 + j < n), e1, if_pos (q5 (i1 + j) (by omega) (by omega)), nI_1]
        · show fX6_readToken_b66 k (nI (i1 + (i2 - i1))) (tTy (tSt p (nI i1)) (tyB (pBy p i1))) = _
          rw [show i1 + (i2 - i1) = i2 by omega]
          have hI := qa_nI (n := i2) (by omega)
          have hle' : pLe (tTy (tSt p (nI i1)) (tyB (pBy p i1))) = nI n := hle
          have ht' : fX6_typeAt (nI i2) (tTy (tSt p (nI i1)) (tyB (pBy p i1))) = some (if i2 < n then tyB (pBy p i2) else 0) := tb_typeAt (p := tTy (tSt p (nI i1)) (tyB (pBy p i1))) P (by omega)
          unfold fX6_readToken_b66
          rw [hle']
          by_cases q : i2 = n
          · rw [if_pos (by rw [qa_le]; omega)]
            rfl
          · rw [if_neg (by rw [qa_le]; omega), ht', qa_b, if_pos (by omega : i2 < n), e1, if_neg (q6.resolve_left q)]
            rfl
      rw [lp]
      rcases q2 with q | q
      · rw [if_pos q]
      · rw [if_neg (by rw [q]; decide), if_pos q]
    · rw [if_pos q1, if_neg q2, if_neg q3, if_neg q4, q5, nI_1]
      rfl
  unfold fX6_readToken fX6_readToken_b0
  rw [if_pos h0, hb]
  refine qa_lop0 (fun j => (nI (b + j), p)) (i1 - b) (by omega) (fun j hj k => ?_) (fun k => ?_)
  · show fX6_readToken_b13 k (nI (b + j)) p = k (nI (b + j + 1), p)
    have hI := qa_nI (n := b + j) (by omega)
    unfold fX6_readToken_b13
    rw [hle, if_neg (by rw [qa_le]; omega), tb_typeAt P (by omega), qa_b, if_pos (by omega : b + j < n), if_pos (h3 (b + j) (by omega) (by omega)), nI_1]
  · show fX6_readToken_b13 k (nI (b + (i1 - b))) p = _
    rw [show b + (i1 - b) = i1 by omega]
    have hI := qa_nI (n := i1) (by omega)
    unfold fX6_readToken_b13
    rw [hle]
    by_cases q : i1 = n
    · rw [if_pos (by rw [qa_le]; omega)]
      exact tl 0
    · rw [if_neg (by rw [qa_le]; omega), tb_typeAt P (by omega), qa_b, if_pos (by omega : i1 < n), if_neg (h4.resolve_left q)]
      have := tl 0
      rw [if_pos (by omega : i1 < n)] at this
      exact this
theorem at_tot (x : Int32) {n : Nat} (hn : n < 1000) (f : Nat → Int32) : ∃ y, fX9_at x n f = some y := by
  have hN := qa_nI (n := n) (by omega)
  unfold fX9_at fX9_at_b0
  by_cases h1 : x < 0
  · exact ⟨_, if_pos h1⟩
  rw [if_neg h1]
  by_cases h2 : Int32.ofNat n ≤ x
  · exact ⟨_, if_pos h2⟩
  rw [if_neg h2]
  rw [qa_lt, qa_0] at h1
  have h3 : ¬ (nI n).toInt ≤ x.toInt := fun h => h2 (qa_le.mpr h)
  rw [qa_gi (by omega) (by omega)]
  exact ⟨_, rfl⟩
theorem tb_word {p : PS} {w : Nat} {l : List Int32} (hw : zB w = l) (h20 : l.length ≤ 20) : ∃ b, fX6_isHere w p = some b ∧ (b = 0 ∨ b = 1) ∧ (b = 1 ↔ pTy p = 1 ∧ pEn p - pSt p = nI l.length ∧ ∀ j, j < l.length → fX9_at (pSt p + nI j) 500 (pBy p) = some (l.getD j 0)) := by
  have hL := qa_nI (n := l.length) (by omega)
  unfold fX6_isHere fX6_isHere_b0
  by_cases t1 : pTy p = 1
  · have el : fJ0_length_8abf5 w = some (nI l.length) := by
      unfold fJ0_length_8abf5
      rw [hw]
      rfl
    rw [if_pos t1, el, qa_b]
    by_cases t2 : pEn p - pSt p = nI l.length
    · rw [if_pos t2]
      obtain ⟨e, _, k2, k3, k4⟩ := run_end (fun j => fX9_at (pSt p + nI j) 500 (pBy p) = some (l.getD j 0)) l.length l.length 0 (by omega)
      have lp : lop (fun y z => fX6_isHere_b28 y z w p) LF (0 : Int32) = some (if e = l.length then 1 else 0) := by
        refine qa_lop0 (fun j => nI j) e (by omega) (fun j hj k => ?_) (fun k => ?_)
        · have hj' := qa_nI (n := j) (by omega)
          have k3' := k3 j (by omega) hj
          show fX6_isHere_b28 k (nI j) w p = k (nI (j + 1))
          unfold fX6_isHere_b28 fJ0_charAt_5068e
          rw [el, qa_b, if_neg (by rw [qa_le]; omega), k3', qa_b, hw, qa_gi (by omega) (by omega), qa_b, qa_ix hj', if_pos rfl, nI_1]
        · have hj' := qa_nI (n := e) (by omega)
          show fX6_isHere_b28 k (nI e) w p = _
          unfold fX6_isHere_b28 fJ0_charAt_5068e
          rw [el, qa_b]
          by_cases q : e = l.length
          · rw [if_pos (by rw [qa_le]; omega), if_pos q]
          · obtain ⟨y, hy⟩ := at_tot (pSt p + nI e) (n := 500) (by omega) (pBy p)
            have k4' := k4.resolve_left q
            rw [if_neg (by rw [qa_le]; omega), hy, qa_b, hw, qa_gi (by omega) (by omega), qa_b, qa_ix hj', if_neg, if_neg q]
            intro h
            exact k4' (by rw [hy, h])
      rw [lp]
      by_cases q : e = l.length
      · rw [if_pos q]
        exact ⟨1, rfl, Or.inr rfl, fun _ => ⟨t1, t2, fun j hj => k3 j (by omega) (by omega)⟩, fun _ => rfl⟩
      · rw [if_neg q]
        exact ⟨0, rfl, Or.inl rfl, fun h => absurd h (by decide), fun h => absurd (h.2.2 e (by omega)) (k4.resolve_left q)⟩
    · rw [if_neg t2]
      exact ⟨0, rfl, Or.inl rfl, fun h => absurd h (by decide), fun h => absurd h.2.1 t2⟩
  · rw [if_neg t1]
    exact ⟨0, rfl, Or.inl rfl, fun h => absurd h (by decide), fun h => absurd h.1 t1⟩
/-! cursors -/
theorem gd_l (x y : List Nat) {j : Nat} (h : j < x.length) : (x ++ y).getD j 0 = x.getD j 0 := by
  rw [List.getD_eq_getElem?_getD, List.getD_eq_getElem?_getD, List.getElem?_append_left h]
theorem gd_r (x y : List Nat) (j : Nat) : (x ++ y).getD (x.length + j) 0 = y.getD j 0 := by
  rw [List.getD_eq_getElem?_getD, List.getD_eq_getElem?_getD, List.getElem?_append_right (by omega), show x.length + j - x.length = j by omega]
/-- from b on the parser's text is r -/
def PB (p : PS) (b : Nat) (r : List Nat) : Prop := ∀ j, j < r.length → pBy p (b + j) = nI (r.getD j 0)
theorem PB.l {p : PS} {b : Nat} {x y : List Nat} (h : PB p b (x ++ y)) : PB p b x := fun j hj => by
  rw [h j (by rw [List.length_append]; omega), gd_l x y hj]
theorem PB.r {p : PS} {b : Nat} {x y : List Nat} (h : PB p b (x ++ y)) : PB p (b + x.length) y := fun j hj => by
  rw [show b + x.length + j = b + (x.length + j) by omega, h _ (by rw [List.length_append]; omega), gd_r]
/-- what is still to be read, between tokens -/
def CS (p : PS) (so ko : Int32) (r : List Nat) : Prop := ∃ b n : Nat, pRb p n ∧ pEc p = 0 ∧ pSo p = so ∧ pKo p = ko ∧ pEn p = nI b ∧ b + r.length = n ∧ PB p b r
/-- the token at hand, and what follows -/
def CT (p : PS) (so ko ty : Int32) (s r : List Nat) : Prop := ∃ a n : Nat, pRb p n ∧ pEc p = 0 ∧ pSo p = so ∧ pKo p = ko ∧ pTy p = ty ∧ pSt p = nI a ∧ pEn p = nI (a + s.length) ∧ a + (s ++ r).length = n ∧ PB p a (s ++ r)
theorem CT.cs {p : PS} {so ko ty : Int32} {s r : List Nat} (h : CT p so ko ty s r) : CS p so ko r := by
  obtain ⟨a, n, h1, h2, h3, h4, h5, h6, h7, h8, h9⟩ := h
  exact ⟨a + s.length, n, h1, h2, h3, h4, h7, by rw [List.length_append] at h8; omega, h9.r⟩
theorem CT.ec {p : PS} {so ko ty : Int32} {s r : List Nat} (h : CT p so ko ty s r) : pEc p = 0 := by
  obtain ⟨a, n, h1, h2, h3, h4, h5, h6, h7, h8, h9⟩ := h
  exact h2
theorem CT.ty {p : PS} {so ko ty : Int32} {s r : List Nat} (h : CT p so ko ty s r) : pTy p = ty := by
  obtain ⟨a, n, h1, h2, h3, h4, h5, h6, h7, h8, h9⟩ := h
  exact h5
theorem CT.eso {p : PS} {so ko ty : Int32} {s r : List Nat} (h : CT p so ko ty s r) : pSo p = so := by
  obtain ⟨a, n, h1, h2, h3, h4, h5, h6, h7, h8, h9⟩ := h
  exact h3
theorem CT.eko {p : PS} {so ko ty : Int32} {s r : List Nat} (h : CT p so ko ty s r) : pKo p = ko := by
  obtain ⟨a, n, h1, h2, h3, h4, h5, h6, h7, h8, h9⟩ := h
  exact h4
theorem CT.so {p : PS} {so ko ty : Int32} {s r : List Nat} (h : CT p so ko ty s r) (x : Int32) : CT (tSo p x) x ko ty s r := by
  obtain ⟨a, n, h1, h2, h3, h4, h5, h6, h7, h8, h9⟩ := h
  exact ⟨a, n, h1, h2, rfl, h4, h5, h6, h7, h8, h9⟩
theorem CT.ko {p : PS} {so ko ty : Int32} {s r : List Nat} (h : CT p so ko ty s r) (x : Int32) : CT (tKo p x) so x ty s r := by
  obtain ⟨a, n, h1, h2, h3, h4, h5, h6, h7, h8, h9⟩ := h
  exact ⟨a, n, h1, h2, h3, rfl, h5, h6, h7, h8, h9⟩
/-- s is a token of the kind ty, before r -/
def tokk (ty : Int32) (s r : List Nat) : Prop := (ty = 0 ∧ s = [] ∧ r = []) ∨ ((ty = 1 ∨ ty = 2) ∧ 0 < s.length ∧ (∀ j, j < s.length → tyB (nI (s.getD j 0)) = ty) ∧ (r = [] ∨ ¬ tyB (nI (r.getD 0 0)) = ty)) ∨ (ty = 4 ∧ s = [59])
theorem tyB_59 : tyB (nI 59) = 4 := by decide
theorem tyB_32 : tyB (nI 32) = 5 := by decide
theorem ct_next {p : PS} {so ko : Int32} {r : List Nat} (h : CS p so ko r) {sp s' r' : List Nat} {ty' : Int32} (hr : r = sp ++ (s' ++ r')) (hsp : sp = [] ∨ sp = [32]) (K : tokk ty' s' r') : ∃ p', fX6_readToken p = some p' ∧ CT p' so ko ty' s' r' := by
  obtain ⟨b, n, P, h0, h3, h4, h7, h8, h9⟩ := h
  subst hr
  have q1 := h9.l
  have q2 := h9.r
  have q3 := q2.l
  have q4 := q2.r
  rw [List.length_append, List.length_append] at h8
  have hn := P.1
  have hs5 : ∀ i, b ≤ i → i < b + sp.length → tyB (pBy p i) = 5 := by
    intro i hi1 hi2
    rcases hsp with e | e
    · rw [e] at hi2
      exact absurd hi2 (by show ¬ i < b + 0; omega)
    · subst e
      have := q1 0 (by show 0 < 1; omega)
      have hi : i = b := by
        have : i < b + 1 := hi2
        omega
      rw [hi]
      rw [show b + 0 = b by omega] at this
      rw [this]
      exact tyB_32
  have eT : (if b + sp.length < n then tyB (pBy p (b + sp.length)) else 0) = ty' := by
    rcases K with ⟨k1, k2, k3⟩ | ⟨k1, k2, k3, k4⟩ | ⟨k1, k2⟩
    · subst k2 k3
      rw [if_neg (by have : ([] : List Nat).length = 0 := rfl; omega), k1]
    · rw [if_pos (by omega)]
      have := q3 0 k2
      rw [show b + sp.length + 0 = b + sp.length by omega] at this
      rw [this]
      exact k3 0 k2
    · subst k2
      have e1 : ([59] : List Nat).length = 1 := rfl
      rw [if_pos (by omega)]
      have := q3 0 (by omega)
      rw [show b + sp.length + 0 = b + sp.length by omega] at this
      rw [this, k1]
      exact tyB_59
  have hT := tb_token P h0 h7 (i1 := b + sp.length) (i2 := b + sp.length + s'.length) (by omega) (by omega) hs5 (by
    rcases K with ⟨k1, k2, k3⟩ | ⟨k1, k2, k3, k4⟩ | ⟨k1, k2⟩
    · subst k2 k3
      left
      have : ([] : List Nat).length = 0 := rfl
      omega
    · right
      rw [if_pos (by omega)] at eT
      rw [eT]
      rcases k1 with k | k <;> rw [k] <;> decide
    · right
      subst k2
      have e1 : ([59] : List Nat).length = 1 := rfl
      rw [if_pos (by omega)] at eT
      rw [eT, k1]
      decide) (by
    rcases K with ⟨k1, k2, k3⟩ | ⟨k1, k2, k3, k4⟩ | ⟨k1, k2⟩
    · left
      subst k2 k3
      have : ([] : List Nat).length = 0 := rfl
      omega
    · right
      left
      rw [if_pos (by omega)] at eT
      rw [eT]
      refine ⟨by omega, k1, by omega, by omega, fun i hi1 hi2 => ?_, ?_⟩
      · have := q3 (i - (b + sp.length)) (by omega)
        rw [show b + sp.length + (i - (b + sp.length)) = i by omega] at this
        rw [this]
        exact k3 _ (by omega)
      · rcases k4 with k4 | k4
        · left
          subst k4
          have : ([] : List Nat).length = 0 := rfl
          omega
        · by_cases hr' : r'.length = 0
          · left
            omega
          · right
            have := q4 0 (by omega)
            rw [show b + sp.length + s'.length + 0 = b + sp.length + s'.length by omega] at this
            rw [this]
            exact k4
    · right
      right
      subst k2
      have e1 : ([59] : List Nat).length = 1 := rfl
      rw [if_pos (by omega)] at eT
      rw [eT, k1]
      exact ⟨by omega, by decide, by decide, by decide, by omega⟩)
  rw [eT] at hT
  exact ⟨_, hT, b + sp.length, n, P, h0, h3, h4, rfl, rfl, rfl, by rw [List.length_append]; omega, q2⟩
theorem decL_c {v : Nat} (hv : v < 1000) : (∃ a, a < 10 ∧ v = a ∧ decL v = [48 + a]) ∨ (∃ a b, a < 10 ∧ b < 10 ∧ v = 10 * a + b ∧ decL v = [48 + a, 48 + b]) ∨ (∃ a b c, a < 10 ∧ b < 10 ∧ c < 10 ∧ v = 10 * (10 * a + b) + c ∧ decL v = [48 + a, 48 + b, 48 + c]) := by
  unfold decL
  by_cases h1 : v < 10
  · rw [if_pos h1]
    exact Or.inl ⟨v, h1, rfl, rfl⟩
  · rw [if_neg h1]
    by_cases h2 : v < 100
    · rw [if_pos h2]
      exact Or.inr (Or.inl ⟨v / 10, v % 10, by omega, by omega, by omega, rfl⟩)
    · rw [if_neg h2]
      exact Or.inr (Or.inr ⟨v / 100, v % 100 / 10, v % 10, by omega, by omega, by omega, by omega, rfl⟩)
theorem tyB_dg {d : Nat} (h : d < 10) : tyB (nI (48 + d)) = 2 := by
  have hA : ∀ d : Fin 10, tyB (nI (48 + d.val)) = 2 := by decide
  exact hA ⟨d, h⟩
theorem qk_n {v : Nat} (hv : v < 1000) {r : List Nat} (hr : r = [] ∨ ¬ tyB (nI (r.getD 0 0)) = 2) : tokk 2 (decL v) r := by
  refine Or.inr (Or.inl ⟨Or.inr rfl, ?_, ?_, hr⟩)
  · rcases decL_c hv with ⟨a, _, _, e⟩ | ⟨a, b, _, _, _, e⟩ | ⟨a, b, c, _, _, _, _, e⟩ <;> rw [e] <;> exact Nat.succ_pos _
  · intro j hj
    rcases decL_c hv with ⟨a, ha, _, e⟩ | ⟨a, b, ha, hb, _, e⟩ | ⟨a, b, c, ha, hb, hc, _, e⟩ <;> rw [e] at hj ⊢
    · have hj' : j < 1 := hj
      have : j = 0 := by omega
      subst this
      exact tyB_dg ha
    · have hj' : j < 2 := hj
      have : j = 0 ∨ j = 1 := by omega
      rcases this with q | q <;> subst q
      · exact tyB_dg ha
      · exact tyB_dg hb
    · have hj' : j < 3 := hj
      have : j = 0 ∨ j = 1 ∨ j = 2 := by omega
      rcases this with q | q | q <;> subst q
      · exact tyB_dg ha
      · exact tyB_dg hb
      · exact tyB_dg hc
theorem nv_st {t : Nat → Int32} {a k v d : Nat} (h1 : nvC t a k = nI v) (h2 : t (a + k) = nI (48 + d)) (hd : d < 10) (hv : v ≤ 1000) : nvC t a (k + 1) = nI (10 * v + d) := by
  have e : ((nI v * 10) + nI (48 + d)) - 48 = nI (10 * v + d) := by
    have e1 : nI v * 10 = nI (v * 10) := (Int32.ofNat_mul v 10).symm
    rw [e1, nI_add, show (48 : Int32) = nI 48 from rfl, pk_sub (by omega), show v * 10 + (48 + d) - 48 = 10 * v + d by omega]
  rw [nvC, h1, h2, e, if_pos]
  have t5 : (100000 : Int32).toInt = 100000 := by decide
  rw [qa_le, qa_nI (by omega), t5]
  omega
theorem nb_v {p : PS} {so ko : Int32} {v : Nat} {r : List Nat} (h : CT p so ko 2 (decL v) r) (hv : v < 1000) : fX6_numberHere p = some (nI v) := by
  obtain ⟨a, n, h1, h2, h3, h4, h5, h6, h7, h8, h9⟩ := h
  rw [List.length_append] at h8
  have q := h9.l
  rw [tb_number h1 (a := a) (e := a + (decL v).length) (by omega) (by omega) h6 h7, show a + (decL v).length - a = (decL v).length by omega]
  have z : nvC (pBy p) a 0 = nI 0 := rfl
  rcases decL_c hv with ⟨x, hx, ev, e⟩ | ⟨x, y, hx, hy, ev, e⟩ | ⟨x, y, w, hx, hy, hw, ev, e⟩ <;> rw [e] at q ⊢
  · have s1 := nv_st z (q 0 (show 0 < 1 by decide)) hx (by omega)
    show some (nvC (pBy p) a 1) = _
    rw [s1, ev]
    rw [show 10 * 0 + x = x by omega]
  · have s1 := nv_st z (q 0 (show 0 < 2 by decide)) hx (by omega)
    have s2 := nv_st s1 (q 1 (show 1 < 2 by decide)) hy (by omega)
    show some (nvC (pBy p) a 2) = _
    rw [s2, ev]
    rw [show 10 * (10 * 0 + x) + y = 10 * x + y by omega]
  · have s1 := nv_st z (q 0 (show 0 < 3 by decide)) hx (by omega)
    have s2 := nv_st s1 (q 1 (show 1 < 3 by decide)) hy (by omega)
    have s3 := nv_st s2 (q 2 (show 2 < 3 by decide)) hw (by omega)
    show some (nvC (pBy p) a 3) = _
    rw [s3, ev]
    rw [show 10 * (10 * (10 * 0 + x) + y) + w = 10 * (10 * x + y) + w by omega]
theorem le_gd : ∀ (x y : List Int32), x.length = y.length → (∀ j, j < x.length → x.getD j 0 = y.getD j 0) → x = y
  | [], [], _, _ => rfl
  | [], b :: y, h, _ => absurd h (by show ¬ 0 = y.length + 1; omega)
  | a :: x, [], h, _ => absurd h (by show ¬ x.length + 1 = 0; omega)
  | a :: x, b :: y, h, k => by
    have h' : x.length + 1 = y.length + 1 := h
    have e0 : a = b := k 0 (by show 0 < x.length + 1; omega)
    have e1 := le_gd x y (by omega) (fun j hj => k (j + 1) (by show j + 1 < x.length + 1; omega))
    rw [e0, e1]
theorem gd_m : ∀ (s : List Nat) (j : Nat), (s.map nI).getD j 0 = nI (s.getD j 0)
  | [], j => rfl
  | a :: s, 0 => rfl
  | a :: s, j + 1 => gd_m s j
/-- the word at hand -/
theorem ih_w {p : PS} {so ko : Int32} {s r : List Nat} (h : CT p so ko 1 s r) (hs : s.length ≤ 20) (w : Nat) (h20 : (zB w).length ≤ 20) : fX6_isHere w p = some (if s.map nI = zB w then 1 else 0) := by
  obtain ⟨a, n, h1, h2, h3, h4, h5, h6, h7, h8, h9⟩ := h
  obtain ⟨b, e, hb, hi⟩ := tb_word (p := p) (w := w) rfl h20
  rw [List.length_append] at h8
  have hn := h1.1
  have q := h9.l
  rw [h6, h7, pk_sub (by omega), show a + s.length - a = s.length by omega] at hi
  have at_e : ∀ j, j < s.length → fX9_at (nI a + nI j) 500 (pBy p) = some (nI (s.getD j 0)) := by
    intro j hj
    rw [nI_add, sc_at (a + j) (qa_nI (by omega)) (by omega) (by omega), q j hj]
  rw [e]
  by_cases c : s.map nI = zB w
  · rw [if_pos c]
    have hl : (zB w).length = s.length := by rw [← c, List.length_map]
    exact congrArg some (hi.mpr ⟨h5, by rw [hl], fun j hj => by rw [at_e j (by omega), ← c, gd_m]⟩)
  · rw [if_neg c]
    rcases hb with hb | hb
    · rw [hb]
    · obtain ⟨_, i1, i2⟩ := hi.mp hb
      have hl : s.length = (zB w).length := by
        have := congrArg Int32.toInt i1
        rw [qa_nI (by omega), qa_nI (by omega)] at this
        omega
      refine absurd (le_gd _ _ (by rw [List.length_map]; exact hl) (fun j hj => ?_)) c
      rw [List.length_map] at hj
      have := i2 j (by omega)
      rw [at_e j hj] at this
      rw [gd_m]
      exact Option.some.inj this
theorem ik (c : Prop) [Decidable c] (A E : Option Int32) : (if (if c then (1 : Int32) else 0) = 0 then A else E) = if c then E else A := by
  by_cases h : c
  · rw [if_pos h, if_pos h, if_neg n10]
  · rw [if_neg h, if_neg h, if_pos rfl]
/-- the statement's number, by its word -/
def stO (s : List Nat) : Option Int32 := if s.map nI = zB 14 then some 0 else if s.map nI = zB 15 then some 1 else if s.map nI = zB 16 then some 2 else if s.map nI = zB 17 then some 3 else if s.map nI = zB 18 then some 4 else if s.map nI = zB 19 then some 5 else if s.map nI = zB 20 then some 6 else if s.map nI = zB 21 then some 7 else some (-1)
theorem sh_w {p : PS} {so ko : Int32} {s r : List Nat} (h : CT p so ko 1 s r) (hs : s.length ≤ 20) : fX6_statementHere p = stO s := by
  unfold fX6_statementHere fX6_statementHere_b0 stO
  rw [ih_w h hs 14 (by decide), ih_w h hs 15 (by decide), ih_w h hs 16 (by decide), ih_w h hs 17 (by decide), ih_w h hs 18 (by decide), ih_w h hs 19 (by decide), ih_w h hs 20 (by decide), ih_w h hs 21 (by decide)]
  rw [qa_b, qa_b, qa_b, qa_b, qa_b, qa_b, qa_b, qa_b, ik, ik, ik, ik, ik, ik, ik, ik]
theorem rn_v {p : PS} {so ko : Int32} {v : Nat} {r : List Nat} (h : CT p so ko 2 (decL v) r) (hv : v < 1000) {lo hi : Int32} (h1 : lo.toInt ≤ v) (h2 : (v : Int) ≤ hi.toInt) {sp s' r' : List Nat} {ty' : Int32} (hr : r = sp ++ (s' ++ r')) (hsp : sp = [] ∨ sp = [32]) (K : tokk ty' s' r') :
    ∃ p', fX6_readNumber lo hi p = some (nI v, p') ∧ CT p' so ko ty' s' r' := by
  have hI := qa_nI (n := v) (by omega)
  obtain ⟨p', e, c⟩ := ct_next h.cs hr hsp K
  refine ⟨p', ?_, c⟩
  unfold fX6_readNumber fX6_readNumber_b0
  rw [if_pos h.ty, nb_v h hv, qa_b, if_neg (by rw [qa_lt]; omega), if_pos (by rw [qa_le]; omega), e, qa_b]
theorem rh_v {p : PS} {so ko : Int32} {v : Nat} {r : List Nat} (h : CT p so ko 2 (decL v) r) (hv : v < 1000) {lo hi : Int32} (h1 : lo.toInt ≤ v) (h2 : (v : Int) ≤ hi.toInt) {sp s' r' : List Nat} {ty' : Int32} (hr : r = sp ++ (s' ++ r')) (hsp : sp = [] ∨ sp = [32]) (K : tokk ty' s' r') :
    ∃ p', fX6_readHeight lo hi p = some (nI v, p') ∧ CT p' so ko ty' s' r' := by
  have hI := qa_nI (n := v) (by omega)
  obtain ⟨p', e, c⟩ := rn_v h hv (lo := 0) (by rw [qa_0]; omega) h2 hr hsp K
  refine ⟨p', ?_, c⟩
  have g : fX6_readHeight_b19 lo hi p = some (nI v, p') := by
    unfold fX6_readHeight_b19 fX6_readHeight_b20 fX6_readHeight_b29
    rw [if_pos rfl, e, qa_b2, if_pos rfl]
    unfold fX6_readHeight_b55
    rw [if_pos c.ec, if_pos (by rw [qa_le]; omega)]
  unfold fX6_readHeight fX6_readHeight_b0
  rw [if_pos h.ec, if_neg (by rw [h.ty]; decide), g]
theorem rw_v {p : PS} {so ko : Int32} {s r : List Nat} (h : CT p so ko 1 s r) (hs : s.length ≤ 20) {w : Nat} (hw : s.map nI = zB w) {sp s' r' : List Nat} {ty' : Int32} (hr : r = sp ++ (s' ++ r')) (hsp : sp = [] ∨ sp = [32]) (K : tokk ty' s' r') :
    ∃ p', fX6_readWord w p = some p' ∧ CT p' so ko ty' s' r' := by
  obtain ⟨p', e, c⟩ := ct_next h.cs hr hsp K
  refine ⟨p', ?_, c⟩
  have hl : (zB w).length ≤ 20 := by rw [← hw, List.length_map]; exact hs
  unfold fX6_readWord fX6_readWord_b0
  rw [ih_w h hs w hl, if_pos hw, qa_b, if_neg n10, e, qa_b]
theorem rs_v {p : PS} {so ko : Int32} {s r : List Nat} (h : CT p so ko 4 s r) {sp s' r' : List Nat} {ty' : Int32} (hr : r = sp ++ (s' ++ r')) (hsp : sp = [] ∨ sp = [32]) (K : tokk ty' s' r') :
    ∃ p', fX6_readSemicolon p = some p' ∧ CT p' so ko ty' s' r' := by
  obtain ⟨p', e, c⟩ := ct_next h.cs hr hsp K
  refine ⟨p', ?_, c⟩
  unfold fX6_readSemicolon fX6_readSemicolon_b0
  rw [if_pos h.ty, e, qa_b]
theorem rn_e {p : PS} {so ko : Int32} {v : Nat} {r : List Nat} (h : CT p so ko 2 (decL v) ([59] ++ r)) (hv : v < 1000) {lo hi : Int32} (h1 : lo.toInt ≤ v) (h2 : (v : Int) ≤ hi.toInt) : ∃ p', fX6_readNumber lo hi p = some (nI v, p') ∧ CT p' so ko 4 [59] r :=
  rn_v h hv h1 h2 (sp := []) (s' := [59]) (r' := r) (List.nil_append _).symm (Or.inl rfl) (Or.inr (Or.inr ⟨rfl, rfl⟩))
theorem rs_e {p : PS} {so ko : Int32} {s' r' : List Nat} {ty' : Int32} (h : CT p so ko 4 [59] (s' ++ r')) (K : tokk ty' s' r') : ∃ p', fX6_readSemicolon p = some p' ∧ CT p' so ko ty' s' r' :=
  rs_v h (sp := []) (s' := s') (r' := r') (List.nil_append _).symm (Or.inl rfl) K
