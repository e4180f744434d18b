/-! the history: acts that are remembered and taken back -/
def hQ (h : HT) : Nat → KS
  | 0 => hq0 h
  | 1 => hq1 h
  | 2 => hq2 h
  | 3 => hq3 h
  | 4 => hq4 h
  | 5 => hq5 h
  | 6 => hq6 h
  | _ => hq7 h
def iQ (h : HT) (i : Nat) (w : KS) : HT := match i with
  | 0 => iq0 h w
  | 1 => iq1 h w
  | 2 => iq2 h w
  | 3 => iq3 h w
  | 4 => iq4 h w
  | 5 => iq5 h w
  | 6 => iq6 h w
  | _ => iq7 h w
theorem x8 {x : Nat} (h : x < 8) : x = 0 ∨ x = 1 ∨ x = 2 ∨ x = 3 ∨ x = 4 ∨ x = 5 ∨ x = 6 ∨ x = 7 := by omega
theorem hQ_iQ (h : HT) {x : Nat} (hx : x < 8) (w : KS) : hQ (iQ h x w) x = w ∧ (∀ i, i < 8 → i ≠ x → hQ (iQ h x w) i = hQ h i) ∧ hX (iQ h x w) = hX h ∧ hY (iQ h x w) = hY h ∧ hV (iQ h x w) = hV h := by
  rcases x8 hx with e | e | e | e | e | e | e | e <;> subst e <;> refine ⟨rfl, fun i hi hne => ?_, rfl, rfl, rfl⟩ <;> rcases x8 hi with e | e | e | e | e | e | e | e <;> subst e <;> first | rfl | exact absurd rfl hne
theorem hi_rem {h : HT} {x k : Nat} (hx : x < 8) (ex : hX h = nI x) (hk : k ≤ 8) (ey : hY h = nI k) {w : KS} (ew : fX8_copyFrom (hQ h x) (hV h) = some w) :
    fX4_remember h = some (if k = 8 then iX (iQ h x w) (nI ((x + 1) % 8)) else iY (iX (iQ h x w) (nI ((x + 1) % 8))) (nI (k + 1))) := by
  unfold fX4_remember fX4_remember_b0
  rw [ex]
  have e8 : k = 8 → (8 : Int32) ≤ nI k := by
    intro e
    rw [e]
    decide
  have e7 : ¬ k = 8 → ¬ (8 : Int32) ≤ nI k := by
    intro e
    rw [qa_le, qa_nI (by omega)]
    simp only [Int32.reduceToInt]
    omega
  rcases x8 hx with e | e | e | e | e | e | e | e <;> subst e
  · have ew : fX8_copyFrom (hq0 h) (hV h) = some w := ew
    have a1 : hY (iX (iq0 h w) (((hX (iq0 h w)) + 1) - ((hX (iq0 h w)) + 1) / 8 * 8)) = nI k := ey
    have a2 : ((hX (iq0 h w)) + 1) - ((hX (iq0 h w)) + 1) / 8 * 8 = nI 1 := by
      rw [show hX (iq0 h w) = nI 0 from ex]
      decide
    rw [if_neg (by decide), if_neg (by decide), qa_gi (by decide) (by decide), if_pos (show nI 0 = 0 from rfl), ew, qa_b, a1, a2]
    by_cases q : k = 8
    · rw [if_pos (e8 q), if_pos q]
      rfl
    · rw [if_neg (e7 q), if_neg q, nI_1]
      rfl
  · have ew : fX8_copyFrom (hq1 h) (hV h) = some w := ew
    have a1 : hY (iX (iq1 h w) (((hX (iq1 h w)) + 1) - ((hX (iq1 h w)) + 1) / 8 * 8)) = nI k := ey
    have a2 : ((hX (iq1 h w)) + 1) - ((hX (iq1 h w)) + 1) / 8 * 8 = nI 2 := by
      rw [show hX (iq1 h w) = nI 1 from ex]
      decide
    rw [if_neg (by decide), if_neg (by decide), qa_gi (by decide) (by decide), if_neg (by decide), if_pos (show nI 1 = 1 from rfl), ew, qa_b, a1, a2]
    by_cases q : k = 8
    · rw [if_pos (e8 q), if_pos q]
      rfl
    · rw [if_neg (e7 q), if_neg q, nI_1]
      rfl
  · have ew : fX8_copyFrom (hq2 h) (hV h) = some w := ew
    have a1 : hY (iX (iq2 h w) (((hX (iq2 h w)) + 1) - ((hX (iq2 h w)) + 1) / 8 * 8)) = nI k := ey
    have a2 : ((hX (iq2 h w)) + 1) - ((hX (iq2 h w)) + 1) / 8 * 8 = nI 3 := by
      rw [show hX (iq2 h w) = nI 2 from ex]
      decide
    rw [if_neg (by decide), if_neg (by decide), qa_gi (by decide) (by decide), if_neg (by decide), if_neg (by decide), if_pos (show nI 2 = 2 from rfl), ew, qa_b, a1, a2]
    by_cases q : k = 8
    · rw [if_pos (e8 q), if_pos q]
      rfl
    · rw [if_neg (e7 q), if_neg q, nI_1]
      rfl
  · have ew : fX8_copyFrom (hq3 h) (hV h) = some w := ew
    have a1 : hY (iX (iq3 h w) (((hX (iq3 h w)) + 1) - ((hX (iq3 h w)) + 1) / 8 * 8)) = nI k := ey
    have a2 : ((hX (iq3 h w)) + 1) - ((hX (iq3 h w)) + 1) / 8 * 8 = nI 4 := by
      rw [show hX (iq3 h w) = nI 3 from ex]
      decide
    rw [if_neg (by decide), if_neg (by decide), qa_gi (by decide) (by decide), if_neg (by decide), if_neg (by decide), if_neg (by decide), if_pos (show nI 3 = 3 from rfl), ew, qa_b, a1, a2]
    by_cases q : k = 8
    · rw [if_pos (e8 q), if_pos q]
      rfl
    · rw [if_neg (e7 q), if_neg q, nI_1]
      rfl
  · have ew : fX8_copyFrom (hq4 h) (hV h) = some w := ew
    have a1 : hY (iX (iq4 h w) (((hX (iq4 h w)) + 1) - ((hX (iq4 h w)) + 1) / 8 * 8)) = nI k := ey
    have a2 : ((hX (iq4 h w)) + 1) - ((hX (iq4 h w)) + 1) / 8 * 8 = nI 5 := by
      rw [show hX (iq4 h w) = nI 4 from ex]
      decide
    rw [if_neg (by decide), if_neg (by decide), qa_gi (by decide) (by decide), if_neg (by decide), if_neg (by decide), if_neg (by decide), if_neg (by decide), if_pos (show nI 4 = 4 from rfl), ew, qa_b, a1, a2]
    by_cases q : k = 8
    · rw [if_pos (e8 q), if_pos q]
      rfl
    · rw [if_neg (e7 q), if_neg q, nI_1]
      rfl
  · have ew : fX8_copyFrom (hq5 h) (hV h) = some w := ew
    have a1 : hY (iX (iq5 h w) (((hX (iq5 h w)) + 1) - ((hX (iq5 h w)) + 1) / 8 * 8)) = nI k := ey
    have a2 : ((hX (iq5 h w)) + 1) - ((hX (iq5 h w)) + 1) / 8 * 8 = nI 6 := by
      rw [show hX (iq5 h w) = nI 5 from ex]
      decide
    rw [if_neg (by decide), if_neg (by decide), qa_gi (by decide) (by decide), if_neg (by decide), if_neg (by decide), if_neg (by decide), if_neg (by decide), if_neg (by decide), if_pos (show nI 5 = 5 from rfl), ew, qa_b, a1, a2]
    by_cases q : k = 8
    · rw [if_pos (e8 q), if_pos q]
      rfl
    · rw [if_neg (e7 q), if_neg q, nI_1]
      rfl
  · have ew : fX8_copyFrom (hq6 h) (hV h) = some w := ew
    have a1 : hY (iX (iq6 h w) (((hX (iq6 h w)) + 1) - ((hX (iq6 h w)) + 1) / 8 * 8)) = nI k := ey
    have a2 : ((hX (iq6 h w)) + 1) - ((hX (iq6 h w)) + 1) / 8 * 8 = nI 7 := by
      rw [show hX (iq6 h w) = nI 6 from ex]
      decide
    rw [if_neg (by decide), if_neg (by decide), qa_gi (by decide) (by decide), if_neg (by decide), if_neg (by decide), if_neg (by decide), if_neg (by decide), if_neg (by decide), if_neg (by decide), if_pos (show nI 6 = 6 from rfl), ew, qa_b, a1, a2]
    by_cases q : k = 8
    · rw [if_pos (e8 q), if_pos q]
      rfl
    · rw [if_neg (e7 q), if_neg q, nI_1]
      rfl
  · have ew : fX8_copyFrom (hq7 h) (hV h) = some w := ew
    have a1 : hY (iX (iq7 h w) (((hX (iq7 h w)) + 1) - ((hX (iq7 h w)) + 1) / 8 * 8)) = nI k := ey
    have a2 : ((hX (iq7 h w)) + 1) - ((hX (iq7 h w)) + 1) / 8 * 8 = nI 0 := by
      rw [show hX (iq7 h w) = nI 7 from ex]
      decide
    rw [if_neg (by decide), if_neg (by decide), qa_gi (by decide) (by decide), if_neg (by decide), if_neg (by decide), if_neg (by decide), if_neg (by decide), if_neg (by decide), if_neg (by decide), if_neg (by decide), if_pos (show nI 7 = 7 from rfl), ew, qa_b, a1, a2]
    by_cases q : k = 8
    · rw [if_pos (e8 q), if_pos q]
      rfl
    · rw [if_neg (e7 q), if_neg q, nI_1]
      rfl
theorem hi_back {h : HT} {x k : Nat} (hx : x < 8) (ex : hX h = nI x) (hk : k + 1 ≤ 8) (ey : hY h = nI (k + 1)) {w : KS} (ew : fX8_copyFrom (hV h) (hQ h ((x + 7) % 8)) = some w) :
    fX4_takeBack h = some (nI k, iY (iX (iV h w) (nI ((x + 7) % 8))) (nI k)) := by
  have e1 : (1 : Int32) ≤ nI (k + 1) := by
    rw [qa_le, qa_1, qa_nI (by omega)]
    omega
  unfold fX4_takeBack fX4_takeBack_b0
  rw [ey, if_pos e1, ex]
  rcases x8 hx with e | e | e | e | e | e | e | e <;> subst e
  · have ew : fX8_copyFrom (hV h) (hq7 h) = some w := ew
    have a2 : ((nI 0 + 8) - 1) - ((nI 0 + 8) - 1) / 8 * 8 = nI 7 := by decide
    rw [a2, if_neg (by decide), qa_gi (by decide) (by decide), if_neg (by decide), if_neg (by decide), if_neg (by decide), if_neg (by decide), if_neg (by decide), if_neg (by decide), if_neg (by decide), if_pos (show nI 7 = 7 from rfl), ew, qa_b]
    have a1 : hY (iX (iV h w) (nI 7)) = nI (k + 1) := ey
    rw [a1, nI_pred]
    rfl
  · have ew : fX8_copyFrom (hV h) (hq0 h) = some w := ew
    have a2 : ((nI 1 + 8) - 1) - ((nI 1 + 8) - 1) / 8 * 8 = nI 0 := by decide
    rw [a2, if_neg (by decide), qa_gi (by decide) (by decide), if_pos (show nI 0 = 0 from rfl), ew, qa_b]
    have a1 : hY (iX (iV h w) (nI 0)) = nI (k + 1) := ey
    rw [a1, nI_pred]
    rfl
  · have ew : fX8_copyFrom (hV h) (hq1 h) = some w := ew
    have a2 : ((nI 2 + 8) - 1) - ((nI 2 + 8) - 1) / 8 * 8 = nI 1 := by decide
    rw [a2, if_neg (by decide), qa_gi (by decide) (by decide), if_neg (by decide), if_pos (show nI 1 = 1 from rfl), ew, qa_b]
    have a1 : hY (iX (iV h w) (nI 1)) = nI (k + 1) := ey
    rw [a1, nI_pred]
    rfl
  · have ew : fX8_copyFrom (hV h) (hq2 h) = some w := ew
    have a2 : ((nI 3 + 8) - 1) - ((nI 3 + 8) - 1) / 8 * 8 = nI 2 := by decide
    rw [a2, if_neg (by decide), qa_gi (by decide) (by decide), if_neg (by decide), if_neg (by decide), if_pos (show nI 2 = 2 from rfl), ew, qa_b]
    have a1 : hY (iX (iV h w) (nI 2)) = nI (k + 1) := ey
    rw [a1, nI_pred]
    rfl
  · have ew : fX8_copyFrom (hV h) (hq3 h) = some w := ew
    have a2 : ((nI 4 + 8) - 1) - ((nI 4 + 8) - 1) / 8 * 8 = nI 3 := by decide
    rw [a2, if_neg (by decide), qa_gi (by decide) (by decide), if_neg (by decide), if_neg (by decide), if_neg (by decide), if_pos (show nI 3 = 3 from rfl), ew, qa_b]
    have a1 : hY (iX (iV h w) (nI 3)) = nI (k + 1) := ey
    rw [a1, nI_pred]
    rfl
  · have ew : fX8_copyFrom (hV h) (hq4 h) = some w := ew
    have a2 : ((nI 5 + 8) - 1) - ((nI 5 + 8) - 1) / 8 * 8 = nI 4 := by decide
    rw [a2, if_neg (by decide), qa_gi (by decide) (by decide), if_neg (by decide), if_neg (by decide), if_neg (by decide), if_neg (by decide), if_pos (show nI 4 = 4 from rfl), ew, qa_b]
    have a1 : hY (iX (iV h w) (nI 4)) = nI (k + 1) := ey
    rw [a1, nI_pred]
    rfl
  · have ew : fX8_copyFrom (hV h) (hq5 h) = some w := ew
    have a2 : ((nI 6 + 8) - 1) - ((nI 6 + 8) - 1) / 8 * 8 = nI 5 := by decide
    rw [a2, if_neg (by decide), qa_gi (by decide) (by decide), if_neg (by decide), if_neg (by decide), if_neg (by decide), if_neg (by decide), if_neg (by decide), if_pos (show nI 5 = 5 from rfl), ew, qa_b]
    have a1 : hY (iX (iV h w) (nI 5)) = nI (k + 1) := ey
    rw [a1, nI_pred]
    rfl
  · have ew : fX8_copyFrom (hV h) (hq6 h) = some w := ew
    have a2 : ((nI 7 + 8) - 1) - ((nI 7 + 8) - 1) / 8 * 8 = nI 6 := by decide
    rw [a2, if_neg (by decide), qa_gi (by decide) (by decide), if_neg (by decide), if_neg (by decide), if_neg (by decide), if_neg (by decide), if_neg (by decide), if_neg (by decide), if_pos (show nI 6 = 6 from rfl), ew, qa_b]
    have a1 : hY (iX (iV h w) (nI 6)) = nI (k + 1) := ey
    rw [a1, nI_pred]
    rfl
