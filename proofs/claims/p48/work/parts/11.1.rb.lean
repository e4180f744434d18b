/-! the reference's readers as plain values over its row of numbers -/
def eC (g : Nat → Int32) (c k : Nat) : Int32 := g (61 + 7 * c + k)
def eK (g : Nat → Int32) (d k : Nat) : Int32 := g (29 + 3 * d + k)
def eO (g : Nat → Int32) (c k : Nat) : Int32 := eK g (ix (eC g c 0)) k
def eN (g : Nat → Int32) : Nat := ix (g 13)
def eQ (g : Nat → Int32) : Nat := ix (g 14)
abbrev eFr (g : Nat → Int32) (l : Int32) (c : Nat) : Prop := (eC g c 2 = 2 ∨ eC g c 2 = 1) ∧ eC g c 3 = l
abbrev eAt (g : Nat → Int32) (l : Int32) (c : Nat) : Prop := eC g c 2 = 2 ∧ eC g c 3 = l
def eWd (g : Nat → Int32) (c : Nat) : Int32 := if eC g c 2 = 2 then eC g c 1 else 0
def eWf (g : Nat → Int32) (l : Int32) (c : Nat) : Int32 := if eFr g l c then eC g c 1 else 0
def eLf (g : Nat → Int32) (l : Int32) (c : Nat) : Int32 := if eFr g l c then eO g c 2 else 0
def eDf (g : Nat → Int32) (c : Nat) : Int32 := if eC g c 2 = 2 then 1 else 0
def eMf (g : Nat → Int32) (l : Int32) (c : Nat) : Int32 := if eAt g l c then 1 else 0
def eAf (g : Nat → Int32) (l b : Int32) (c : Nat) : Int32 := if eAt g l c ∧ eC g c 5 < b then 1 else 0
def eBf (g : Nat → Int32) (c : Nat) : Int32 := if eC g c 5 = (-1) then 0 else 1
def eW (g : Nat → Int32) (l : Int32) : Int32 := sI (eWf g l) (eN g)
def eL (g : Nat → Int32) (l : Int32) : Int32 := sI (eLf g l) (eN g)
def eLd (g : Nat → Int32) : Int32 := sI (eWd g) (eN g)
def eD (g : Nat → Int32) : Int32 := sI (eDf g) (eN g)
def eM (g : Nat → Int32) (l : Int32) : Int32 := sI (eMf g l) (eN g)
def ab (x : Int32) : Int32 := if 0 ≤ x then x else 0 - x
def eTp (g : Nat → Int32) (t : Int32) : Int32 := t - t / (2 * g 17) * (2 * g 17)
def eTr (g : Nat → Int32) (t : Int32) : Int32 := if g 17 < eTp g t then 2 * g 17 - eTp g t else eTp g t
def eT (g : Nat → Int32) (t : Int32) : Int32 := g 15 + (g 16 - g 15) * eTr g t / g 17
def eV (g : Nat → Int32) (t : Int32) : Int32 := eT g t + g 19 - eLd g / g 20
def eP (g : Nat → Int32) : Int32 := ab (g 1 - g 18)
def eI (g : Nat → Int32) : Int32 := ab (g 1 - eV g (g 0))
abbrev eSu (g : Nat → Int32) (len w l : Int32) : Prop := len ≤ g 21 - eL g l ∧ ab ((eW g 0 - eW g 2) + (if l = 0 then w else if l = 2 then -w else 0)) ≤ g 23
def eSt (g : Nat → Int32) (len w b l : Int32) : Int32 := if eSu g len w l then (if b = (-1) then l else if eW g b ≤ eW g l then b else l) else b
def eLn (g : Nat → Int32) (len w : Int32) : Nat → Int32
  | 0 => -1
  | j + 1 => eSt g len w (eLn g len w j) (nI j)
/-- cars in number, their kinds in range: what the reading of sums wants -/
def eH (g : Nat → Int32) : Prop := 0 ≤ (g 13).toInt ∧ (g 13).toInt ≤ 60 ∧ ∀ c, c < eN g → 0 ≤ (eC g c 0).toInt ∧ (eC g c 0).toInt ≤ 3
theorem eH.n {g : Nat → Int32} (h : eH g) : (g 13).toInt = (eN g : Int) ∧ eN g ≤ 60 := by
  have h1 := qa_ixI h.1
  have h2 := h.2.1
  refine ⟨h1, ?_⟩
  show ix (g 13) ≤ 60
  omega
/-- the settings and the kinds in range -/
def eS (g : Nat → Int32) : Prop :=
  (-500 ≤ (g 15).toInt ∧ (g 15).toInt ≤ (g 16).toInt ∧ (g 16).toInt ≤ 500 ∧ 1 ≤ (g 17).toInt ∧ (g 17).toInt ≤ 99 ∧ -500 ≤ (g 18).toInt ∧ (g 18).toInt ≤ 500 ∧ 0 ≤ (g 19).toInt ∧ (g 19).toInt ≤ 300 ∧ 1 ≤ (g 20).toInt ∧ (g 20).toInt ≤ 999 ∧ 1 ≤ (g 21).toInt ∧ (g 21).toInt ≤ 30 ∧
    1 ≤ (g 22).toInt ∧ (g 22).toInt ≤ 9999 ∧ 0 ≤ (g 23).toInt ∧ (g 23).toInt ≤ 9999 ∧ 1 ≤ (g 24).toInt ∧ (g 24).toInt ≤ 20 ∧ 0 ≤ (g 25).toInt ∧ (g 25).toInt ≤ 50 ∧ 0 ≤ (g 26).toInt ∧ (g 26).toInt ≤ 20 ∧ 1 ≤ (g 27).toInt ∧ (g 27).toInt ≤ 20 ∧ 1 ≤ (g 28).toInt ∧ (g 28).toInt ≤ 50) ∧
  ∀ d, d < 4 → 0 ≤ (eK g d 0).toInt ∧ (eK g d 0).toInt ≤ 500 ∧ 0 ≤ (eK g d 1).toInt ∧ (eK g d 1).toInt ≤ 99 ∧ 1 ≤ (eK g d 2).toInt ∧ (eK g d 2).toInt ≤ 9
theorem n10 : ¬ (1 : Int32) = 0 := by decide
theorem rb_between (x a b : Int32) : fX10_isBetween x a b = some (if a ≤ x ∧ x ≤ b then 1 else 0) := by
  unfold fX10_isBetween fX10_isBetween_b0
  by_cases h1 : x < a
  · rw [if_pos h1, if_neg (fun h => absurd (Int32.lt_of_lt_of_le h1 h.1) Int32.lt_irrefl)]
  · rw [if_neg h1]
    by_cases h2 : b < x
    · rw [if_pos h2, if_neg (fun h => absurd (Int32.lt_of_lt_of_le h2 h.2) Int32.lt_irrefl)]
    · rw [if_neg h2, if_pos ⟨Int32.not_lt.mp h1, Int32.not_lt.mp h2⟩]
theorem rb_ofKind {x y : Int32} {g : Nat → Int32} (d k : Nat) (hx : x.toInt = (d : Int)) (hd : d < 4) (hy : y.toInt = (k : Int)) (hk : k < 3) : fX10_ofKind x y g = some (eK g d k) := by
  have e : ((29 + (3 * x)) + y).toInt = ((29 + 3 * d + k : Nat) : Int) := by
    simp only [qa_ar, hx, hy, Int32.reduceToInt]
    omega
  unfold fX10_ofKind fX10_ofKind_b0
  rw [qa_gi (by omega) (by omega), qa_ix e]
  rfl
theorem rb_ofCar {x y : Int32} {g : Nat → Int32} (c k : Nat) (hx : x.toInt = (c : Int)) (hc : c < 60) (hy : y.toInt = (k : Int)) (hk : k < 7) : fX10_ofCar x y g = some (eC g c k) := by
  have e : ((61 + (7 * x)) + y).toInt = ((61 + 7 * c + k : Nat) : Int) := by
    simp only [qa_ar, hx, hy, Int32.reduceToInt]
    omega
  unfold fX10_ofCar fX10_ofCar_b0
  rw [qa_gi (by omega) (by omega), qa_ix e]
  rfl
theorem rb_layCar {x y z : Int32} {g : Nat → Int32} (c k : Nat) (hx : x.toInt = (c : Int)) (hc : c < 60) (hy : y.toInt = (k : Int)) (hk : k < 7) : fX10_layCar x y z g = some (upd g (61 + 7 * c + k) z) := by
  have e : ((61 + (7 * x)) + y).toInt = ((61 + 7 * c + k : Nat) : Int) := by
    simp only [qa_ar, hx, hy, Int32.reduceToInt]
    omega
  unfold fX10_layCar fX10_layCar_b0
  rw [qa_gi (by omega) (by omega), qa_ix e]
theorem rb_kindOf {x y : Int32} {g : Nat → Int32} (H : eH g) (c k : Nat) (hx : x.toInt = (c : Int)) (hc : c < eN g) (hy : y.toInt = (k : Int)) (hk : k < 3) : fX10_kindOf x y g = some (eO g c k) := by
  have h1 := H.n
  have h2 := H.2.2 c hc
  have h3 := qa_ixI h2.1
  unfold fX10_kindOf fX10_kindOf_b0
  rw [rb_ofCar c 0 hx (by omega) qa_0 (by decide), qa_b, rb_ofKind (ix (eC g c 0)) k h3 (by omega) hy hk, qa_b]
  rfl
theorem rb_isFor {x l : Int32} {g : Nat → Int32} (c : Nat) (hx : x.toInt = (c : Int)) (hc : c < 60) : fX10_isFor x l g = some (if eFr g l c then 1 else 0) := by
  have h : fX10_isFor_b17 x l g = some (if eC g c 3 = l then 1 else 0) := by
    unfold fX10_isFor_b17
    rw [rb_ofCar c 3 hx hc qa_3 (by decide), qa_b]
    split <;> rfl
  unfold fX10_isFor fX10_isFor_b0
  rw [rb_ofCar c 2 hx hc qa_2 (by decide), qa_b, h]
  by_cases h1 : eC g c 2 = 2
  · rw [if_pos h1]
    by_cases h3 : eC g c 3 = l
    · rw [if_pos h3, if_pos ⟨Or.inl h1, h3⟩]
    · rw [if_neg h3, if_neg (fun h => h3 h.2)]
  · rw [if_neg h1]
    by_cases h2 : eC g c 2 = 1
    · rw [if_pos h2]
      by_cases h3 : eC g c 3 = l
      · rw [if_pos h3, if_pos ⟨Or.inr h2, h3⟩]
      · rw [if_neg h3, if_neg (fun h => h3 h.2)]
    · rw [if_neg h2, if_neg (fun h => h.1.elim h1 h2)]
theorem rb_in {g : Nat → Int32} (H : eH g) {j : Nat} (hj : j < eN g) : ¬ g 13 ≤ nI j := by
  have h1 := H.n
  rw [qa_le, qa_nI (by omega)]
  omega
theorem rb_out {g : Nat → Int32} (H : eH g) : g 13 ≤ nI (eN g) := by
  have h1 := H.n
  rw [qa_le, qa_nI (by omega)]
  omega
theorem rb_wod {g : Nat → Int32} (H : eH g) : fX10_weightOnDeck g = some (eLd g) := by
  have hn := H.n
  unfold fX10_weightOnDeck fX10_weightOnDeck_b0
  refine qa_lop0 (fun j => (sI (eWd g) j, nI j)) (eN g) (by omega) (fun j hj k => ?_) (fun k => ?_)
  · show fX10_weightOnDeck_b4 k (sI (eWd g) j) (nI j) g = k (sI (eWd g) j + eWd g j, nI (j + 1))
    have hI := qa_nI (n := j) (by omega)
    unfold fX10_weightOnDeck_b4 fX10_weightOnDeck_b36
    rw [if_neg (rb_in H hj), rb_ofCar j 2 hI (by omega) qa_2 (by decide), qa_b, nI_1]
    unfold eWd
    by_cases e : eC g j 2 = 2
    · rw [if_pos e, if_pos e, rb_ofCar j 1 hI (by omega) qa_1 (by decide), qa_b]
    · rw [if_neg e, if_neg e]
  · show fX10_weightOnDeck_b4 k (sI (eWd g) (eN g)) (nI (eN g)) g = _
    unfold fX10_weightOnDeck_b4
    rw [if_pos (rb_out H)]
    rfl
theorem rb_weightOf {g : Nat → Int32} (H : eH g) (l : Int32) : fX10_weightOf l g = some (eW g l) := by
  have hn := H.n
  unfold fX10_weightOf fX10_weightOf_b0
  refine qa_lop0 (fun j => (l, sI (eWf g l) j, nI j)) (eN g) (by omega) (fun j hj k => ?_) (fun k => ?_)
  · show fX10_weightOf_b4 k l (sI (eWf g l) j) (nI j) g = k (l, sI (eWf g l) j + eWf g l j, nI (j + 1))
    have hI := qa_nI (n := j) (by omega)
    unfold fX10_weightOf_b4 fX10_weightOf_b35
    rw [if_neg (rb_in H hj), rb_isFor j hI (by omega), qa_b, nI_1]
    unfold eWf
    by_cases e : eFr g l j
    · rw [if_pos e, if_pos e, if_neg (by decide), rb_ofCar j 1 hI (by omega) qa_1 (by decide), qa_b]
    · rw [if_neg e, if_neg e, if_pos rfl]
  · show fX10_weightOf_b4 k l (sI (eWf g l) (eN g)) (nI (eN g)) g = _
    unfold fX10_weightOf_b4
    rw [if_pos (rb_out H)]
    rfl
theorem rb_freeOf {g : Nat → Int32} (H : eH g) (l : Int32) : fX10_freeOf l g = some (g 21 - eL g l) := by
  have hn := H.n
  have h0 : (l, g 21, (0 : Int32)) = (l, g 21 - sI (eLf g l) 0, nI 0) := by
    show _ = (l, g 21 - 0, (0 : Int32))
    rw [Int32.sub_zero]
  unfold fX10_freeOf fX10_freeOf_b0
  rw [h0]
  refine qa_lop0 (fun j => (l, g 21 - sI (eLf g l) j, nI j)) (eN g) (by omega) (fun j hj k => ?_) (fun k => ?_)
  · show fX10_freeOf_b10 k l (g 21 - sI (eLf g l) j) (nI j) g = k (l, g 21 - (sI (eLf g l) j + eLf g l j), nI (j + 1))
    have hI := qa_nI (n := j) (by omega)
    unfold fX10_freeOf_b10 fX10_freeOf_b41
    rw [if_neg (rb_in H hj), rb_isFor j hI (by omega), qa_b, nI_1, Int32.sub_sub]
    unfold eLf
    by_cases e : eFr g l j
    · rw [if_pos e, if_pos e, if_neg (by decide), rb_kindOf H j 2 hI hj qa_2 (by decide), qa_b, Int32.sub_sub]
    · rw [if_neg e, if_neg e, if_pos rfl]
  · show fX10_freeOf_b10 k l (g 21 - sI (eLf g l) (eN g)) (nI (eN g)) g = _
    unfold fX10_freeOf_b10
    rw [if_pos (rb_out H)]
    rfl
theorem rb_onDeck {g : Nat → Int32} (H : eH g) : fX10_onDeck g = some (eD g) := by
  have hn := H.n
  unfold fX10_onDeck fX10_onDeck_b0
  refine qa_lop0 (fun j => (sI (eDf g) j, nI j)) (eN g) (by omega) (fun j hj k => ?_) (fun k => ?_)
  · show fX10_onDeck_b4 k (sI (eDf g) j) (nI j) g = k (sI (eDf g) j + eDf g j, nI (j + 1))
    have hI := qa_nI (n := j) (by omega)
    unfold fX10_onDeck_b4 fX10_onDeck_b31
    rw [if_neg (rb_in H hj), rb_ofCar j 2 hI (by omega) qa_2 (by decide), qa_b, nI_1]
    unfold eDf
    by_cases e : eC g j 2 = 2
    · rw [if_pos e, if_pos e]
    · rw [if_neg e, if_neg e]
  · show fX10_onDeck_b4 k (sI (eDf g) (eN g)) (nI (eN g)) g = _
    unfold fX10_onDeck_b4
    rw [if_pos (rb_out H)]
    rfl
theorem rb_standingMany {g : Nat → Int32} (H : eH g) (l : Int32) : fX10_standingMany l g = some (eM g l) := by
  have hn := H.n
  unfold fX10_standingMany fX10_standingMany_b0
  refine qa_lop0 (fun j => (l, sI (eMf g l) j, nI j)) (eN g) (by omega) (fun j hj k => ?_) (fun k => ?_)
  · show fX10_standingMany_b4 k l (sI (eMf g l) j) (nI j) g = k (l, sI (eMf g l) j + eMf g l j, nI (j + 1))
    have hI := qa_nI (n := j) (by omega)
    unfold fX10_standingMany_b4 fX10_standingMany_b40 fX10_standingMany_b41
    rw [if_neg (rb_in H hj), rb_ofCar j 2 hI (by omega) qa_2 (by decide), qa_b, nI_1]
    unfold eMf
    by_cases e : eC g j 2 = 2
    · rw [if_pos e, rb_ofCar j 3 hI (by omega) qa_3 (by decide), qa_b]
      by_cases e3 : eC g j 3 = l
      · rw [if_pos e3, if_pos ⟨e, e3⟩]
      · rw [if_neg e3, if_neg (fun h => e3 h.2)]
    · rw [if_neg e, if_neg (fun h => e h.1)]
  · show fX10_standingMany_b4 k l (sI (eMf g l) (eN g)) (nI (eN g)) g = _
    unfold fX10_standingMany_b4
    rw [if_pos (rb_out H)]
    rfl
theorem rb_aheadOf {g : Nat → Int32} (H : eH g) (l : Int32) {x : Int32} (c : Nat) (hx : x.toInt = (c : Int)) (hc : c < 60) : fX10_aheadOf x l g = some (sI (eAf g l (eC g c 5)) (eN g)) := by
  have hn := H.n
  unfold fX10_aheadOf fX10_aheadOf_b0
  refine qa_lop0 (fun j => (x, l, sI (eAf g l (eC g c 5)) j, nI j)) (eN g) (by omega) (fun j hj k => ?_) (fun k => ?_)
  · show fX10_aheadOf_b5 k x l (sI (eAf g l (eC g c 5)) j) (nI j) g = k (x, l, sI (eAf g l (eC g c 5)) j + eAf g l (eC g c 5) j, nI (j + 1))
    have hI := qa_nI (n := j) (by omega)
    unfold fX10_aheadOf_b5 fX10_aheadOf_b43 fX10_aheadOf_b44 fX10_aheadOf_b72 fX10_aheadOf_b73
    rw [if_neg (rb_in H hj), rb_ofCar j 2 hI (by omega) qa_2 (by decide), qa_b, nI_1, if_pos (rfl : (0 : Int32) = 0), if_neg n10]
    unfold eAf
    by_cases e : eC g j 2 = 2
    · rw [if_pos e, rb_ofCar j 3 hI (by omega) qa_3 (by decide), qa_b]
      by_cases e3 : eC g j 3 = l
      · rw [if_pos e3, rb_ofCar j 5 hI (by omega) qa_5 (by decide), qa_b, rb_ofCar c 5 hx hc qa_5 (by decide), qa_b]
        by_cases e5 : eC g j 5 < eC g c 5
        · rw [if_neg (Int32.not_le.mpr e5), if_pos ⟨⟨e, e3⟩, e5⟩]
        · rw [if_pos (Int32.not_lt.mp e5), if_neg (fun h => e5 h.2)]
      · rw [if_neg e3, if_neg (fun h => e3 h.1.2)]
    · rw [if_neg e, if_neg (fun h => e h.1.1)]
  · show fX10_aheadOf_b5 k x l _ (nI (eN g)) g = _
    unfold fX10_aheadOf_b5
    rw [if_pos (rb_out H)]
theorem rb_begun {g : Nat → Int32} (H : eH g) : fX10_begun g = some (sI (eBf g) (eN g)) := by
  have hn := H.n
  unfold fX10_begun fX10_begun_b0
  refine qa_lop0 (fun j => (sI (eBf g) j, nI j)) (eN g) (by omega) (fun j hj k => ?_) (fun k => ?_)
  · show fX10_begun_b4 k (sI (eBf g) j) (nI j) g = k (sI (eBf g) j + eBf g j, nI (j + 1))
    have hI := qa_nI (n := j) (by omega)
    unfold fX10_begun_b4 fX10_begun_b31
    rw [if_neg (rb_in H hj), rb_ofCar j 5 hI (by omega) qa_5 (by decide), qa_b, nI_1]
    unfold eBf
    by_cases e : eC g j 5 = (-1)
    · rw [if_pos e, if_pos e]
    · rw [if_neg e, if_neg e]
  · show fX10_begun_b4 k (sI (eBf g) (eN g)) (nI (eN g)) g = _
    unfold fX10_begun_b4
    rw [if_pos (rb_out H)]
theorem rb_listNow {g : Nat → Int32} (H : eH g) : fX10_listNow g = some (eW g 0 - eW g 2) := by
  unfold fX10_listNow fX10_listNow_b0
  rw [rb_weightOf H, qa_b, rb_weightOf H, qa_b]
theorem rb_tideAt {g : Nat → Int32} (S : eS g) (t : Int32) : fX10_tideAt t g = some (eT g t) := by
  have h := S.1
  have h1 : ¬ g 17 = 0 := by
    simp only [qa_ar, Int32.reduceToInt]
    omega
  have h2 : ¬ 2 * g 17 = 0 := by
    simp only [qa_ar, Int32.reduceToInt]
    omega
  unfold fX10_tideAt fX10_tideAt_b0 fX10_tideAt_b28
  rw [qa_gn h2, qa_gn h1, qa_gn h1]
  unfold eT eTr eTp
  split <;> rfl
theorem rb_deckAt {g : Nat → Int32} (S : eS g) (H : eH g) (t : Int32) : fX10_deckAt t g = some (eV g t) := by
  have h := S.1
  have h1 : ¬ g 20 = 0 := by
    simp only [qa_ar, Int32.reduceToInt]
    omega
  unfold fX10_deckAt fX10_deckAt_b0
  rw [rb_tideAt S, qa_b, rb_wod H, qa_b, qa_gn h1]
  rfl
theorem rb_lipNow {g : Nat → Int32} (S : eS g) (H : eH g) : fX10_lipNow g = some (eI g) := by
  unfold fX10_lipNow fX10_lipNow_b0
  rw [rb_deckAt S H, qa_b]
  rfl
theorem rb_slopeNow {g : Nat → Int32} : fX10_slopeNow g = some (eP g) := rfl
theorem rb_hasFree {g : Nat → Int32} (H : eH g) (l : Int32) {x : Int32} (c : Nat) (hx : x.toInt = (c : Int)) (hc : c < eN g) : fX10_hasFree l x g = some (if eO g c 2 ≤ g 21 - eL g l then 1 else 0) := by
  unfold fX10_hasFree fX10_hasFree_b0
  rw [rb_freeOf H, qa_b, rb_kindOf H c 2 hx hc qa_2 (by decide), qa_b]
  by_cases e : g 21 - eL g l < eO g c 2
  · rw [if_pos e, if_neg (Int32.not_le.mpr e)]
  · rw [if_neg e, if_pos (Int32.not_lt.mp e)]
theorem rb_suits {g : Nat → Int32} (H : eH g) (l : Int32) {x : Int32} (c : Nat) (hx : x.toInt = (c : Int)) (hc : c < eN g) : fX10_suits l x g = some (if eSu g (eO g c 2) (eC g c 1) l then 1 else 0) := by
  have hn := H.n
  have h : ∀ s, fX10_suits_b30 l x (eW g 0 - eW g 2) s g = some (if eO g c 2 ≤ g 21 - eL g l ∧ ab ((eW g 0 - eW g 2) + s) ≤ g 23 then 1 else 0) := by
    intro s
    unfold fX10_suits_b30
    rw [rb_hasFree H l c hx hc, qa_b]
    by_cases e : eO g c 2 ≤ g 21 - eL g l
    · rw [if_pos e, if_neg (by decide)]
      by_cases e2 : g 23 < ab ((eW g 0 - eW g 2) + s)
      · have nA : ¬ (eO g c 2 ≤ g 21 - eL g l ∧ ab ((eW g 0 - eW g 2) + s) ≤ g 23) := fun h => absurd (Int32.lt_of_lt_of_le e2 h.2) Int32.lt_irrefl
        rw [if_neg nA]
        exact if_pos e2
      · have yA : eO g c 2 ≤ g 21 - eL g l ∧ ab ((eW g 0 - eW g 2) + s) ≤ g 23 := ⟨e, Int32.not_lt.mp e2⟩
        rw [if_pos yA]
        exact if_neg e2
    · rw [if_neg e, if_pos rfl, if_neg (fun h => e h.1)]
  unfold fX10_suits fX10_suits_b0
  rw [rb_ofCar c 1 hx (by omega) qa_1 (by decide), qa_b, rb_listNow H, qa_b, h, h, h]
  unfold eSu
  by_cases e0 : l = 0
  · rw [if_pos e0, if_pos e0]
  · rw [if_neg e0, if_neg e0]
    by_cases e2 : l = 2
    · rw [if_pos e2, if_pos e2]
    · rw [if_neg e2, if_neg e2]
theorem rb_laneOf {g : Nat → Int32} (H : eH g) {x : Int32} (c : Nat) (hx : x.toInt = (c : Int)) (hc : c < eN g) : fX10_laneOf x g = some (eLn g (eO g c 2) (eC g c 1) 3) := by
  unfold fX10_laneOf fX10_laneOf_b0
  refine qa_lop0 (fun j => (x, eLn g (eO g c 2) (eC g c 1) j, nI j)) 3 (by omega) (fun j hj k => ?_) (fun k => ?_)
  · show fX10_laneOf_b4 k x (eLn g (eO g c 2) (eC g c 1) j) (nI j) g = k (x, eSt g (eO g c 2) (eC g c 1) (eLn g (eO g c 2) (eC g c 1) j) (nI j), nI (j + 1))
    generalize eLn g (eO g c 2) (eC g c 1) j = b
    have hI := qa_nI (n := j) (by omega)
    have h3 : ¬ 3 ≤ nI j := by
      rw [qa_le, qa_3, hI]
      omega
    unfold fX10_laneOf_b4 fX10_laneOf_b36 fX10_laneOf_b41 fX10_laneOf_b42
    rw [if_neg h3, rb_suits H (nI j) c hx hc, qa_b, nI_1, rb_weightOf H, qa_b, rb_weightOf H, qa_b]
    unfold eSt
    by_cases e : eSu g (eO g c 2) (eC g c 1) (nI j)
    · rw [if_pos e, if_pos e, if_neg (by decide)]
      by_cases e1 : b = (-1)
      · rw [if_pos e1, if_pos e1]
      · rw [if_neg e1, if_neg e1]
        split <;> rfl
    · rw [if_neg e, if_neg e, if_pos rfl]
  · show fX10_laneOf_b4 k x (eLn g (eO g c 2) (eC g c 1) 3) (nI 3) g = _
    unfold fX10_laneOf_b4
    exact if_pos (by decide)
abbrev eFs (g : Nat → Int32) (len : Int32) : Prop := len ≤ g 21 - eL g 0 ∨ len ≤ g 21 - eL g 1 ∨ len ≤ g 21 - eL g 2
/-- why a car can't begin -/
def eY (g : Nat → Int32) (c : Nat) : Int32 :=
  if g 12 = 0 then 1 else if g 4 = (-1) then (if eFs g (eO g c 2) then (if eLd g + eC g c 1 ≤ g 22 then (if eLn g (eO g c 2) (eC g c 1) 3 = (-1) then 5 else (if eP g ≤ eO g c 0 then (if eI g ≤ eO g c 1 then 0 else 7) else 6)) else 4) else 3) else 2
theorem rb_whyNot {g : Nat → Int32} (S : eS g) (H : eH g) {x : Int32} (c : Nat) (hx : x.toInt = (c : Int)) (hc : c < eN g) : fX10_whyNotNow x g = some (eY g c) := by
  have hn := H.n
  have h : fX10_whyNotNow_b53 x g = some (if eLd g + eC g c 1 ≤ g 22 then (if eLn g (eO g c 2) (eC g c 1) 3 = (-1) then 5 else (if eP g ≤ eO g c 0 then (if eI g ≤ eO g c 1 then 0 else 7) else 6)) else 4) := by
    unfold fX10_whyNotNow_b53
    rw [rb_wod H, qa_b, rb_ofCar c 1 hx (by omega) qa_1 (by decide), qa_b, rb_laneOf H c hx hc, qa_b, rb_slopeNow, qa_b, rb_kindOf H c 0 hx hc qa_0 (by decide), qa_b, rb_lipNow S H, qa_b, rb_kindOf H c 1 hx hc qa_1 (by decide), qa_b]
    repeat (split <;> try rfl)
  unfold fX10_whyNotNow fX10_whyNotNow_b0 eY
  rw [h, rb_hasFree H 0 c hx hc, qa_b, rb_hasFree H 1 c hx hc, qa_b, rb_hasFree H 2 c hx hc, qa_b]
  by_cases e12 : g 12 = 0
  · rw [if_pos e12, if_pos e12]
  · rw [if_neg e12, if_neg e12]
    by_cases e4 : g 4 = (-1)
    · rw [if_pos e4, if_pos e4]
      unfold eFs
      by_cases f0 : eO g c 2 ≤ g 21 - eL g 0
      · rw [if_pos f0, if_neg (by decide), if_pos (Or.inl f0)]
      · rw [if_neg f0, if_pos rfl]
        by_cases f1 : eO g c 2 ≤ g 21 - eL g 1
        · rw [if_pos f1, if_neg (by decide), if_pos (Or.inr (Or.inl f1))]
        · rw [if_neg f1, if_pos rfl]
          by_cases f2 : eO g c 2 ≤ g 21 - eL g 2
          · rw [if_pos f2, if_neg (by decide), if_pos (Or.inr (Or.inr f2))]
          · rw [if_neg f2, if_pos rfl, if_neg (fun h => h.elim f0 (fun h => h.elim f1 f2))]
    · rw [if_neg e4, if_neg e4]
theorem rb_placeOf {g : Nat → Int32} {x : Int32} {p : Nat} (hp : p < 20) (e : g (41 + p) = x) (hd : ∀ i, i < p → ¬ g (41 + i) = x) : fX10_placeOf x g = some (nI p) := by
  unfold fX10_placeOf fX10_placeOf_b0
  have h1 : ∀ j, j ≤ p → (41 + nI j).toInt = ((41 + j : Nat) : Int) := by
    intro j hj
    have hI := qa_nI (n := j) (by omega)
    simp only [qa_ar, hI, Int32.reduceToInt]
    omega
  refine qa_lop0 (fun j => (x, nI j)) p (by omega) (fun j hj k => ?_) (fun k => ?_)
  · show fX10_placeOf_b2 k x (nI j) g = k (x, nI (j + 1))
    unfold fX10_placeOf_b2
    have h2 := h1 j (by omega)
    rw [qa_gi (by omega) (by omega), qa_ix h2, if_neg (hd j hj), nI_1]
  · show fX10_placeOf_b2 k x (nI p) g = _
    unfold fX10_placeOf_b2
    have h2 := h1 p (by omega)
    rw [qa_gi (by omega) (by omega), qa_ix h2, if_pos e]
