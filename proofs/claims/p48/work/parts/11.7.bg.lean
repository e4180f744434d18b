/-! the queue's loops; a car begins to drive -/
def shQ (f : Nat → Int32) (p n : Nat) : Nat → Int32 := fun i => if p ≤ i ∧ i < n then f (i + 1) else f i
theorem shQ_0 (f : Nat → Int32) (p : Nat) : shQ f p p = f := by
  funext i
  unfold shQ
  rw [if_neg (by omega)]
theorem shQ_s (f : Nat → Int32) {p n : Nat} (h : p ≤ n) : upd (shQ f p n) n (shQ f p n (n + 1)) = shQ f p (n + 1) := by
  funext i
  unfold upd shQ
  by_cases e : i = n
  · rw [if_pos e, if_neg (by omega), if_pos (by omega), e]
  · rw [if_neg e]
    by_cases e2 : p ≤ i ∧ i < n
    · rw [if_pos e2, if_pos (by omega)]
    · rw [if_neg e2, if_neg (by omega)]
theorem wQ_QA (u : KS) (f : Nat → Int32) (i : Nat) (x : Int32) : wQ (wQA u f) i x = wQA u (upd f i x) := rfl
theorem wQA_id (u : KS) : wQA u (sQ u) = u := rfl
theorem sb_take {u : KS} {p q : Nat} (hq : q ≤ 20) (hp : p < q) (c1 : sC u 1 = nI q) : fX8_takeFromQueue (nI p) u = some (wC (wQA u (shQ (sQ u) p (q - 1))) 1 (nI (q - 1))) := by
  have hpI := qa_nI (n := p) (by omega)
  have hqI := qa_nI (n := q - 1) (by omega)
  have e1 : nI q - 1 = nI (q - 1) := by
    rw [show q = q - 1 + 1 by omega, nI_pred]
    rfl
  unfold fX8_takeFromQueue fX8_takeFromQueue_b0
  rw [c1, e1, if_neg (by rw [qa_lt, qa_0]; omega), if_neg (by rw [qa_lt]; omega), if_pos (by rw [qa_lt, hqI]; simp only [Int32.reduceToInt]; omega)]
  have h0 : (nI (q - 1), nI p, u) = (nI (q - 1), nI (p + 0), wQA u (shQ (sQ u) p (p + 0))) := by
    rw [Nat.add_zero, shQ_0, wQA_id]
  rw [h0]
  refine qa_lop0 (fun j => (nI (q - 1), nI (p + j), wQA u (shQ (sQ u) p (p + j)))) (q - 1 - p) (by omega) (fun j hj k => ?_) (fun k => ?_)
  · show fX8_takeFromQueue_b27 k (nI (q - 1)) (nI (p + j)) (wQA u (shQ (sQ u) p (p + j))) = k (nI (q - 1), nI (p + j + 1), wQA u (shQ (sQ u) p (p + j + 1)))
    have hI := qa_nI (n := p + j) (by omega)
    have hI1 := qa_nI (n := p + j + 1) (by omega)
    unfold fX8_takeFromQueue_b27
    rw [if_neg (by rw [qa_le]; omega), nI_1, qa_gi (by omega) (by omega), qa_gi (by omega) (by omega), qa_ix hI, qa_ix hI1, wQ_QA]
    show k (_, _, wQA u (upd (shQ (sQ u) p (p + j)) (p + j) (shQ (sQ u) p (p + j) (p + j + 1)))) = _
    rw [shQ_s _ (by omega)]
  · show fX8_takeFromQueue_b27 k (nI (q - 1)) (nI (p + (q - 1 - p))) (wQA u (shQ (sQ u) p (p + (q - 1 - p)))) = _
    rw [show p + (q - 1 - p) = q - 1 by omega]
    unfold fX8_takeFromQueue_b27
    rw [if_pos Int32.le_rfl]
/-- the row behind a car's leaving the queue -/
def lvG (g : Nat → Int32) (p q : Nat) : Nat → Int32 := upd (shQ (upd g 14 (nI (q - 1))) (41 + p) (41 + (q - 1))) (41 + (q - 1)) 0
theorem rb_leave {g : Nat → Int32} {x : Int32} {p q : Nat} (hq : q ≤ 20) (hp : p < q) (c1 : g 14 = nI q) (e : g (41 + p) = x) (hd : ∀ i, i < p → ¬ g (41 + i) = x) : fX10_leaveQueue x g = some (lvG g p q) := by
  have hqI := qa_nI (n := q - 1) (by omega)
  have e1 : nI q - 1 = nI (q - 1) := by
    rw [show q = q - 1 + 1 by omega, nI_pred]
    rfl
  have i41 : ∀ j, j < 30 → (41 + nI j).toInt = ((41 + j : Nat) : Int) := fun j hj => qx_41 (by omega)
  have i42 : ∀ j, j < 30 → ((41 + nI j) + 1).toInt = ((41 + j + 1 : Nat) : Int) := fun j hj => qx_42 (by omega)
  unfold fX10_leaveQueue fX10_leaveQueue_b0
  rw [c1, e1, rb_placeOf (p := p) (by omega) (by rw [pk_un (by omega)]; exact e) (fun i hi => by rw [pk_un (by omega)]; exact hd i hi), qa_b]
  have h0 : (nI p, upd g 14 (nI (q - 1))) = (nI (p + 0), shQ (upd g 14 (nI (q - 1))) (41 + p) (41 + (p + 0))) := by
    rw [Nat.add_zero, shQ_0]
  rw [h0]
  refine qa_lop0 (fun j => (nI (p + j), shQ (upd g 14 (nI (q - 1))) (41 + p) (41 + (p + j)))) (q - 1 - p) (by omega) (fun j hj k => ?_) (fun k => ?_)
  · show fX10_leaveQueue_b17 k (nI (p + j)) (shQ (upd g 14 (nI (q - 1))) (41 + p) (41 + (p + j))) = k (nI (p + j + 1), shQ (upd g 14 (nI (q - 1))) (41 + p) (41 + (p + j) + 1))
    have hI := qa_nI (n := p + j) (by omega)
    have h14 : shQ (upd g 14 (nI (q - 1))) (41 + p) (41 + (p + j)) 14 = nI (q - 1) := by
      unfold shQ
      rw [if_neg (by omega), pk_us]
    have a1 := i41 (p + j) (by omega)
    have a2 := i42 (p + j) (by omega)
    unfold fX10_leaveQueue_b17
    rw [h14, if_neg (by rw [qa_le]; omega), qa_gi (by omega) (by omega), qa_gi (by omega) (by omega), qa_ix a1, qa_ix a2, nI_1, shQ_s _ (by omega)]
  · show fX10_leaveQueue_b17 k (nI (p + (q - 1 - p))) (shQ (upd g 14 (nI (q - 1))) (41 + p) (41 + (p + (q - 1 - p)))) = _
    rw [show p + (q - 1 - p) = q - 1 by omega]
    have h14 : shQ (upd g 14 (nI (q - 1))) (41 + p) (41 + (q - 1)) 14 = nI (q - 1) := by
      unfold shQ
      rw [if_neg (by omega), pk_us]
    have a1 := i41 (q - 1) (by omega)
    unfold fX10_leaveQueue_b17
    rw [h14, if_pos Int32.le_rfl, qa_gi (by omega) (by omega), qa_ix a1]
    rfl
theorem lvG_oth (g : Nat → Int32) {p q i : Nat} (h : i < 41 ∨ 61 ≤ i) (h14 : i ≠ 14) (hq : q ≤ 20) (hp : p < q) : lvG g p q i = g i := by
  unfold lvG
  rw [pk_un (by omega)]
  unfold shQ
  rw [if_neg (by omega), pk_un h14]
theorem lvG_14 (g : Nat → Int32) {p q : Nat} (hq : q ≤ 20) (hp : p < q) : lvG g p q 14 = nI (q - 1) := by
  unfold lvG
  rw [pk_un (by omega)]
  unfold shQ
  rw [if_neg (by omega), pk_us]
theorem lvG_q (g : Nat → Int32) {p q i : Nat} (hi : i < q - 1) : lvG g p q (41 + i) = g (41 + (if i < p then i else i + 1)) := by
  unfold lvG
  rw [pk_un (by omega)]
  unfold shQ
  by_cases e : i < p
  · rw [if_neg (by omega), pk_un (by omega), if_pos e]
  · rw [if_pos (by omega), pk_un (by omega), if_neg e]
    rfl
theorem eLn_suits {g : Nat → Int32} {len w : Int32} : ∀ j, j ≤ 3 → ¬ eLn g len w j = (-1) → eSu g len w (eLn g len w j) := by
  intro j
  induction j with
  | zero => exact fun _ h => absurd rfl h
  | succ j ih =>
    intro hj h
    have h : ¬ eSt g len w (eLn g len w j) (nI j) = (-1) := h
    show eSu g len w (eSt g len w (eLn g len w j) (nI j))
    unfold eSt at h ⊢
    by_cases e : eSu g len w (nI j)
    · rw [if_pos e] at h ⊢
      by_cases e1 : eLn g len w j = (-1)
      · rw [if_pos e1]
        exact e
      · rw [if_neg e1]
        split
        · exact ih (by omega) e1
        · exact e
    · rw [if_neg e] at h ⊢
      exact ih (by omega) h
/-- cars began in the past -/
def eU (g : Nat → Int32) : Prop := ∀ c, c < eN g → (eC g c 5).toInt < (g 0).toInt
/-- the row behind a car's beginning -/
def bgG (g : Nat → Int32) (p q c : Nat) (l : Int32) : Nat → Int32 := upd (upd (upd (upd (upd (upd (lvG g p q) (61 + 7 * c + 2) 1) (61 + 7 * c + 3) l) (61 + 7 * c + 5) (g 0)) 4 (nI c)) 5 0) 7 0
def bgU (u : KS) (p q c l : Nat) (w len t : Int32) : KS := wC (wC (wN (wW (wA (wA (wA (wC (wQA u (shQ (sQ u) p (q - 1))) 1 (nI (q - 1))) (7 * c + 2) 1) (7 * c + 3) (nI l)) (7 * c + 5) t) l (sW u l + w)) l (sN u l + len)) 8 (nI c)) 11 0
