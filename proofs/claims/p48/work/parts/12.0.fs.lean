/-! p48, pure: ticks over the ghost row; a FerryRamp's calls in plain words -/
/-- one tick, and n of them, of the ghost row -/
def tkG (g : Nat → Int32) : Nat → Int32 := (fX10_tickOnce g).getD g
def itG : Nat → (Nat → Int32) → (Nat → Int32)
  | 0, g => g
  | n + 1, g => itG n (tkG g)
theorem itG_s (n : Nat) : ∀ g, itG (n + 1) g = tkG (itG n g) := by
  induction n with
  | zero => intro g; rfl
  | succ n ih => intro g; exact ih (tkG g)
theorem itG_add (a b : Nat) : ∀ g, itG (a + b) g = itG b (itG a g) := by
  induction a with
  | zero => intro g; rw [Nat.zero_add]; rfl
  | succ a ih => intro g; rw [Nat.succ_add]; exact ih (tkG g)
theorem tk_some {u : KS} {g : Nat → Int32} {B : Int} (R : eRel u g) (I : eInv B g) (hB : B + 2 ≤ 100000000) : fX10_tickOnce g = some (tkG g) := by
  obtain ⟨u1, u2, u3, u', g', a1, a2, a3, a4, a5, a6, a7, -⟩ := tk_sim R I hB
  unfold tkG
  rw [a5]
  rfl
theorem tk_one {u : KS} {g : Nat → Int32} {B : Int} (R : eRel u g) (I : eInv B g) (hB : B + 2 ≤ 100000000) : ∃ u1 u2 u3 u', fX8_measureAll (wC u 0 (sC u 0 + 1)) = some u1 ∧ fX8_runWinch u1 = some u2 ∧ fX8_runCarOnRamp u2 = some u3 ∧ fX8_runQueue u3 = some u' ∧ eRel u' (tkG g) ∧ eInv (B + 2) (tkG g) := by
  obtain ⟨u1, u2, u3, u', g', a1, a2, a3, a4, a5, a6, a7, -⟩ := tk_sim R I hB
  have e : tkG g = g' := by unfold tkG; rw [a5]; rfl
  rw [e]
  exact ⟨u1, u2, u3, u', a1, a2, a3, a4, a6, a7⟩
theorem eInv.z {g : Nat → Int32} {B : Int} (I : eInv B g) : eInv (B + 2 * ((0 : Nat) : Int)) (itG 0 g) := by
  have e : B + 2 * ((0 : Nat) : Int) = B := by omega
  rw [e]
  exact I
theorem ps_lp {g : Nat → Int32} {B : Int} {n : Nat} {x b : Int32} (hx : x.toInt = (n : Int)) (hn : n ≤ 200) (hB : B + 2 * n ≤ 100000000) : ∀ (k j : Nat) (v : KS) (m : Nat), j + k = n → k < m → eRel v (itG j g) → eInv (B + 2 * j) (itG j g) →
    ∃ u', lop (fun y (z : Int32 × Int32 × Int32 × KS) => fX8_passTicks_b10 y z.1 z.2.1 z.2.2.1 z.2.2.2) m (x, b, nI j, v) = some (itG n g 9 - b, u') ∧ eRel u' (itG n g) ∧ eInv (B + 2 * n) (itG n g) := by
  intro k
  induction k with
  | zero =>
    intro j v m hj hm R I
    obtain ⟨m, rfl⟩ : ∃ q, m = q + 1 := ⟨m - 1, by omega⟩
    have hjn : j = n := by omega
    subst hjn
    refine ⟨v, ?_, R, I⟩
    show fX8_passTicks_b10 _ x b (nI j) v = _
    unfold fX8_passTicks_b10
    rw [if_pos (by rw [qa_le, hx, qa_nI (by omega)]; omega), show sC v 13 = itG j g 9 from R.1.1.2.2.2.2.2.2.2.2.2.2.2.1]
  | succ k ih =>
    intro j v m hj hm R I
    obtain ⟨m, rfl⟩ : ∃ q, m = q + 1 := ⟨m - 1, by omega⟩
    obtain ⟨u1, u2, u3, u', a1, a2, a3, a4, a6, a7⟩ := tk_one R I (by omega)
    rw [← itG_s] at a6 a7
    have a8 : eInv (B + 2 * ((j + 1 : Nat) : Int)) (itG (j + 1) g) := by
      have e2 : B + 2 * ((j + 1 : Nat) : Int) = B + 2 * (j : Int) + 2 := by omega
      rw [e2]
      exact a7
    obtain ⟨w, e, Rw, Iw⟩ := ih (j + 1) u' m (by omega) (by omega) a6 a8
    refine ⟨w, ?_, Rw, Iw⟩
    rw [← e]
    show fX8_passTicks_b10 _ x b (nI j) v = _
    unfold fX8_passTicks_b10
    rw [if_neg (by rw [qa_le, hx, qa_nI (by omega)]; omega), a1, qa_b, a2, qa_b, a3, qa_b, a4, qa_b, nI_1]
theorem ps_G {u : KS} {g : Nat → Int32} {B : Int} (R : eRel u g) (I : eInv B g) {n : Nat} (hn : n ≤ 200) (hB : B + 2 * n ≤ 100000000) {x : Int32} (hx : x.toInt = (n : Int)) :
    ∃ u', fX8_passTicks x u = some (itG n g 9 - g 9, u') ∧ eRel u' (itG n g) ∧ eInv (B + 2 * n) (itG n g) := by
  have c13 : sC u 13 = g 9 := R.1.1.2.2.2.2.2.2.2.2.2.2.2.1
  obtain ⟨u', e, R', I'⟩ := ps_lp (g := g) (B := B) (b := g 9) hx hn hB n 0 u LF (by omega) (by show n < 5000; omega) R I.z
  refine ⟨u', ?_, R', I'⟩
  unfold fX8_passTicks fX8_passTicks_b0
  rw [c13]
  exact e
/-- the history's two numbers are in order; the text's length is -/
def hOk (F : FS) : Prop := ∃ x k : Nat, x < 8 ∧ k ≤ 8 ∧ fX F = nI x ∧ fY F = nI k
def pOk (F : FS) : Prop := ∃ n : Nat, n ≤ 500 ∧ pLe (fP F) = nI n
/-- the ramp F has the state g -/
def FG (B : Int) (F : FS) (g : Nat → Int32) : Prop := eRel (fN F) g ∧ eInv B g ∧ hOk F ∧ pOk F
theorem gh_H (F : FS) (h : HT) (v : Int32) : fH (gO (gH F h) 0 v) = h := by
  obtain ⟨a1, a2, a3, a4, a5, a6, a7, a8, a9, a10, a11⟩ := h
  rfl
theorem gh_A (F : FS) (h : HT) (v : Int32) : fA (gO (gH F h) 0 v) = fA F ∧ fB (gO (gH F h) 0 v) = fB F ∧ fI (gO (gH F h) 0 v) = fI F ∧ fP (gO (gH F h) 0 v) = fP F := ⟨rfl, rfl, rfl, rfl⟩
theorem gh_X {F : FS} {h : HT} (e : fH F = h) : fX F = hX h ∧ fY F = hY h ∧ fN F = hV h := by
  subst e
  exact ⟨rfl, rfl, rfl⟩
/-- an act is done: the history has one more, the state ahead of it is the latest -/
theorem ac_G {F : FS} {g : Nat → Int32} {B : Int} (h : FG B F g) : ∃ F', fX9_accept F = some F' ∧ fN F' = fN F ∧ fA F' = fA F ∧ fB F' = fB F ∧ fI F' = fI F ∧ fP F' = fP F ∧
    (∃ x k : Nat, x < 8 ∧ k + 1 ≤ 8 ∧ fX F' = nI x ∧ fY F' = nI (k + 1) ∧ eRel (hQ (fH F') ((x + 7) % 8)) g) := by
  obtain ⟨R, I, ⟨x, k, hx, hk, ex, ey⟩, -⟩ := h
  obtain ⟨w, ew, cw⟩ := sb_copy (hQ (fH F) x) (fN F)
  have hr := hi_rem (h := fH F) hx ex hk ey ew
  obtain ⟨q1, q2, q3, q4, q5⟩ := hQ_iQ (fH F) hx w
  have hw : eRel w g := R.cp I.2.1 cw
  obtain ⟨h', eh'⟩ : ∃ h', h' = (if k = 8 then iX (iQ (fH F) x w) (nI ((x + 1) % 8)) else iY (iX (iQ (fH F) x w) (nI ((x + 1) % 8))) (nI (k + 1))) := ⟨_, rfl⟩
  rw [← eh'] at hr
  have h'X : hX h' = nI ((x + 1) % 8) := by
    rw [eh']
    split <;> rfl
  have h'Q : hQ h' x = w := by
    rw [eh']
    split
    · exact q1
    · exact q1
  have h'V : hV h' = fN F := by
    rw [eh']
    split
    · exact q5
    · exact q5
  have h'Y : hY h' = nI (if k = 8 then 8 else k + 1) := by
    rw [eh']
    split
    · rename_i e
      show hY (iQ (fH F) x w) = _
      rw [q4, show hY (fH F) = fY F from rfl, ey, e]
    · rfl
  obtain ⟨F', eF'⟩ : ∃ F', F' = gO (gH F h') 0 (fO (gH F h') 0 + 1) := ⟨_, rfl⟩
  have k0 : fX9_accept F = some F' := by
    unfold fX9_accept fX9_accept_b0
    rw [hr, qa_b, eF']
  have k1 : fH F' = h' := by
    rw [eF']
    exact gh_H F h' _
  obtain ⟨k2, k3, k4, k5⟩ := gh_A F h' (fO (gH F h') 0 + 1)
  rw [← eF'] at k2 k3 k4 k5
  obtain ⟨x1, x2, x3⟩ := gh_X k1
  refine ⟨F', k0, x3.trans h'V, k2, k3, k4, k5, ?_⟩
  · refine ⟨(x + 1) % 8, if k = 8 then 7 else k, by omega, by split <;> omega, x1.trans h'X, ?_, ?_⟩
    · rw [x2, h'Y]
      by_cases e : k = 8
      · rw [if_pos e, if_pos e]
      · rw [if_neg e, if_neg e]
    · rw [k1, show ((x + 1) % 8 + 7) % 8 = x by omega, h'Q]
      exact hw
/-- .. and can be taken back -/
theorem un_G {F : FS} {g : Nat → Int32} {x k : Nat} (hx : x < 8) (hk : k + 1 ≤ 8) (ex : fX F = nI x) (ey : fY F = nI (k + 1)) (hq : eRel (hQ (fH F) ((x + 7) % 8)) g) (G : eG g) :
    ∃ F', fX9_undo F = some (nI k, F') ∧ eRel (fN F') g ∧ hOk F' ∧ fP F' = fP F ∧ fA F' = fA F ∧ fB F' = fB F ∧ fI F' = fI F := by
  obtain ⟨w, ew, cw⟩ := sb_copy (hV (fH F)) (hQ (fH F) ((x + 7) % 8))
  have hr := hi_back (h := fH F) hx ex hk ey ew
  refine ⟨gH F (iY (iX (iV (fH F) w) (nI ((x + 7) % 8))) (nI k)), ?_, hq.cp G cw, ⟨(x + 7) % 8, k, by omega, by omega, rfl, rfl⟩, rfl, rfl, rfl, rfl⟩
  unfold fX9_undo fX9_undo_b0
  rw [hr]
  rfl
theorem un_0 {F : FS} (ey : fY F = 0) : fX9_undo F = some ((-1), gH F (fH F)) := by
  unfold fX9_undo fX9_undo_b0 fX4_takeBack fX4_takeBack_b0
  rw [show hY (fH F) = 0 from ey]
  rfl
/-- the trial copy has the same state -/
theorem tr_G {F : FS} {g : Nat → Int32} {B : Int} (h : FG B F g) : ∃ t, fX8_copyFrom (fT F) (fN F) = some t ∧ eRel t g := by
  obtain ⟨w, ew, cw⟩ := sb_copy (fT F) (fN F)
  exact ⟨w, ew, h.1.cp h.2.1.2.1 cw⟩
theorem FG.z {F : FS} {g : Nat → Int32} {B : Int} (h : FG B F g) : FG (B + 2 * ((0 : Nat) : Int)) F (itG 0 g) := by
  have e : B + 2 * ((0 : Nat) : Int) = B := by omega
  rw [e]
  exact h
theorem FG.T {F : FS} {g : Nat → Int32} {B : Int} (h : FG B F g) (t : KS) : FG B (gT F t) g := h
theorem FG.mono {F : FS} {g : Nat → Int32} {B B' : Int} (h : FG B F g) (h1 : B ≤ B') (h2 : B' ≤ 100000000) : FG B' F g := ⟨h.1, h.2.1.mono h1 h2, h.2.2⟩
theorem FG.N {F : FS} {g g' : Nat → Int32} {B B' : Int} (h : FG B F g) {u : KS} (R : eRel u g') (I : eInv B' g') : FG B' (gN F u) g' := ⟨R, I, h.2.2⟩
/-- boardIn -/
theorem bo_G {F : FS} {g : Nat → Int32} {B : Int} (h : FG B F g) {n : Nat} (h1 : 1 ≤ n) (hn : n ≤ 200) (hB : B + 400 ≤ 100000000) {x : Int32} (hx : x.toInt = (n : Int)) : ∃ t, hX9_boardIn x F = some (itG n g 9 - g 9, gT F t) := by
  obtain ⟨t, et, Rt⟩ := tr_G h
  obtain ⟨u', e, -, -⟩ := ps_G Rt h.2.1 hn (by omega) hx
  refine ⟨u', ?_⟩
  unfold hX9_boardIn hX9_boardIn_b0
  rw [if_neg (by rw [qa_lt, hx, qa_1]; omega), if_pos (by rw [qa_le, hx]; show (n : Int) ≤ 200; omega), et, qa_b, show fT (gT F t) = t from rfl, e]
  rfl
/-- tick -/
theorem tc_G {F : FS} {g : Nat → Int32} {B : Int} (h : FG B F g) {n : Nat} (h1 : 1 ≤ n) (hn : n ≤ 50) (hB : B + 400 ≤ 100000000) {x : Int32} (hx : x.toInt = (n : Int)) :
    ∃ F', hX9_tick x F = some (itG n g 9 - g 9, F') ∧ FG (B + 2 * n) F' (itG n g) ∧ fA F' = fA F ∧ fB F' = fB F ∧ fI F' = fI F := by
  obtain ⟨F1, e1, eN1, eA1, eB1, eI1, eP1, x1, k1, hx1, hk1, ex1, ey1, -⟩ := ac_G h
  obtain ⟨u', e, R', I'⟩ := ps_G h.1 h.2.1 (n := n) (by omega) (by omega) hx
  refine ⟨gN F1 u', ?_, ⟨R', I', ⟨x1, k1 + 1, hx1, hk1, ex1, ey1⟩, ?_⟩, eA1, eB1, eI1⟩
  · unfold hX9_tick hX9_tick_b0 fX9_doTick fX9_doTick_b0
    rw [if_neg (by rw [qa_lt, hx, qa_1]; omega), if_pos (by rw [qa_le, hx]; show (n : Int) ≤ 50; omega), e1, qa_b, eN1, e]
    rfl
  · obtain ⟨m, hm, em⟩ := h.2.2.2
    exact ⟨m, hm, by show pLe (fP F1) = _; rw [eP1]; exact em⟩
/-- startIn, wakesIn, easyIn: the first of the ticks in which it holds -/
def stP (g : Nat → Int32) (j : Nat) : Prop := ¬ itG (j + 1) g 4 = (-1) ∧ ¬ itG (j + 1) g 4 = itG j g 4
theorem si_lp {g : Nat → Int32} {B : Int} {F : FS} (hB : B + 400 ≤ 100000000) : ∀ (k j : Nat) (v : KS) (m : Nat), j + k = 200 → k < m → eRel v (itG j g) → eInv (B + 2 * j) (itG j g) → (∀ i, i < j → ¬ stP g i) →
    ∃ t r, lop (fun y (z : Int32 × FS) => fX9_startIn_b13 y z.1 z.2) m (nI (j + 1), gT F v) = some (r, gT F t) ∧ ((r = (-1) ∧ ∀ i, i < 200 → ¬ stP g i) ∨ ∃ i, i < 200 ∧ r = nI (i + 1) ∧ stP g i ∧ ∀ i', i' < i → ¬ stP g i') := by
  intro k
  induction k with
  | zero =>
    intro j v m hj hm R I hno
    obtain ⟨m, rfl⟩ : ∃ q, m = q + 1 := ⟨m - 1, by omega⟩
    refine ⟨v, (-1), ?_, Or.inl ⟨rfl, fun i hi => hno i (by omega)⟩⟩
    show fX9_startIn_b13 _ (nI (j + 1)) (gT F v) = _
    unfold fX9_startIn_b13
    rw [if_pos (by rw [qa_lt, qa_nI (by omega)]; show (200 : Int) < _; omega)]
  | succ k ih =>
    intro j v m hj hm R I hno
    obtain ⟨m, rfl⟩ : ∃ q, m = q + 1 := ⟨m - 1, by omega⟩
    obtain ⟨u', e, R', I'⟩ := ps_G R I (n := 1) (by omega) (by omega) qa_1
    rw [← itG_add j 1] at R' I' e
    have c8 : sC v 8 = itG j g 4 := R.1.1.2.2.2.2.2.2.1
    have c8' : sC u' 8 = itG (j + 1) g 4 := R'.1.1.2.2.2.2.2.2.1
    have hb : lop (fun y (z : Int32 × FS) => fX9_startIn_b13 y z.1 z.2) (m + 1) (nI (j + 1), gT F v) = (if itG (j + 1) g 4 = (-1) then lop (fun y (z : Int32 × FS) => fX9_startIn_b13 y z.1 z.2) m (nI (j + 1 + 1), gT F u') else if itG (j + 1) g 4 = itG j g 4 then lop (fun y (z : Int32 × FS) => fX9_startIn_b13 y z.1 z.2) m (nI (j + 1 + 1), gT F u') else some (nI (j + 1), gT F u')) := by
      show fX9_startIn_b13 _ (nI (j + 1)) (gT F v) = _
      unfold fX9_startIn_b13
      rw [if_neg (by rw [qa_lt, qa_nI (by omega)]; show ¬ (200 : Int) < _; omega), show fT (gT F v) = v from rfl, e]
      show (if sC u' 8 = (-1) then fX9_startIn_b63 _ (nI (j + 1)) (gT F u') else if sC u' 8 = sC v 8 then fX9_startIn_b63 _ (nI (j + 1)) (gT F u') else some (nI (j + 1), gT F u')) = _
      unfold fX9_startIn_b63
      rw [c8, c8', nI_1]
    have I2 : eInv (B + 2 * ((j + 1 : Nat) : Int)) (itG (j + 1) g) := by
      have : B + 2 * ((j + 1 : Nat) : Int) = B + 2 * (j : Int) + 2 * ((1 : Nat) : Int) := by omega
      rw [this]
      exact I'
    rw [hb]
    by_cases h1 : itG (j + 1) g 4 = (-1)
    · rw [if_pos h1]
      exact ih (j + 1) u' m (by omega) (by omega) R' I2 (fun i hi => by
        rcases Nat.lt_or_ge i j with q | q
        · exact hno i q
        · obtain rfl : i = j := by omega
          exact fun s => s.1 h1)
    · rw [if_neg h1]
      by_cases h2 : itG (j + 1) g 4 = itG j g 4
      · rw [if_pos h2]
        exact ih (j + 1) u' m (by omega) (by omega) R' I2 (fun i hi => by
          rcases Nat.lt_or_ge i j with q | q
          · exact hno i q
          · obtain rfl : i = j := by omega
            exact fun s => s.2 h2)
      · rw [if_neg h2]
        exact ⟨u', _, rfl, Or.inr ⟨j, by omega, rfl, ⟨h1, h2⟩, hno⟩⟩
theorem si_G {F : FS} {g : Nat → Int32} {B : Int} (h : FG B F g) (hB : B + 400 ≤ 100000000) : ∃ t r, fX9_startIn F = some (r, gT F t) ∧ ((r = (-1) ∧ ∀ i, i < 200 → ¬ stP g i) ∨ ∃ i, i < 200 ∧ r = nI (i + 1) ∧ stP g i ∧ ∀ i', i' < i → ¬ stP g i') := by
  obtain ⟨t, et, Rt⟩ := tr_G h
  obtain ⟨t', r, e, hr⟩ := si_lp (F := F) hB 200 0 t LF (by omega) (by show 200 < 5000; omega) Rt h.2.1.z (fun i hi => absurd hi (by omega))
  refine ⟨t', r, ?_, hr⟩
  unfold fX9_startIn fX9_startIn_b0
  rw [et]
  exact e
theorem wi_lp {g : Nat → Int32} {B : Int} {F : FS} (hB : B + 404 ≤ 100000000) : ∀ (k j : Nat) (v : KS) (m : Nat), j + k = 201 → k < m → eRel v (itG j g) → eInv (B + 2 * j) (itG j g) → (∀ i, i < j → itG i g 2 = 0) →
    ∃ t r, lop (fun y (z : Int32 × FS) => fX9_wakesIn_b13 y z.1 z.2) m (nI j, gT F v) = some (r, gT F t) ∧ ((r = (-1) ∧ ∀ i, i ≤ 200 → itG i g 2 = 0) ∨ ∃ i, i ≤ 200 ∧ r = nI i ∧ ¬ itG i g 2 = 0 ∧ ∀ i', i' < i → itG i' g 2 = 0) := by
  intro k
  induction k with
  | zero =>
    intro j v m hj hm R I hno
    obtain ⟨m, rfl⟩ : ∃ q, m = q + 1 := ⟨m - 1, by omega⟩
    refine ⟨v, (-1), ?_, Or.inl ⟨rfl, fun i hi => hno i (by omega)⟩⟩
    show fX9_wakesIn_b13 _ (nI j) (gT F v) = _
    unfold fX9_wakesIn_b13
    rw [if_pos (by rw [qa_lt, qa_nI (by omega)]; show (200 : Int) < _; omega)]
  | succ k ih =>
    intro j v m hj hm R I hno
    obtain ⟨m, rfl⟩ : ∃ q, m = q + 1 := ⟨m - 1, by omega⟩
    obtain ⟨u', e, R', I'⟩ := ps_G R I (n := 1) (by omega) (by omega) qa_1
    rw [← itG_add j 1] at R' I' e
    have c5 : sC v 5 = itG j g 2 := R.1.1.2.2.2.2.1
    have hb : lop (fun y (z : Int32 × FS) => fX9_wakesIn_b13 y z.1 z.2) (m + 1) (nI j, gT F v) = (if itG j g 2 = 0 then lop (fun y (z : Int32 × FS) => fX9_wakesIn_b13 y z.1 z.2) m (nI (j + 1), gT F u') else some (nI j, gT F v)) := by
      show fX9_wakesIn_b13 _ (nI j) (gT F v) = _
      unfold fX9_wakesIn_b13
      rw [if_neg (by rw [qa_lt, qa_nI (by omega)]; show ¬ (200 : Int) < _; omega), show fT (gT F v) = v from rfl, c5, e, nI_1]
      rfl
    have I2 : eInv (B + 2 * ((j + 1 : Nat) : Int)) (itG (j + 1) g) := by
      have : B + 2 * ((j + 1 : Nat) : Int) = B + 2 * (j : Int) + 2 * ((1 : Nat) : Int) := by omega
      rw [this]
      exact I'
    rw [hb]
    by_cases h1 : itG j g 2 = 0
    · rw [if_pos h1]
      exact ih (j + 1) u' m (by omega) (by omega) R' I2 (fun i hi => by
        rcases Nat.lt_or_ge i j with q | q
        · exact hno i q
        · obtain rfl : i = j := by omega
          exact h1)
    · rw [if_neg h1]
      exact ⟨v, _, rfl, Or.inr ⟨j, by omega, rfl, h1, hno⟩⟩
theorem wi_G {F : FS} {g : Nat → Int32} {B : Int} (h : FG B F g) (hB : B + 404 ≤ 100000000) : ∃ t r, fX9_wakesIn F = some (r, gT F t) ∧ ((r = (-1) ∧ ∀ i, i ≤ 200 → itG i g 2 = 0) ∨ ∃ i, i ≤ 200 ∧ r = nI i ∧ ¬ itG i g 2 = 0 ∧ ∀ i', i' < i → itG i' g 2 = 0) := by
  obtain ⟨t, et, Rt⟩ := tr_G h
  obtain ⟨t', r, e, hr⟩ := wi_lp (F := F) hB 201 0 t LF (by omega) (by show 201 < 5000; omega) Rt h.2.1.z (fun i hi => absurd hi (by omega))
  refine ⟨t', r, ?_, hr⟩
  unfold fX9_wakesIn fX9_wakesIn_b0
  rw [et]
  exact e
