/-! p48, pure: easyIn, bestFirst; acts; save and restore -/
def ezP (g : Nat → Int32) (d : Nat) : Prop := eP g ≤ eK g d 0 ∧ eI g ≤ eK g d 1
theorem ez_lp {g : Nat → Int32} {B : Int} {F : FS} {d : Nat} (hd : d < 4) {x : Int32} (hx : x.toInt = (d : Int)) (hB : B + 404 ≤ 100000000) : ∀ (k j : Nat) (v : KS) (m : Nat), j + k = 201 → k < m → eRel v (itG j g) → eInv (B + 2 * j) (itG j g) → (∀ i, i < j → ¬ ezP (itG i g) d) →
    ∃ t r, lop (fun y (z : Int32 × Int32 × FS) => hX9_easyIn_b32 y z.1 z.2.1 z.2.2) m (x, nI j, gT F v) = some (r, gT F t) ∧ ((r = (-1) ∧ ∀ i, i ≤ 200 → ¬ ezP (itG i g) d) ∨ ∃ i, i ≤ 200 ∧ r = nI i ∧ ezP (itG i g) d ∧ ∀ i', i' < i → ¬ ezP (itG i' g) d) := by
  intro k
  induction k with
  | zero =>
    intro j v m hj hm R I hno
    obtain ⟨m, rfl⟩ : ∃ q, m = q + 1 := ⟨m - 1, by omega⟩
    refine ⟨v, (-1), ?_, Or.inl ⟨rfl, fun i hi => hno i (by omega)⟩⟩
    show hX9_easyIn_b32 _ x (nI j) (gT F v) = _
    unfold hX9_easyIn_b32
    rw [if_pos (by rw [qa_lt, qa_nI (by omega)]; show (200 : Int) < _; omega)]
  | succ k ih =>
    intro j v m hj hm R I hno
    obtain ⟨m, rfl⟩ : ∃ q, m = q + 1 := ⟨m - 1, by omega⟩
    obtain ⟨u', e, R', I'⟩ := ps_G R I (n := 1) (by omega) (by omega) qa_1
    rw [← itG_add j 1] at R' I' e
    have k0 : fX8_kindFact x 0 v = some (eK (itG j g) d 0) := sb_kindFact R.1 d 0 hx hd qa_0 (by omega)
    have k1 : fX8_kindFact x 1 v = some (eK (itG j g) d 1) := sb_kindFact R.1 d 1 hx hd qa_1 (by omega)
    have cp : sp v = eP (itG j g) := R.2.2.2.2.1
    have ci : si v = eI (itG j g) := R.2.2.2.2.2
    have hb : lop (fun y (z : Int32 × Int32 × FS) => hX9_easyIn_b32 y z.1 z.2.1 z.2.2) (m + 1) (x, nI j, gT F v) = (if eK (itG j g) d 0 < eP (itG j g) then lop (fun y (z : Int32 × Int32 × FS) => hX9_easyIn_b32 y z.1 z.2.1 z.2.2) m (x, nI (j + 1), gT F u') else if eK (itG j g) d 1 < eI (itG j g) then lop (fun y (z : Int32 × Int32 × FS) => hX9_easyIn_b32 y z.1 z.2.1 z.2.2) m (x, nI (j + 1), gT F u') else some (nI j, gT F v)) := by
      show hX9_easyIn_b32 _ x (nI j) (gT F v) = _
      unfold hX9_easyIn_b32 hX9_easyIn_b79
      rw [if_neg (by rw [qa_lt, qa_nI (by omega)]; show ¬ (200 : Int) < _; omega), show fT (gT F v) = v from rfl, k0, qa_b, k1, qa_b, cp, ci, e, nI_1]
      rfl
    have I2 : eInv (B + 2 * ((j + 1 : Nat) : Int)) (itG (j + 1) g) := by
      have : B + 2 * ((j + 1 : Nat) : Int) = B + 2 * (j : Int) + 2 * ((1 : Nat) : Int) := by omega
      rw [this]
      exact I'
    have go : ¬ ezP (itG j g) d → ∀ i, i < j + 1 → ¬ ezP (itG i g) d := fun h i hi => by
      rcases Nat.lt_or_ge i j with q | q
      · exact hno i q
      · obtain rfl : i = j := by omega
        exact h
    rw [hb]
    by_cases h1 : eK (itG j g) d 0 < eP (itG j g)
    · rw [if_pos h1]
      exact ih (j + 1) u' m (by omega) (by omega) R' I2 (go (fun s => absurd s.1 (Int32.not_le.mpr h1)))
    · rw [if_neg h1]
      by_cases h2 : eK (itG j g) d 1 < eI (itG j g)
      · rw [if_pos h2]
        exact ih (j + 1) u' m (by omega) (by omega) R' I2 (go (fun s => absurd s.2 (Int32.not_le.mpr h2)))
      · rw [if_neg h2]
        exact ⟨v, _, rfl, Or.inr ⟨j, by omega, rfl, ⟨Int32.not_lt.mp h1, Int32.not_lt.mp h2⟩, hno⟩⟩
theorem ez_G {F : FS} {g : Nat → Int32} {B : Int} (h : FG B F g) (hB : B + 404 ≤ 100000000) {d : Nat} (hd : d < 4) {x : Int32} (hx : x.toInt = (d : Int)) : ∃ t r, hX9_easyIn x F = some (r, gT F t) ∧ ((r = (-1) ∧ ∀ i, i ≤ 200 → ¬ ezP (itG i g) d) ∨ ∃ i, i ≤ 200 ∧ r = nI i ∧ ezP (itG i g) d ∧ ∀ i', i' < i → ¬ ezP (itG i' g) d) := by
  obtain ⟨t, et, Rt⟩ := tr_G h
  obtain ⟨t', r, e, hr⟩ := ez_lp (F := F) hd hx hB 201 0 t LF (by omega) (by show 201 < 5000; omega) Rt h.2.1.z (fun i hi => absurd hi (by omega))
  refine ⟨t', r, ?_, hr⟩
  unfold hX9_easyIn hX9_easyIn_b0
  rw [if_neg (by rw [qa_lt, hx, qa_0]; omega), if_pos (by rw [qa_lt, hx, qa_4]; omega), et]
  exact e
/-- bestFirst -/
def bfV (g : Nat → Int32) (n p : Nat) : Int32 := itG n (rtQ g 41 p) 9 - rtQ g 41 p 9
def bfOk (g : Nat → Int32) (n j : Nat) (b m : Int32) : Prop := (j = 0 ∧ b = (-1) ∧ m = (-1)) ∨ ∃ p, p < j ∧ b = g (41 + p) ∧ m = bfV g n p ∧ ∀ i, i < j → bfV g n i ≤ m
theorem bf_lp {g : Nat → Int32} {B : Int} {F : FS} (h : FG B F g) {n : Nat} (hn : n ≤ 99) {x : Int32} (hx : x.toInt = (n : Int)) (hB : B + 400 ≤ 100000000) (hpos : ∀ p, p < eQ g → 0 ≤ (bfV g n p).toInt) : ∀ (k j : Nat) (t : KS) (b m : Int32) (f : Nat), j + k = eQ g → k < f → bfOk g n j b m →
    ∃ t' r m', lop (fun y (z : Int32 × Int32 × Int32 × Int32 × FS) => hX9_bestFirst_b28 y z.1 z.2.1 z.2.2.1 z.2.2.2.1 z.2.2.2.2) f (x, b, m, nI j, gT F t) = some (r, gT F t') ∧ bfOk g n (eQ g) r m' := by
  have q14 := h.2.1.2.1.q
  have c1 : sC (fN F) 1 = g 14 := h.1.1.1.2.1
  have cq : sC (fN F) 1 = nI (eQ g) := by
    rw [c1, qa_eq, q14.1, qa_nI (by omega)]
  intro k
  induction k with
  | zero =>
    intro j t b m f hj hf ho
    obtain ⟨f, rfl⟩ : ∃ q, f = q + 1 := ⟨f - 1, by omega⟩
    refine ⟨t, b, m, ?_, by rw [← hj]; exact ho⟩
    show hX9_bestFirst_b28 _ x b m (nI j) (gT F t) = _
    unfold hX9_bestFirst_b28
    rw [if_pos (by rw [show fN (gT F t) = fN F from rfl, cq, qa_le, qa_nI (by omega), qa_nI (by omega)]; omega)]
  | succ k ih =>
    intro j t b m f hj hf ho
    obtain ⟨f, rfl⟩ : ∃ q, f = q + 1 := ⟨f - 1, by omega⟩
    have hjq : j < eQ g := by omega
    obtain ⟨w, ew, cw⟩ := sb_copy t (fN F)
    have Rw : eRel w g := h.1.cp h.2.1.2.1 cw
    have w1 : sC w 1 = nI (eQ g) := by
      rw [show sC w 1 = g 14 from Rw.1.1.2.1, qa_eq, q14.1, qa_nI (by omega)]
    have fr := sb_front (u := w) q14.2 hjq w1
    obtain ⟨Rf, If, -⟩ := wv_rel Rw h.2.1 hjq
    obtain ⟨u', e, -, -⟩ := ps_G Rf If (n := n) (by omega) (by omega) hx
    have at9 : fX9_at (nI j) 20 (sQ (fN F)) = some (g (41 + j)) := by
      rw [sc_at j (qa_nI (by omega)) (by omega) (by omega), h.1.1.2.2.2.1 j hjq]
    have hb : lop (fun y (z : Int32 × Int32 × Int32 × Int32 × FS) => hX9_bestFirst_b28 y z.1 z.2.1 z.2.2.1 z.2.2.2.1 z.2.2.2.2) (f + 1) (x, b, m, nI j, gT F t) = (if bfV g n j ≤ m then lop (fun y (z : Int32 × Int32 × Int32 × Int32 × FS) => hX9_bestFirst_b28 y z.1 z.2.1 z.2.2.1 z.2.2.2.1 z.2.2.2.2) f (x, b, m, nI (j + 1), gT F u') else lop (fun y (z : Int32 × Int32 × Int32 × Int32 × FS) => hX9_bestFirst_b28 y z.1 z.2.1 z.2.2.1 z.2.2.2.1 z.2.2.2.2) f (x, g (41 + j), bfV g n j, nI (j + 1), gT F u')) := by
      show hX9_bestFirst_b28 _ x b m (nI j) (gT F t) = _
      unfold hX9_bestFirst_b28 hX9_bestFirst_b94
      rw [if_neg (by rw [show fN (gT F t) = fN F from rfl, cq, qa_le, qa_nI (by omega), qa_nI (by omega)]; omega), show fT (gT F t) = t from rfl, show fN (gT F t) = fN F from rfl, ew, qa_b, show fT (gT (gT F t) w) = w from rfl, fr, qa_b, show fT (gT (gT (gT F t) w) (wQA w (rtQ (sQ w) 0 j))) = wQA w (rtQ (sQ w) 0 j) from rfl, e]
      show (if bfV g n j ≤ m then lop _ f (x, b, m, nI j + 1, gT F u') else bnd (fX9_at (nI j) 20 (sQ (fN F))) (fun r87 => lop _ f (x, r87, bfV g n j, nI j + 1, gT F u'))) = _
      rw [at9, qa_b, nI_1]
    rw [hb]
    by_cases h1 : bfV g n j ≤ m
    · rw [if_pos h1]
      refine ih (j + 1) u' b m f (by omega) (by omega) ?_
      rcases ho with ⟨h0, -, hm⟩ | ⟨p, hp, hb', hm, hall⟩
      · exfalso
        have := hpos j hjq
        rw [hm, qa_le, qa_m1] at h1
        omega
      · refine Or.inr ⟨p, by omega, hb', hm, fun i hi => ?_⟩
        rcases Nat.lt_or_ge i j with q | q
        · exact hall i q
        · obtain rfl : i = j := by omega
          exact h1
    · rw [if_neg h1]
      refine ih (j + 1) u' (g (41 + j)) (bfV g n j) f (by omega) (by omega) (Or.inr ⟨j, by omega, rfl, rfl, fun i hi => ?_⟩)
      rcases Nat.lt_or_ge i j with q | q
      · rcases ho with ⟨h0, -⟩ | ⟨p, hp, hb', hm, hall⟩
        · omega
        · have := hall i q
          rw [qa_le] at this h1 ⊢
          omega
      · obtain rfl : i = j := by omega
        rw [qa_le]
        omega
theorem bf_G {F : FS} {g : Nat → Int32} {B : Int} (h : FG B F g) {n : Nat} (h1 : 1 ≤ n) (hn : n ≤ 99) {x : Int32} (hx : x.toInt = (n : Int)) (hB : B + 400 ≤ 100000000) (hpos : ∀ p, p < eQ g → 0 ≤ (bfV g n p).toInt) :
    ∃ t r m, hX9_bestFirst x F = some (r, gT F t) ∧ bfOk g n (eQ g) r m := by
  obtain ⟨t', r, m', e, ho⟩ := bf_lp h hn hx hB hpos (eQ g) 0 (fT F) (-1) (-1) LF (by omega) (by have := h.2.1.2.1.q.2; show eQ g < 5000; omega) (Or.inl ⟨rfl, rfl, rfl⟩)
  refine ⟨t', r, m', ?_, ho⟩
  unfold hX9_bestFirst hX9_bestFirst_b0
  rw [if_neg (by rw [qa_lt, hx, qa_1]; omega), if_pos (by rw [qa_le, hx]; show (n : Int) ≤ 99; omega)]
  exact e
/-- refusals leave the state -/
theorem rf_G (F : FS) {r : Nat} (h1 : 1 ≤ r) (h4 : r ≤ 4) : ∃ F', fX9_refuse (nI r) F = some (-nI r, F') ∧ fN F' = fN F ∧ fX F' = fX F ∧ fY F' = fY F ∧ fP F' = fP F ∧ fH F' = fH F := by
  have hr : (nI r).toInt = (r : Int) := qa_nI (by omega)
  refine ⟨gO F (ix (nI r)) (fO F (ix (nI r)) + 1), ?_, rfl, rfl, rfl, rfl, rfl⟩
  unfold fX9_refuse fX9_refuse_b0
  rw [if_neg (by rw [qa_lt, hr, qa_1]; omega), if_neg (by rw [qa_le, hr, qa_5]; omega)]
  have hin : inb (nI r) 5 = true := by
    unfold inb
    rw [hr]
    simp
    omega
  rw [hin]
  rfl
theorem FG.rf {F F' : FS} {g : Nat → Int32} {B : Int} (h : FG B F g) (e1 : fN F' = fN F) (e2 : fX F' = fX F) (e3 : fY F' = fY F) (e4 : fP F' = fP F) : FG B F' g := by
  unfold FG hOk pOk at h ⊢
  rw [e1, e2, e3, e4]
  exact h
/-- save and restore, slot 0 and slot 1 -/
theorem sv_G {F : FS} {g : Nat → Int32} {B : Int} (h : FG B F g) : ∃ F', hX9_save 0 F = some F' ∧ FG B F' g ∧ fN F' = fN F ∧ eRel (fA F') g ∧ fI F' 0 = 1 := by
  obtain ⟨w, ew, cw⟩ := sb_copy (fA F) (fN F)
  refine ⟨gI (gA F w) (ix 0) 1, ?_, h, rfl, h.1.cp h.2.1.2.1 cw, ?_⟩
  · unfold hX9_save hX9_save_b0
    rw [if_neg (by decide), if_pos (by decide), show inb 0 2 = true from by decide, if_pos rfl, ew]
    rfl
  · show upd (fI F) (ix 0) 1 0 = 1
    exact pk_us
theorem sv_G1 {F : FS} {g : Nat → Int32} {B : Int} (h : FG B F g) : ∃ F', hX9_save 1 F = some F' ∧ FG B F' g ∧ fN F' = fN F ∧ eRel (fB F') g ∧ fI F' 1 = 1 := by
  obtain ⟨w, ew, cw⟩ := sb_copy (fB F) (fN F)
  refine ⟨gI (gB F w) (ix 1) 1, ?_, h, rfl, h.1.cp h.2.1.2.1 cw, ?_⟩
  · unfold hX9_save hX9_save_b0
    rw [if_neg (by decide), if_pos (by decide), show inb 1 2 = true from by decide, if_neg (by decide), if_pos rfl, ew]
    rfl
  · show upd (fI F) (ix 1) 1 1 = 1
    exact pk_us
theorem re_G {F : FS} {g g0 : Nat → Int32} {B B0 : Int} (h : FG B F g) (hA : eRel (fA F) g0) (I0 : eInv B0 g0) (h1 : fI F 0 = 1) : ∃ F', hX9_restore 0 F = some F' ∧ FG B0 F' g0 ∧ fA F' = fA F ∧ fI F' = fI F := by
  obtain ⟨w, ew, cw⟩ := sb_copy (fN F) (fA F)
  obtain ⟨x, k, hx, hk, ex, ey⟩ := h.2.2.1
  refine ⟨gH (gN F w) (iY (fH (gN F w)) 0), ?_, ⟨hA.cp I0.2.1 cw, I0, ⟨x, 0, hx, by omega, ex, rfl⟩, h.2.2.2⟩, rfl, rfl⟩
  unfold hX9_restore hX9_restore_b0
  rw [if_neg (by decide), if_pos (by decide), show inb 0 2 = true from by decide, if_pos rfl, show ix 0 = 0 from rfl, h1, if_neg (by decide), ew]
  rfl
theorem re_G1 {F : FS} {g g0 : Nat → Int32} {B B0 : Int} (h : FG B F g) (hA : eRel (fB F) g0) (I0 : eInv B0 g0) (h1 : fI F 1 = 1) : ∃ F', hX9_restore 1 F = some F' ∧ FG B0 F' g0 ∧ fB F' = fB F ∧ fI F' = fI F := by
  obtain ⟨w, ew, cw⟩ := sb_copy (fN F) (fB F)
  obtain ⟨x, k, hx, hk, ex, ey⟩ := h.2.2.1
  refine ⟨gH (gN F w) (iY (fH (gN F w)) 0), ?_, ⟨hA.cp I0.2.1 cw, I0, ⟨x, 0, hx, by omega, ex, rfl⟩, h.2.2.2⟩, rfl, rfl⟩
  unfold hX9_restore hX9_restore_b0
  rw [if_neg (by decide), if_pos (by decide), show inb 1 2 = true from by decide, if_neg (by decide), if_pos rfl, show ix 1 = 1 from rfl, h1, if_neg (by decide), ew]
  rfl
