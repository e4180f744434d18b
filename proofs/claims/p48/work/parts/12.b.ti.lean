/-! p48, pure: the law's ticks says yes -/
theorem i_asc (a b : Int32) : a + b - a = b := by rw [Int32.add_comm, Int32.add_sub_cancel]
theorem i_cas (a b : Int32) : a = b + (a - b) := by rw [Int32.add_comm, Int32.sub_add_cancel]
theorem ab_neg {s : Int32} (h : 0 ≤ s.toInt) : ab s = s ∧ ab (-s) = s := by
  unfold ab
  constructor
  · rw [if_pos (by rw [qa_le, qa_0]; exact h)]
  · have hn : (-s).toInt = -s.toInt := qa_neg (by omega)
    by_cases q : s.toInt = 0
    · have e : s = 0 := by rw [qa_eq, q, qa_0]
      rw [e]
      decide
    · rw [if_neg (by rw [qa_le, qa_0, hn]; omega), qa_eq, qa_sub (by rw [qa_0, hn]; have := qa_rng s; omega) (by rw [qa_0, hn]; have := qa_rng s; omega), qa_0, hn]
      omega
theorem tl_446 {x1 x2 x3 x5 x7 x8 x9 x10 x12 x17 x18 : Int32} {Y : YB} {un : Int32} {u : FS} (h5 : x5 = 0 ∨ x5 = 1 ∨ x5 = 2) (h : (x12 = (-1) ∧ x5 = 0 ∧ x18 = 0) ∨ (x12 = 0 ∧ ¬ x5 = 0) ∨ (x12 = 1 ∧ x5 = 0 ∧ ¬ x18 = 0) ∨ ∃ n : Nat, 2 ≤ n ∧ n ≤ 200 ∧ x12 = nI n ∧ x5 = 0 ∧ x18 = 0) :
    fL_ticks_b446 x1 x2 x3 x5 x7 x8 x9 x10 x12 x17 x18 Y un u = fL_ticks_b526 x1 x2 x3 x7 x8 x9 x10 x17 Y un u := by
  unfold fL_ticks_b446 fL_ticks_b456 fL_ticks_b466 fL_ticks_b471 fL_ticks_b484 fL_ticks_b494 fL_ticks_b508
  rcases h with ⟨e12, e5, e18⟩ | ⟨e12, n5⟩ | ⟨e12, e5, n18⟩ | ⟨n, n2, n3, e12, e5, e18⟩
  · rw [e12, e5, e18, if_pos (by decide), if_neg (by decide), if_pos (by decide), if_pos rfl, if_neg (by decide), if_pos (by decide), if_pos rfl, if_neg (by decide), if_neg (by decide), if_pos rfl, if_pos (by decide)]
  · rw [e12, if_neg (by decide), if_pos rfl, if_pos rfl, if_pos rfl]
    rcases h5 with q | q | q
    · exact absurd q n5
    · rw [q, if_neg (by decide), if_pos rfl, if_neg (by decide), if_neg (by decide), if_neg (by decide)]
    · rw [q, if_neg (by decide), if_pos rfl, if_neg (by decide), if_neg (by decide), if_neg (by decide)]
  · rw [e12, e5, if_neg (by decide), if_neg (by decide), if_neg (by decide), if_pos rfl, if_neg (by decide), if_pos (by decide), if_pos rfl, if_pos rfl, if_neg n18, if_pos rfl]
  · have hI := qa_nI (n := n) (by omega)
    have a1 : ¬ nI n < 0 := by rw [qa_lt, hI, qa_0]; omega
    have a2 : ¬ nI n = 0 := by rw [qa_eq, hI, qa_0]; omega
    have a3 : ¬ nI n ≤ 0 := by rw [qa_le, hI, qa_0]; omega
    have a4 : ¬ nI n = 1 := by rw [qa_eq, hI, qa_1]; omega
    rw [e12, e5, e18, if_neg a1, if_neg a2, if_neg a3, if_pos rfl, if_neg a2, if_pos (by decide), if_pos rfl, if_neg a4, if_neg a4, if_pos rfl, if_pos (by decide)]
theorem tl_526 {F : FS} {g : Nat → Int32} {B : Int} (h : FG B F g) {x1 x2 x3 x7 x8 x9 x10 x17 : Int32} {Y : YB} {un : Int32} (hx : x1 < 0 ∨ (¬ x1 < 0 ∧ ((x17 = 1 ∧ g 6 = x3) ∨ (x17 = 0 ∧ g 6 = x3 ∧ g 5 = x2 + 1) ∨ (x17 = 0 ∧ ¬ g 6 ≤ x3 ∧ g 5 = x2 ∧ g 4 = x1)))) :
    fL_ticks_b526 x1 x2 x3 x7 x8 x9 x10 x17 Y un F = fL_ticks_b613 x7 x8 x9 x10 Y un F := by
  unfold fL_ticks_b526 fL_ticks_b563
  have ler : ∀ x : Int32, x ≤ x := fun x => by rw [qa_le]; exact Int.le_refl _
  rcases hx with hx | ⟨hx, ⟨e17, e6⟩ | ⟨e17, e6, e5⟩ | ⟨e17, e6, e5, e4⟩⟩
  · rw [if_pos hx, if_pos hx]
  · rw [if_neg hx, if_neg (by rw [e17]; decide), if_neg hx, cn_10 h, qa_b, if_pos (by rw [e6]; exact ler _)]
  · rw [if_neg hx, if_pos e17, cn_10 h, qa_b, if_pos e6, cn_9 h, qa_b, if_pos e5, if_neg hx, qa_b, if_pos (by rw [e6]; exact ler _)]
  · have n6 : ¬ g 6 = x3 := fun q => e6 (by rw [q]; exact ler _)
    rw [if_neg hx, if_pos e17, cn_10 h, qa_b, if_neg n6, if_neg hx, qa_b, if_neg e6, if_neg (by rw [e17]; decide), cn_9 h, qa_b, if_pos e5, cn_8 h, qa_b, if_pos e4]
/-- who began, who was called -/
theorem tl_613 {F : FS} {g g' : Nat → Int32} {B : Int} (h : FG B F g') (N : eN g' = eN g) (z8 : 0 ≤ (g 8).toInt) (z8' : (g' 8).toInt ≤ 100000000) (z8r : (g 8).toInt ≤ 100000000) (hc0 : 0 < eQ g → 0 ≤ (g 41).toInt ∧ ix (g 41) < eN g) (h28 : g' 28 = g 28) (f3 : TF3 g g') (f4 : TF4 g g') {x7 x10 : Int32} (h7 : 0 < eQ g → x7 = g 41) (h10 : x10 = 1 ↔ bgn g g') {Y : YB} {un : Int32} :
    fL_ticks_b613 x7 (g 7) (g 8) x10 Y un F = some (1, F) := by
  have G := h.2.1.2.1
  have hn := G.1.n
  have lt8 : ¬ g' 8 < g 8 := by
    rw [qa_lt]
    rcases f4 with ⟨e, -⟩ | ⟨e, -⟩
    · rw [e]
      omega
    · rw [e, qa_add (by rw [qa_1]; omega) (by rw [qa_1]; omega), qa_1]
      omega
  -- the end, for x22 = 0 or 1
  have fin : ∀ x21 x22 : Int32, ((x22 = 0 ∧ ¬ bgn g g') ∨ (x22 = 1 ∧ bgn g g' ∧ x21 = g' 4)) → fL_ticks_b734 x7 (g 7) (g 8) x21 x22 Y un F = some (1, F) := by
    intro x21 x22 hx
    unfold fL_ticks_b734
    rw [cn_12 h, qa_b]
    rcases f4 with ⟨e8, hv⟩ | ⟨e8, e7, w, q0, s, s1, s2, c0, c1, c2, c3⟩
    · rw [if_pos (by rw [e8, qa_le]; exact Int.le_refl _)]
      rcases hx with ⟨e22, nb⟩ | ⟨e22, yb, -⟩
      · rw [if_pos e22, cn_11 h, qa_b]
        rcases hv with q | q | ⟨q7, q4, q0, qq, q41, y0, y1⟩
        · exact absurd q nb
        · rw [if_pos q]
        · by_cases z : g' 7 = g 7
          · rw [if_pos z]
          · obtain ⟨v1, v2⟩ := hc0 q0
            have hwn : fL_whyNot x7 F = some (eY g' (ix (g 41))) := by
              rw [h7 q0]
              have := wn_G h (p := 0) (c := ix (g 41)) (by rw [qq]; exact q0) (by rw [N]; exact v2) (q41.trans (qa_nIx v1).symm)
              rw [qa_nIx v1] at this
              exact this
            have y2 : ¬ eY g' (ix (g 41)) ≤ 2 := by
              have hr := eY_range g' (ix (g 41))
              have hn2 : ¬ eY g' (ix (g 41)) = 2 := by
                unfold eY
                rw [if_pos q4]
                repeat' split
                all_goals decide
              rw [qa_eq, qa_0] at y0
              rw [qa_eq, qa_1] at y1
              rw [qa_eq, qa_2] at hn2
              rw [qa_le, qa_2]
              omega
            rw [if_neg z, qa_b, if_pos q7, hwn, qa_b, if_neg y2]
      · rw [if_neg (by rw [e22]; decide)]
    · have i8 : (g' 8).toInt = (g 8).toInt + 1 := by rw [e8, qa_add (by rw [qa_1]; omega) (by rw [qa_1]; omega), qa_1]
      have cl : ∀ j : Nat, j < 4 → ∀ y : Int32, y.toInt = (j : Int) → fL_call 0 y F = some (g' (481 + (s + j))) := fun j hj y hy => cl_G h (by rw [i8, s2]; congr 2; omega) (by omega) hj hy
      have k0 := cl 0 (by decide) 0 (by decide)
      rw [Nat.add_zero, c0] at k0
      have k1 := cl 1 (by decide) 1 (by decide)
      rw [c1] at k1
      rw [if_neg (by rw [e8, qa_le, qa_add (by rw [qa_1]; omega) (by rw [qa_1]; omega), qa_1]; omega), qa_b, if_pos e8, k0, qa_b, cn_0 h, qa_b, if_pos rfl, k1, qa_b, if_pos (h7 q0).symm, cl 2 (by decide) 2 (by decide), qa_b, if_neg (by rw [qa_le, qa_1]; omega), cl 3 (by decide) 3 (by decide), qa_b]
      have e831 : ∀ a : Int32, g' (481 + (s + 3)) = a → fL_ticks_b831 (g 7) (g' (481 + (s + 3))) a Y un F = some (1, F) := by
        intro a ha
        unfold fL_ticks_b831
        rw [if_pos ha, cn_11 h, qa_b, if_pos e7, sg_13 h, qa_b, if_neg (by rw [h28]; exact w)]
      rcases hx with ⟨e22, nb⟩ | ⟨e22, yb, e21⟩
      · rw [if_pos e22]
        exact e831 _ (c3.elim (fun q => absurd q.1 nb) (fun q => q.2))
      · rw [if_neg (by rw [e22]; decide)]
        refine e831 _ (c3.elim (fun q => q.2.trans e21.symm) (fun q => absurd q.1 yb.1))
  unfold fL_ticks_b613 fL_ticks_b654
  rw [cn_8 h, qa_b]
  have nobody : ∀ x21 : Int32, ¬ bgn g g' → fL_ticks_b655 x7 (g 7) (g 8) x10 x21 0 Y un F = some (1, F) := by
    intro x21 nb
    unfold fL_ticks_b655 fL_ticks_b668 fL_ticks_b690
    rw [if_neg (fun q => nb (h10.mp q)), if_pos rfl, if_pos rfl, cn_12 h, qa_b, if_neg lt8, if_pos rfl]
    exact fin x21 0 (Or.inl ⟨rfl, nb⟩)
  rcases f3 with e4 | ⟨e4, n4, hb⟩ | ⟨yb, hb, e7, q0, hq⟩
  · rw [if_pos (by rw [e4]; decide)]
    exact nobody _ (fun q => q.1 e4)
  · have n4' : ¬ g' 4 = (-1) := by rw [e4]; exact n4
    obtain ⟨x0, x1, x2⟩ := G.2.2.1.resolve_left n4'
    rw [if_neg (by rw [qa_lt, qa_0]; omega), show fL_car (g' 4) 5 F = some (eC g' (ix (g' 4)) 5) from ca_G h (qa_ixI x0) x1 (y := 5) (k := 5) (by decide) (by decide), qa_b, cn_0 h, qa_b, if_neg (fun q => by rw [q] at hb; omega)]
    exact nobody _ (fun q => q.2 e4)
  · obtain ⟨x0, x1, x2⟩ := G.2.2.1.resolve_left yb.1
    rw [if_neg (by rw [qa_lt, qa_0]; omega), show fL_car (g' 4) 5 F = some (eC g' (ix (g' 4)) 5) from ca_G h (qa_ixI x0) x1 (y := 5) (k := 5) (by decide) (by decide), qa_b, cn_0 h, qa_b, if_pos hb]
    unfold fL_ticks_b655 fL_ticks_b668 fL_ticks_b690
    rw [if_pos (h10.mpr yb), if_pos rfl, if_neg (by decide), cn_11 h, qa_b, if_pos e7, cn_12 h, qa_b, if_neg lt8, if_neg (by decide)]
    have f1 := fin (g' 4) 1 (Or.inr ⟨rfl, yb, rfl⟩)
    by_cases q : g' 4 = x7
    · rw [if_pos q]
      exact f1
    · rw [if_neg q, qa_b, if_pos ?_]
      · exact f1
      · exact hq.resolve_left (fun z => q (z.trans (h7 q0).symm))
/-- the winch's turn, read off two states -/
theorem tl_284 {F : FS} {g g' : Nat → Int32} {B : Int} (h : FG B F g') (S : eS g) (G : eG g) (hw : g 2 = 0 ∨ g 2 = 1 ∨ g 2 = 2) (hI : 0 ≤ (eI (tk0 g)).toInt) (st : ∀ i, 15 ≤ i → i < 29 → g' i = g i) (e1 : g' 1 = tk1 g 1) (e2 : g' 2 = tk1 g 2) (e3 : g' 3 = tk1 g 3) {x1 x2 x3 x7 x8 x9 x10 x12 x17 : Int32} {Y : YB} {un : Int32} :
    fL_ticks_b284 x1 x2 x3 (g 2) (g 3) x7 x8 x9 x10 x12 (g 25) (eI (tk0 g)) x17 (g' 2) (ab (g' 1 - g 1)) Y un F = fL_ticks_b446 x1 x2 x3 (g 2) x7 x8 x9 x10 x12 x17 (g' 2) Y un F := by
  have X : ∀ i, i ≠ 0 → tk0 g i = g i := fun i hi => pk_un hi
  have s24 : fL_setting 9 F = some (g 24) := by rw [sg_9 h, st 24 (by omega) (by omega)]
  have s26 : fL_setting 11 F = some (g 26) := by rw [sg_11 h, st 26 (by omega) (by omega)]
  have c6 := cn_6 h
  have hS := S.1
  have t1 : tk1 g = wnG (tk0 g) := rfl
  have hps : plS (tk0 g) = if eI (tk0 g) < g 24 then eI (tk0 g) else g 24 := by
    unfold plS
    rw [X 24 (by omega)]
  have hp0 : 0 ≤ (plS (tk0 g)).toInt := by
    rw [hps]
    split
    · exact hI
    · omega
  -- pulled
  have yes : wnP (tk0 g) → fL_ticks_b331 x1 x2 x3 (g 2) (g 3) x7 x8 x9 x10 x12 (g 25) (eI (tk0 g)) x17 (g' 2) (ab (g' 1 - g 1)) 1 Y un F = fL_ticks_b446 x1 x2 x3 (g 2) x7 x8 x9 x10 x12 x17 (g' 2) Y un F := by
    intro hp
    obtain ⟨q1, q2, -⟩ := wn_yes hp
    have hab : ab (g' 1 - g 1) = plS (tk0 g) := by
      rw [e1, t1, q1, X 1 (by omega), i_asc]
      unfold plD
      split
      · exact (ab_neg hp0).2
      · exact (ab_neg hp0).1
    have h2 : g' 2 = if eI (tk0 g) = plS (tk0 g) then 0 else 2 := by rw [e2, t1, q2]
    unfold fL_ticks_b331 fL_ticks_b358 fL_ticks_b401
    rw [if_neg (by decide), s24, qa_b, ← hps, hab, if_pos rfl, if_neg (by decide)]
    by_cases z : eI (tk0 g) = plS (tk0 g)
    · rw [if_pos z] at h2 ⊢
      rw [h2, if_pos rfl, if_neg (by decide)]
    · rw [if_neg z] at h2 ⊢
      rw [h2, if_pos rfl, if_neg (by decide)]
  have no : ¬ wnP (tk0 g) → fL_ticks_b331 x1 x2 x3 (g 2) (g 3) x7 x8 x9 x10 x12 (g 25) (eI (tk0 g)) x17 (g' 2) (ab (g' 1 - g 1)) 0 Y un F = fL_ticks_b446 x1 x2 x3 (g 2) x7 x8 x9 x10 x12 x17 (g' 2) Y un F := by
    intro hp
    obtain ⟨q1, q2⟩ := wn_no (g := tk0 g) (by rw [X 2 (by omega)]; exact hw) hp
    have hab : ab (g' 1 - g 1) = 0 := by
      rw [e1, t1, q1, X 1 (by omega), Int32.sub_self]
      decide
    rw [X 2 (by omega), X 3 (by omega), X 25 (by omega), X 26 (by omega)] at q2
    unfold fL_ticks_b331 fL_ticks_b358 fL_ticks_b396 fL_ticks_b401 fL_ticks_b441
    rw [if_pos rfl, hab, if_pos rfl, if_pos rfl]
    rcases q2 with ⟨a, b, c⟩ | ⟨a, a', b, c⟩ | ⟨a, a', b, c⟩
    · have h2 : g' 2 = 1 := by rw [e2, t1, b]
      have h3 : g' 3 = g 3 - 1 := by rw [e3, t1, c]
      rw [a, h2, if_pos rfl, if_pos rfl, if_pos rfl, c6, qa_b, if_pos rfl, if_pos h3]
    · have h2 : g' 2 = 1 := by rw [e2, t1, b]
      have h3 : g' 3 = g 26 := by rw [e3, t1, c]
      rw [a, h2, if_neg (by decide), if_neg a', if_pos rfl, if_pos rfl, c6, qa_b, if_neg (by decide), s26, qa_b, if_pos h3]
    · have h2 : g' 2 = 0 := by rw [e2, t1, b]
      rw [a, h2, if_neg (by decide), if_pos a', if_pos rfl, if_neg (by decide)]
  unfold fL_ticks_b284 fL_ticks_b302 fL_ticks_b326 fL_ticks_b330
  by_cases w2 : g 2 = 2
  · rw [if_pos w2]
    exact yes (Or.inl ((X 2 (by omega)).trans w2))
  · rw [if_neg w2]
    by_cases w1 : g 2 = 1
    · rw [if_pos w1]
      by_cases w3 : g 3 = 1
      · rw [if_pos w3]
        exact yes (Or.inr (Or.inl ⟨(X 2 (by omega)).trans w1, by rw [X 3 (by omega), w3]; decide⟩))
      · rw [if_neg w3, if_neg (by rw [w1]; decide)]
        refine no fun q => ?_
        rcases q with q | ⟨-, q⟩ | ⟨q, -⟩
        · exact w2 ((X 2 (by omega)).symm.trans q)
        · rw [X 3 (by omega)] at q
          have z := i_cas (g 3) 1
          rw [q] at z
          exact w3 z
        · rw [X 2 (by omega), w1] at q
          exact absurd q (by decide)
    · have w0 : g 2 = 0 := by
        rcases hw with q | q | q
        · exact q
        · exact absurd q w1
        · exact absurd q w2
      rw [if_neg w1, if_pos w0]
      by_cases l : eI (tk0 g) ≤ g 25
      · rw [if_pos l]
        refine no fun q => ?_
        rcases q with q | ⟨q, -⟩ | ⟨-, q, -⟩
        · exact w2 ((X 2 (by omega)).symm.trans q)
        · exact w1 ((X 2 (by omega)).symm.trans q)
        · exact q (by rw [X 25 (by omega)]; exact l)
      · rw [if_neg l, s26, qa_b]
        by_cases z : g 26 = 0
        · rw [if_pos z]
          exact yes (Or.inr (Or.inr ⟨(X 2 (by omega)).trans w0, by rw [X 25 (by omega)]; exact l, (X 26 (by omega)).trans z⟩))
        · rw [if_neg z]
          refine no fun q => ?_
          rcases q with q | ⟨q, -⟩ | ⟨-, -, q⟩
          · exact w2 ((X 2 (by omega)).symm.trans q)
          · exact w1 ((X 2 (by omega)).symm.trans q)
          · exact z ((X 26 (by omega)).symm.trans q)
/-- the settings never move in a tick -/
theorem ad_fr {g g' : Nat → Int32} (hA : tkA g g') (G : eG g) {i : Nat} (h15 : i = 13 ∨ (15 ≤ i ∧ i < 41)) : g' i = g i := by
  have hq := G.q
  have hq20 : eQ g ≤ 20 := by omega
  rcases hA with ⟨e, hs⟩ | ⟨h4, c, l, q0, hc, e, l3, hl, y0, e'⟩ | ⟨h4, q0, y0, y1, w, e'⟩ | ⟨h4, q0, y0, y1, w, s, s1, s3, hx⟩
  · rw [e]
  · rw [e']
    exact bgG_fr g hq20 q0 (nI l) (by omega) (by omega) (by omega) (by omega) (by omega)
  · rw [e']
    exact pk_un (by omega)
  · rcases hx with e' | ⟨p, c, l, p1, p2, hc, e, l3, hl, y9, e'⟩
    · rw [e']
      exact (kcG_fr _ s1 _ _ _ (by omega) (by omega) (by omega)).trans (pk_un (by omega))
    · rw [e']
      exact (bgG_fr _ hq20 p2 (nI l) (by omega) (by omega) (by omega) (by omega) (by omega)).trans ((kcG_fr _ s1 _ _ _ (by omega) (by omega) (by omega)).trans (pk_un (by omega)))
theorem tk_fr {u : KS} {g : Nat → Int32} {B : Int} (R : eRel u g) (I : eInv B g) (hB : B + 2 ≤ 100000000) {i : Nat} (h15 : i = 13 ∨ (15 ≤ i ∧ i < 41)) : tkG g i = g i := by
  obtain ⟨hA, ⟨u2, R2, I2, T2⟩, ⟨u3, R3, I3, T3⟩⟩ := tk_dec R I hB
  rw [ad_fr hA I3.2.1 h15]
  have e1 : tk1 g i = g i := (wnG_fr (tk0 g) (by omega) (by omega) (by omega)).trans (pk_un (by omega))
  unfold tk2
  by_cases e4 : tk1 g 4 = (-1)
  · rw [if_pos e4]
    exact e1
  · rw [if_neg e4, ← e1]
    unfold drG
    split
    · exact pk_un (by omega)
    · split
      · split
        · exact drX_fr _ (by omega) (by omega)
        · exact (bdG_fr _ (by omega) (by omega) (by omega) (by omega)).trans (drX_fr _ (by omega) (by omega))
      · exact pk_un (by omega)
theorem ti_L {F : FS} {g : Nat → Int32} {B : Int} (h : FG B F g) (P : PX g) (hB : B + 410 ≤ 100000000) (Y : YB) (un : Int32) : ∃ F', fL_ticks Y un F = some (1, F') ∧ FG (B + 2) F' (tkG g) ∧ PX (tkG g) ∧ fA F' = fA F ∧ fB F' = fB F ∧ fI F' = fI F := by
  have S := h.2.1.1
  have G := h.2.1.2.1
  have Z := h.2.1.2.2
  have hn := G.1.n
  have hq := G.q
  obtain ⟨z1, z2, z3, z4, z5, z6, z7, z8, z9, z10, z11, z12, z13, z14⟩ := Z
  obtain ⟨⟨t0, t1, t2, t3⟩, f1, f2, f3, f4⟩ := tf_G h.1 h.2.1 (by omega)
  have P' := PX.tk h.1 h.2.1 (by omega) P
  obtain ⟨ta, r10, ea, hr10⟩ := si_G h (by omega)
  have h1 : FG B (gT F ta) g := h.T ta
  obtain ⟨tb, eb⟩ := bo_G h1 (n := 1) (by omega) (by omega) (by omega) (x := 1) (by decide)
  have h2 : FG B (gT (gT F ta) tb) g := h1.T tb
  obtain ⟨tc, r12, ec, hr12⟩ := wi_G h2 (by omega)
  have h3 : FG B (gT (gT (gT F ta) tb) tc) g := h2.T tc
  obtain ⟨F', et, hF', eA, eB, eI'⟩ := tc_G h3 (n := 1) (by omega) (by omega) (by omega) (x := 1) (by decide)
  have hF' : FG (B + 2) F' (tkG g) := by
    have : B + 2 * ((1 : Nat) : Int) = B + 2 := by omega
    rw [this] at hF'
    exact hF'
  have et : fL_tick 1 (gT (gT (gT F ta) tb) tc) = some (tkG g 9 - g 9, F') := et
  have eb : fL_boardIn 1 (gT F ta) = some (tkG g 9 - g 9, gT (gT F ta) tb) := eb
  have x7 : ∃ x7, fX9_queued 0 F = some x7 ∧ (0 < eQ g → x7 = g 41) := by
    by_cases q : 0 < eQ g
    · exact ⟨g 41, qu_in h (x := 0) (i := 0) (by decide) q, fun _ => rfl⟩
    · exact ⟨-1, qu_out h (Or.inr (by rw [qa_0]; omega)), fun z => absurd z q⟩
  obtain ⟨x7, e7, hx7⟩ := x7
  have ed : fL_deck (g 0 + 1) (gT (gT (gT F ta) tb) tc) = some (eV g (g 0 + 1)) := de_G h3 (by rw [qa_add (by rw [qa_1]; omega) (by rw [qa_1]; omega), qa_1]; omega)
  have eX : eI (tk0 g) = (if 0 ≤ g 1 - eV g (g 0 + 1) then g 1 - eV g (g 0 + 1) else 0 - (g 1 - eV g (g 0 + 1))) := by
    have : eV (tk0 g) = eV g := (eF_upd g (by omega) _).V
    show ab (tk0 g 1 - eV (tk0 g) (tk0 g 0)) = _
    rw [this, show tk0 g 1 = g 1 from pk_un (by omega), show tk0 g 0 = g 0 + 1 from pk_us]
    rfl
  have hI0 : 0 ≤ (eI (tk0 g)).toInt := by
    have hv := eV_bnd S G (t := g 0 + 1) (by rw [qa_add (by rw [qa_1]; omega) (by rw [qa_1]; omega), qa_1]; omega)
    have := ab_le (x := g 1) (D := eV g (g 0 + 1)) (by omega) (by omega) hv.1 hv.2
    rw [eX]
    have e : ab (g 1 - eV g (g 0 + 1)) = (if 0 ≤ g 1 - eV g (g 0 + 1) then g 1 - eV g (g 0 + 1) else 0 - (g 1 - eV g (g 0 + 1))) := rfl
    rw [← e]
    omega
  have fr : ∀ i, i = 13 ∨ (15 ≤ i ∧ i < 41) → tkG g i = g i := fun i hi => tk_fr h.1 h.2.1 (by omega) hi
  have hN : eN (tkG g) = eN g := by
    unfold eN
    rw [fr 13 (by omega)]
  have Z' := hF'.2.1.2.2
  -- the tail
  have tail : ∀ x17 : Int32, x17 = tkG g 9 - g 9 → fL_ticks_b284 (g 4) (g 5) (g 6) (g 2) (g 3) x7 (g 7) (g 8) r10 r12 (g 25) (eI (tk0 g)) x17 (tkG g 2) (ab (tkG g 1 - g 1)) Y un F' = some (1, F') := by
    intro x17 e17
    rw [tl_284 hF' S G z7 hI0 (fun i h1 h2 => fr i (by omega)) t1 t2 t3, tl_446 z7 ?_, tl_526 hF' ?_]
    · refine tl_613 hF' hN z11 (by have := Z'.2.2.2.2.2.2.2.2.2.2.2.1; omega) (by omega) (fun q => ?_) (fr 28 (by omega)) f3 f4 hx7 ⟨fun q => ?_, fun q => ?_⟩
      · obtain ⟨v1, v2, v3⟩ := G.2.2.2.2.1 0 q
        exact ⟨v1, v2⟩
      · rcases hr10 with ⟨r, -⟩ | ⟨i, i1, r, s, -⟩
        · rw [r] at q
          exact absurd q (by decide)
        · rw [r] at q
          have : i = 0 := by
            have := (nI_eq (a := i + 1) (b := 1) (by omega) (by decide)).mp q
            omega
          rw [this] at s
          exact s
      · have q : stP g 0 := q
        rcases hr10 with ⟨r, no⟩ | ⟨i, i1, r, s, no⟩
        · exact absurd q (no 0 (by omega))
        · have : i = 0 := by
            rcases Nat.eq_zero_or_pos i with z | z
            · exact z
            · exact absurd q (no 0 z)
          rw [r, this]
          rfl
    · by_cases n4 : g 4 = (-1)
      · exact Or.inl (by rw [n4]; decide)
      · have x0 := (G.2.2.1.resolve_left n4).1
        refine Or.inr ⟨by rw [qa_lt, qa_0]; omega, ?_⟩
        rcases f2 n4 with ⟨a, b⟩ | ⟨a, b, c⟩ | ⟨a, b, c, d⟩
        · exact Or.inl ⟨by rw [e17, a, i_asc], b⟩
        · exact Or.inr (Or.inl ⟨by rw [e17, a, Int32.sub_self], b, c⟩)
        · refine Or.inr (Or.inr ⟨by rw [e17, a, Int32.sub_self], ?_, c, d⟩)
          have p9 := P.2.2.2.2.2.2.2.2
          rw [b, qa_le, qa_add (by rw [qa_1]; omega) (by rw [qa_1]; omega), qa_1]
          omega
    · rcases hr12 with ⟨r, no⟩ | ⟨i, i1, r, y, no⟩
      · exact Or.inl ⟨r, no 0 (by omega), no 1 (by omega)⟩
      · rcases (show i = 0 ∨ i = 1 ∨ 2 ≤ i by omega) with z | z | z
        · rw [z] at r y
          exact Or.inr (Or.inl ⟨r, y⟩)
        · rw [z] at r y no
          exact Or.inr (Or.inr (Or.inl ⟨r, no 0 (by omega), y⟩))
        · exact Or.inr (Or.inr (Or.inr ⟨i, z, i1, r, no 0 (by omega), no 1 (by omega)⟩))
  refine ⟨F', ?_, hF', P', eA, eB, eI'⟩
  unfold fL_ticks fL_ticks_b0
  rw [cn_8 h, qa_b, cn_9 h, qa_b, cn_10 h, qa_b, cn_4 h, qa_b, cn_5 h, qa_b, cn_6 h, qa_b, e7, qa_b, cn_11 h, qa_b, cn_12 h, qa_b, ea, qa_b2, eb, qa_b2, ec, qa_b2, cn_13 h3, qa_b, sg_10 h3, qa_b, cn_0 h3, qa_b, ed, qa_b, et, qa_b2, cn_5 hF', qa_b, cn_4 hF', qa_b, if_pos rfl, cn_13 hF', qa_b, if_pos (i_cas _ _), ← eX]
  have e19 : (if 0 ≤ tkG g 1 - g 1 then tkG g 1 - g 1 else 0 - (tkG g 1 - g 1)) = ab (tkG g 1 - g 1) := rfl
  rw [e19]
  rcases f1 with q | ⟨q, n4, q2, q6⟩
  · rw [if_neg (by rw [q, Int32.sub_self]; decide), if_neg (by rw [q, Int32.sub_self]; decide)]
    exact tail _ rfl
  · have x0 := (G.2.2.1.resolve_left n4).1
    have x1 := (G.2.2.1.resolve_left n4).2.1
    have e : tkG g 9 - g 9 = 1 := by rw [q, i_asc]
    rw [if_neg (by rw [e]; decide), if_pos e, if_neg (by rw [qa_lt, qa_0]; omega), show fL_car (g 4) 2 F' = some (eC (tkG g) (ix (g 4)) 2) from ca_G hF' (qa_ixI x0) (by rw [hN]; exact x1) (y := 2) (k := 2) (by decide) (by decide), qa_b, if_pos q2, show fL_car (g 4) 6 F' = some (eC (tkG g) (ix (g 4)) 6) from ca_G hF' (qa_ixI x0) (by rw [hN]; exact x1) (y := 6) (k := 6) (by decide) (by decide), qa_b, cn_0 hF', qa_b, if_pos q6]
    exact tail _ rfl
