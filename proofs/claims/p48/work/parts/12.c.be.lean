/-! p48, pure: the law's best says yes -/
theorem it_9 {g : Nat → Int32} : ∀ (n : Nat) {u : KS} {B : Int}, eRel u g → eInv B g → B + 2 * n ≤ 100000000 → PX g → (g 9).toInt ≤ (itG n g 9).toInt ∧ (itG n g 9).toInt ≤ 59940
  | 0, u, B, R, I, _, P => by
    have hn := I.2.1.1.n
    have h9 : (g 9).toInt ≤ 999 * (eN g : Int) := by
      rw [P.2.1]
      refine (sI_bnd (by omega) fun j _ => ?_).2
      unfold eEf
      split
      · rw [qa_1]
        omega
      · rw [qa_0]
        omega
    exact ⟨Int.le_refl _, by show (g 9).toInt ≤ _; omega⟩
  | n + 1, u, B, R, I, hB, P => by
    obtain ⟨h1, h2⟩ := it_9 n R I (by omega) P
    obtain ⟨⟨v, Rv⟩, Iv, Pv⟩ := PX.it n R I (by omega) P
    obtain ⟨⟨v', Rv'⟩, Iv', Pv'⟩ := PX.it (n + 1) R I hB P
    have h3 := (it_9 0 Rv' Iv' (by omega) Pv').2
    refine ⟨?_, h3⟩
    obtain ⟨-, f1, -⟩ := tf_G Rv Iv (by omega)
    rw [← itG_s] at f1
    rcases f1 with q | ⟨q, -⟩
    · rw [q]
      exact h1
    · rw [q, qa_add (by rw [qa_1]; have := qa_rng (itG n g 9); omega) (by rw [qa_1]; omega), qa_1]
      omega
theorem bfV_0 {F : FS} {g : Nat → Int32} {B : Int} (h : FG B F g) (P : PX g) {n p : Nat} (hp : p < eQ g) (hB : B + 2 * n ≤ 100000000) : 0 ≤ (bfV g n p).toInt := by
  obtain ⟨R', I', -⟩ := wv_rel h.1 h.2.1 hp
  have P' := PX.wv h.2.1.2.1 hp P
  obtain ⟨h1, h2⟩ := it_9 n R' I' hB P'
  have h0 : 0 ≤ (rtQ g 41 p 9).toInt := by
    rw [P'.2.1]
    have hn := I'.2.1.1.n
    refine (sI_bnd (by omega) fun j _ => ?_).1
    unfold eEf
    split
    · rw [qa_1]
      omega
    · rw [qa_0]
      omega
  unfold bfV
  rw [qa_sub (by omega) (by omega)]
  omega
theorem d_1 (d : Nat) : (1 : Int32) + nI d = nI (1 + d) := nI_add 1 d
theorem rtQ_eQ {g : Nat → Int32} {p : Nat} (hp : p < 20) : eQ (rtQ g 41 p) = eQ g ∧ eN (rtQ g 41 p) = eN g := by
  unfold eQ eN
  rw [rtQ_o g (Or.inl (by omega)), rtQ_o g (Or.inl (by omega))]
  exact ⟨rfl, rfl⟩
theorem be_L {F : FS} {g : Nat → Int32} {B : Int} (h : FG B F g) (P : PX g) (hB : B + 410 ≤ 100000000) {Y : YB} (hN : Y.2.2.1 < 2147483648) {k : Nat} (hk : k < 1000000) : ∃ F' k1, fL_best Y (nI k) F = some (1, nI k1, F') ∧ k1 ≤ k + 40 ∧ FG B F' g := by
  have G := h.2.1.2.1
  have hq := G.q
  have hn := G.1.n
  obtain ⟨e1, l1⟩ := dr_val (Y := Y) hN (k := k) (n := 40) (by omega) (by decide) (by decide) F
  have e1 : fL_draw 40 Y (nI k) F = some (nI (drN Y k 40), nI (k + 1)) := e1
  obtain ⟨d, hd⟩ : ∃ d, d = drN Y k 40 := ⟨_, rfl⟩
  rw [← hd] at e1 l1
  have hx : ((1 : Int32) + nI d).toInt = ((1 + d : Nat) : Int) := by rw [d_1, qa_nI (by omega)]
  obtain ⟨t, r, m, ebf, ho⟩ := bf_G h (n := 1 + d) (by omega) (by omega) hx (by omega) (fun p hp => bfV_0 h P hp (by omega))
  have ebf : fL_bestFirst (1 + nI d) F = some (r, gT F t) := ebf
  have h1 : FG B (gT F t) g := h.T t
  unfold fL_best fL_best_b0
  rw [e1, qa_b2, ebf, qa_b2, cn_1 h1, qa_b]
  by_cases q0 : g 14 = 0
  · have e0 : eQ g = 0 := by
      unfold eQ
      rw [q0]
      decide
    have hr : r = (-1) := by
      rcases ho with ⟨-, a, -⟩ | ⟨p, a, -⟩
      · exact a
      · omega
    rw [if_pos q0, if_pos hr]
    exact ⟨_, k + 1, rfl, by omega, h1⟩
  · have hq0 : 0 < eQ g := by
      rcases Nat.eq_zero_or_pos (eQ g) with z | z
      · exact absurd (by rw [qa_eq, qa_0]; omega) q0
      · exact z
    rw [if_neg q0]
    rcases ho with ⟨z, -, -⟩ | ⟨p, hp, hr, hm, hmax⟩
    · omega
    obtain ⟨F2, es, h2, n2, b2, i2⟩ := sv_G1 h1
    have es : fL_save 1 (gT F t) = some (0, F2) := by
      unfold fL_save
      rw [es]
      rfl
    obtain ⟨v1, v2, v3⟩ := G.2.2.2.2.1 p hp
    have hr0 : 0 ≤ r := by
      rw [hr, qa_le, qa_0]
      exact v1
    obtain ⟨F3, r3, ew, h3, hr3, a3, b3, i3⟩ := wv_G h2 hp
    have ew : fL_wave r F2 = some (r3, F3) := by
      rw [hr]
      exact ew
    obtain ⟨t4, eb⟩ := bo_G h3 (n := 1 + d) (by omega) (by omega) (by omega) hx
    have eb : fL_boardIn (1 + nI d) F3 = some (bfV g (1 + d) p, gT F3 t4) := eb
    have h4 : FG B (gT F3 t4) (rtQ g 41 p) := h3.T t4
    obtain ⟨qe, ne⟩ := rtQ_eQ (g := g) (p := p) (by omega)
    have e41 : rtQ g 41 p 41 = r := by
      rw [hr]
      have := rtQ_i g 41 (p := p) (i := 0)
      rw [Nat.add_zero] at this
      rw [this]
      rfl
    have eq4 : fX9_queued 0 (gT F3 t4) = some r := by
      have := qu_in h4 (x := 0) (i := 0) (by decide) (by rw [qe]; exact hq0)
      rw [Nat.add_zero, e41] at this
      exact this
    obtain ⟨F5, er, h5, b5, i5⟩ := re_G1 h4 (g0 := g) (B0 := B) (by show eRel (fB F3) g; rw [b3]; exact b2) h.2.1 (by show fI F3 1 = 1; rw [i3]; exact i2)
    have er : fL_restore 1 (gT F3 t4) = some (0, F5) := by
      unfold fL_restore
      rw [er]
      rfl
    have e14 : g 14 = nI (eQ g) := (qa_nIx (by omega)).symm
    obtain ⟨e6, l6⟩ := dr_val (Y := Y) hN (k := k + 1) (n := eQ g) (by omega) hq0 (by omega) F5
    rw [← e14] at e6
    obtain ⟨d2, hd2⟩ : ∃ d2, d2 = drN Y (k + 1) (eQ g) := ⟨_, rfl⟩
    rw [← hd2] at e6 l6
    have eq5 := qu_in h5 (x := nI d2) (i := d2) (qa_nI (by omega)) l6
    obtain ⟨F6, r6, ew6, h6, hr6, a6, b6, i6⟩ := wv_G h5 l6
    have ew6 : fL_wave (g (41 + d2)) F5 = some (r6, F6) := ew6
    obtain ⟨t7, eb7⟩ := bo_G h6 (n := 1 + d) (by omega) (by omega) (by omega) hx
    have eb7 : fL_boardIn (1 + nI d) F6 = some (bfV g (1 + d) d2, gT F6 t7) := eb7
    have h7 : FG B (gT F6 t7) (rtQ g 41 d2) := h6.T t7
    obtain ⟨F8, er8, h8, b8, i8⟩ := re_G1 h7 (g0 := g) (B0 := B) (by show eRel (fB F6) g; rw [b6, b5]; show eRel (fB F3) g; rw [b3]; exact b2) h.2.1 (by show fI F6 1 = 1; rw [i6, i5]; show fI F3 1 = 1; rw [i3]; exact i2)
    have er8 : fL_restore 1 (gT F6 t7) = some (0, F8) := by
      unfold fL_restore
      rw [er8]
      rfl
    have hle : ¬ bfV g (1 + d) p < bfV g (1 + d) d2 := by
      have := hmax d2 l6
      rw [hm, qa_le] at this
      rw [qa_lt]
      omega
    have e92 : fL_best_b92 (1 + nI d) r (g 14) (bfV g (1 + d) p) Y (nI (k + 1)) (gT F3 t4) = some (1, nI (k + 1 + 1), F8) := by
      unfold fL_best_b92
      rw [eq4, qa_b, if_pos rfl, er, qa_b2, if_pos rfl, e6, qa_b2, eq5, qa_b, ew6, qa_b2, eb7, qa_b2, if_neg hle, er8, qa_b2, if_pos rfl]
    rw [es, qa_b2, if_pos rfl, if_pos hr0, ew, qa_b2, eb, qa_b2]
    refine ⟨F8, k + 1 + 1, ?_, by omega, h8⟩
    by_cases p0 : p = 0
    · rw [if_pos (by rw [hr3, if_pos p0]), e92]
    · rw [if_neg (by rw [hr3, if_neg p0, qa_eq, qa_nI (by omega)]; show ¬ (p : Int) = -2; omega), if_neg (by rw [hr3, if_neg p0, qa_lt, qa_nI (by omega), qa_1]; omega), e92]
