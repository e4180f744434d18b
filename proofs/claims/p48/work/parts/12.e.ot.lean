/-! p48, pure: the law's others says yes -/
theorem ds_Ld {g : Nat → Int32} (G : eG g) {p c : Nat} (hp : p < eQ g) (hc : c < eN g) (e : g (41 + p) = nI c) : eLd (dsG g p (eQ g) c) = eLd g ∧ eC (dsG g p (eQ g) c) c 2 = 4 ∧ eN (dsG g p (eQ g) c) = eN g := by
  have hn := G.1.n
  have hq := G.q
  have hq20 : eQ g ≤ 20 := by omega
  have x2 : eC g c 2 = 0 := by
    have := (G.2.2.2.2.1 p hp).2.2
    rw [e, qa_ixn (by omega)] at this
    exact this
  have hN : eN (dsG g p (eQ g) c) = eN g := by
    unfold eN
    rw [show dsG g p (eQ g) c 13 = g 13 from (pk_un (by omega)).trans (lvG_oth g (Or.inl (by omega)) (by omega) hq20 hp)]
  have Co : ∀ j k, j < eN g → (j ≠ c ∨ k ≠ 2) → k < 7 → eC (dsG g p (eQ g) c) j k = eC g j k := fun j k hj hjc hk => (pk_un (by omega)).trans (lvG_oth g (Or.inr (by omega)) (by omega) hq20 hp)
  have c2 : eC (dsG g p (eQ g) c) c 2 = 4 := pk_us
  refine ⟨?_, c2, hN⟩
  unfold eLd
  rw [hN]
  refine sI_same hc (fun j hj hjc => ?_) ?_
  · unfold eWd
    rw [Co j 2 hj (Or.inl hjc) (by omega), Co j 1 hj (Or.inl hjc) (by omega)]
  · unfold eWd
    rw [c2, x2, if_neg (by decide), if_neg (by decide)]
theorem ul_Ld {g : Nat → Int32} (G : eG g) {c : Nat} (hc : c < eN g) (x2 : eC g c 2 = 2) : eLd (ulG g c) = eLd g - eC g c 1 ∧ eC (ulG g c) c 2 = 3 ∧ eN (ulG g c) = eN g ∧ ∀ k, k < 7 → k ≠ 2 → eC (ulG g c) c k = eC g c k := by
  have hn := G.1.n
  have hN : eN (ulG g c) = eN g := by
    unfold eN
    rw [show ulG g c 13 = g 13 from (pk_un (by omega)).trans (pk_un (by omega))]
  have Co : ∀ j k, j < eN g → (j ≠ c ∨ k ≠ 2) → k < 7 → eC (ulG g c) j k = eC g j k := fun j k hj hjc hk => (pk_un (by omega)).trans (pk_un (by omega))
  have c2 : eC (ulG g c) c 2 = 3 := (pk_un (by omega)).trans pk_us
  refine ⟨?_, c2, hN, fun k hk h2 => Co c k hc (Or.inr h2) hk⟩
  unfold eLd
  have hdn := sI_dn (f := eWd g) (f' := eWd (ulG g c)) hc (fun j hj hjc => by unfold eWd; rw [Co j 2 hj (Or.inl hjc) (by omega), Co j 1 hj (Or.inl hjc) (by omega)]) (by unfold eWd; rw [c2, if_neg (by decide)])
  rw [hN, hdn]
  congr 1
  unfold eWd
  rw [x2, if_pos rfl]
theorem ot_L {F : FS} {g : Nat → Int32} {B : Int} (h : FG B F g) (P : PX g) (hB : B + 1000 ≤ 100000000) {Y : YB} (hN : Y.2.2.1 < 2147483648) {k : Nat} (hk : k < 900000) : ∃ F' k1 g', fL_others Y (nI k) F = some (1, nI k1, F') ∧ k1 ≤ k + 40 ∧ FG (B + 60) F' g' ∧ PX g' := by
  have S := h.2.1.1
  have G := h.2.1.2.1
  have Z := h.2.1.2.2
  have hq := G.q
  have hn := G.1.n
  have D : ∀ (j n : Nat) (u : FS), j < 900010 → 0 < n → n < 1000 → fL_draw (nI n) Y (nI j) u = some (nI (drN Y j n), nI (j + 1)) ∧ drN Y j n < n := fun j n u hj h0 h1 => dr_val hN (by omega) h0 (by omega) u
  obtain ⟨e1, l1⟩ := D k 150 F (by omega) (by decide) (by decide)
  have e1 : fL_draw 150 Y (nI k) F = some (nI (drN Y k 150), nI (k + 1)) := e1
  obtain ⟨e2, l2⟩ := D (k + 1) 4 F (by omega) (by decide) (by decide)
  have e2 : fL_draw 4 Y (nI (k + 1)) F = some (nI (drN Y (k + 1) 4), nI (k + 1 + 1)) := e2
  obtain ⟨e3, l3⟩ := D (k + 1 + 1) 3 F (by omega) (by decide) (by decide)
  have e3 : fL_draw 3 Y (nI (k + 1 + 1)) F = some (nI (drN Y (k + 1 + 1) 3), nI (k + 1 + 1 + 1)) := e3
  obtain ⟨e4, l4⟩ := D (k + 1 + 1 + 1) 5 F (by omega) (by decide) (by decide)
  have e4 : fL_draw 5 Y (nI (k + 1 + 1 + 1)) F = some (nI (drN Y (k + 1 + 1 + 1) 5), nI (k + 1 + 1 + 1 + 1)) := e4
  obtain ⟨d1, hd1⟩ : ∃ d, d = drN Y k 150 := ⟨_, rfl⟩
  obtain ⟨d2, hd2⟩ : ∃ d, d = drN Y (k + 1) 4 := ⟨_, rfl⟩
  obtain ⟨d3, hd3⟩ : ∃ d, d = drN Y (k + 1 + 1) 3 := ⟨_, rfl⟩
  obtain ⟨d4, hd4⟩ : ∃ d, d = drN Y (k + 1 + 1 + 1) 5 := ⟨_, rfl⟩
  rw [← hd1] at e1 l1
  rw [← hd2] at e2 l2
  rw [← hd3] at e3 l3
  rw [← hd4] at e4 l4
  have m60 : ∀ {F' : FS} {g' : Nat → Int32} {B' : Int}, FG B' F' g' → B' ≤ B + 60 → FG (B + 60) F' g' := fun hf hb => hf.mono hb (by omega)
  have i41 : (60 : Int32).toInt = 60 := by decide
  have i42 : (20 : Int32).toInt = 20 := by decide
  -- a car comes
  have arr : ∃ F' g', bnd2 (fL_arrive (nI d2) (1 + nI d1) F) (fun r95 u95 => (if 0 ≤ r95 then (if r95 = g 13 then bnd (fL_count 1 u95) (fun r151 => (if r151 = (g 14 + 1) then bnd (fX9_queued (g 14) u95) (fun r165 => (if r165 = r95 then bnd (fL_car r95 4 u95) (fun r180 => bnd (fL_count 0 u95) (fun r188 => (if r180 = r188 then bnd (fL_whyNot r95 u95) (fun r200 => (if r200 < 0 then some ((0 : Int32), (nI (k + 1 + 1 + 1 + 1), u95)) else some (1, (nI (k + 1 + 1 + 1 + 1), u95)))) else some (0, (nI (k + 1 + 1 + 1 + 1), u95))))) else some (0, (nI (k + 1 + 1 + 1 + 1), u95)))) else some (0, (nI (k + 1 + 1 + 1 + 1), u95)))) else some (0, (nI (k + 1 + 1 + 1 + 1), u95))) else (if g 13 = 60 then fL_others_b119 (g 14) (g 13) r95 (-1) Y (nI (k + 1 + 1 + 1 + 1)) u95 else fL_others_b119 (g 14) (g 13) r95 (-2) Y (nI (k + 1 + 1 + 1 + 1)) u95))) = some (1, nI (k + 1 + 1 + 1 + 1), F') ∧ FG (B + 60) F' g' ∧ PX g' := by
    have hw : ((1 : Int32) + nI d1).toInt = ((1 + d1 : Nat) : Int) := by rw [d_1, qa_nI (by omega)]
    obtain ⟨F', r, ea, hr⟩ := ar_G h (k := nI d2) (w := 1 + nI d1) (by rw [qa_nI (by omega)]; omega) (by rw [qa_nI (by omega)]; omega) (by omega) (by omega)
    have ea : fL_arrive (nI d2) (1 + nI d1) F = some (r, F') := ea
    rw [ea, qa_b2]
    rcases hr with ⟨a, b, c⟩ | ⟨a, a', b, c⟩ | ⟨a, a', b, c⟩
    · have e60 : g 13 = 60 := by rw [qa_eq, i41]; omega
      refine ⟨F', g, ?_, m60 c (by omega), P⟩
      rw [if_neg (by rw [b]; decide), if_pos e60]
      unfold fL_others_b119
      rw [if_pos b, if_pos e60]
    · have e60 : ¬ g 13 = 60 := by rw [qa_eq, i41]; omega
      have e20 : g 14 = 20 := by rw [qa_eq, i42]; omega
      refine ⟨F', g, ?_, m60 c (by omega), P⟩
      rw [if_neg (by rw [b]; decide), if_neg e60]
      unfold fL_others_b119
      rw [if_pos b, if_neg e60, if_pos e20]
    · have P' := PX.ar G a a' (nI d2) (1 + nI d1) P
      have G' := c.2.1.2.1
      have e13 : g 13 = nI (eN g) := (qa_nIx (by omega)).symm
      have e14 : g 14 = nI (eQ g) := (qa_nIx (by omega)).symm
      have v14 : adG g (eN g) (eQ g) (nI d2) (1 + nI d1) 14 = nI (eQ g + 1) := by
        unfold adG
        exact pk_us
      have vQ : eQ (adG g (eN g) (eQ g) (nI d2) (1 + nI d1)) = eQ g + 1 := by
        show ix (adG g (eN g) (eQ g) (nI d2) (1 + nI d1) 14) = _
        rw [v14, qa_ixn (by omega)]
      have v13 : adG g (eN g) (eQ g) (nI d2) (1 + nI d1) 13 = nI (eN g + 1) := by
        unfold adG
        rw [pk_un (by omega), pk_un (by omega), pk_un (by omega), pk_un (by omega), pk_un (by omega), pk_un (by omega), pk_un (by omega), pk_un (by omega), pk_un (by omega), pk_us]
      have vN : eN (adG g (eN g) (eQ g) (nI d2) (1 + nI d1)) = eN g + 1 := by
        show ix (adG g (eN g) (eQ g) (nI d2) (1 + nI d1) 13) = _
        rw [v13, qa_ixn (by omega)]
      have vq : adG g (eN g) (eQ g) (nI d2) (1 + nI d1) (41 + eQ g) = nI (eN g) := by
        unfold adG
        rw [pk_un (by omega), pk_us]
      have v4 : eC (adG g (eN g) (eQ g) (nI d2) (1 + nI d1)) (eN g) 4 = g 0 := by
        unfold adG eC
        rw [pk_un (by omega), pk_un (by omega), pk_un (by omega), pk_un (by omega), pk_us]
      have v0 : adG g (eN g) (eQ g) (nI d2) (1 + nI d1) 0 = g 0 := by
        unfold adG
        rw [pk_un (by omega), pk_un (by omega), pk_un (by omega), pk_un (by omega), pk_un (by omega), pk_un (by omega), pk_un (by omega), pk_un (by omega), pk_un (by omega), pk_un (by omega)]
      have q1 := qu_in c (x := g 14) (i := eQ g) (by omega) (by rw [vQ]; omega)
      rw [vq] at q1
      have c4 : fL_car (nI (eN g)) 4 F' = some (g 0) := by
        have := ca_G c (x := nI (eN g)) (y := 4) (c := eN g) (k := 4) (qa_nI (by omega)) (by rw [vN]; omega) (by decide) (by decide)
        rw [v4] at this
        exact this
      have c0 : fL_count 0 F' = some (g 0) := by rw [cn_0 c, v0]
      have wn : fL_whyNot (nI (eN g)) F' = some (eY (adG g (eN g) (eQ g) (nI d2) (1 + nI d1)) (eN g)) := wn_G c (p := eQ g) (by rw [vQ]; omega) (by rw [vN]; omega) vq
      have yr := eY_range (adG g (eN g) (eQ g) (nI d2) (1 + nI d1)) (eN g)
      refine ⟨F', _, ?_, m60 c (by omega), P'⟩
      rw [b, if_pos (by rw [qa_le, qa_0, qa_nI (by omega)]; omega), if_pos e13.symm, cn_1 c, qa_b, if_pos (by rw [v14, e14, nI_1]), q1, qa_b, if_pos rfl, c4, qa_b, c0, qa_b, if_pos rfl, wn, qa_b, if_neg (by rw [qa_lt, qa_0]; omega)]
  unfold fL_others fL_others_b0
  rw [cn_1 h, qa_b, cn_3 h, qa_b, e1, qa_b2, e2, qa_b2, e3, qa_b2, cn_7 h, qa_b, e4, qa_b2]
  have hdI := qa_nI (n := d4) (by omega)
  by_cases z0 : nI d4 = 0
  · obtain ⟨F', g', r1, r2, r3⟩ := arr
    rw [if_pos z0]
    exact ⟨F', k + 1 + 1 + 1 + 1, g', r1, by omega, r2, r3⟩
  rw [if_neg z0]
  by_cases z1 : nI d4 = 1
  · obtain ⟨F', g', r1, r2, r3⟩ := arr
    rw [if_pos z1]
    exact ⟨F', k + 1 + 1 + 1 + 1, g', r1, by omega, r2, r3⟩
  rw [if_neg z1]
  by_cases z2 : nI d4 = 2
  · rw [if_pos z2]
    have hlI := qa_nI (n := d3) (by omega)
    obtain ⟨F', r, eu, hr⟩ := ul_G h (l := d3) l3 (x := nI d3) hlI
    have eu : fL_unload (nI d3) F = some (r, F') := eu
    rw [eu, qa_b2]
    rcases hr with ⟨b, s0, c, s1⟩ | ⟨b, n4, c⟩ | ⟨b, c, d, dd, s1⟩ | ⟨d, c, dd, s1, ec, hc, at', b, h4, c', x, kk, hx, hkk, ex, ey, hqr⟩
    · have st : fL_standing (nI d3) 0 F' = some (-1) := sn_out c hlI l3 (d := 0) s1 (by omega) (Or.inr (by decide))
      rw [if_neg (by rw [b]; decide), if_pos b, st, qa_b, if_pos rfl]
      exact ⟨F', _, g, rfl, by omega, m60 c (by omega), P⟩
    · have x0 := (G.2.2.1.resolve_left n4).1
      rw [if_neg (by rw [b]; decide), if_neg (by rw [b]; decide), if_pos b, cn_8 c, qa_b, if_neg (by rw [qa_lt, qa_0]; omega)]
      exact ⟨F', _, g, rfl, by omega, m60 c (by omega), P⟩
    · obtain ⟨d', d1', d2', d3', d4', d5', d6'⟩ := c.1.2.2.1 d3 l3
      have ed : d' = d + 1 := (nI_eq (by omega) (by omega)).mp (d2'.symm.trans s1)
      obtain ⟨o1, o2, -⟩ := d4' 0 (by omega)
      have st : fL_standing (nI d3) 0 F' = some (nI (eX (fN F') d3 0)) := by
        have := sn_in c (x := nI d3) (y := 0) (l := d3) (i := 0) hlI l3 d2' d1' (by decide) (by omega)
        rw [o1] at this
        exact this
      have nb : ¬ 0 ≤ r ∧ ¬ r = (-1) ∧ ¬ r = (-2) := by
        rcases b with q | q
        · rw [q]
          decide
        · rw [q]
          decide
      rw [if_neg nb.1, if_neg nb.2.1, if_neg nb.2.2, st, qa_b, if_neg (by rw [qa_lt, qa_0, qa_nI (by omega)]; omega)]
      exact ⟨F', _, g, rfl, by omega, m60 c (by omega), P⟩
    · have hc60 : c < 60 := by omega
      obtain ⟨w1, w2, w3, w4⟩ := ul_Ld G hc at'.1
      have hcI := qa_nI (n := c) (by omega)
      have P' := PX.ul G h4 hc at'.1 P
      have cc : ∀ j : Nat, j < 7 → ∀ y : Int32, y.toInt = (j : Int) → fL_car (nI c) y F' = some (eC (ulG g c) c j) := fun j hj y hy => ca_G c' hcI (by rw [w3]; exact hc) hy hj
      have c3 : fL_car (nI c) 3 F' = some (nI d3) := by rw [cc 3 (by decide) 3 (by decide), w4 3 (by decide) (by decide), at'.2]
      have c1 : fL_car (nI c) 1 F' = some (eC g c 1) := by rw [cc 1 (by decide) 1 (by decide), w4 1 (by decide) (by decide)]
      obtain ⟨e5, l5⟩ := D (k + 1 + 1 + 1 + 1) 2 F' (by omega) (by decide) (by decide)
      have e5 : fL_draw 2 Y (nI (k + 1 + 1 + 1 + 1)) F' = some (nI (drN Y (k + 1 + 1 + 1 + 1) 2), nI (k + 1 + 1 + 1 + 1 + 1)) := e5
      rw [b, if_pos (by rw [qa_le, qa_0, hcI]; omega), cc 2 (by decide) 2 (by decide), qa_b, if_pos w2, c3, qa_b, if_pos rfl, cn_7 c', qa_b, c1, qa_b, if_pos w1, e5, qa_b2]
      by_cases z5 : nI (drN Y (k + 1 + 1 + 1 + 1) 2) = 0
      · rw [if_pos z5]
        exact ⟨F', _, _, rfl, by omega, m60 c' (by omega), P'⟩
      · obtain ⟨F2, e6, R2, H2, p2, -⟩ := un_G hx hkk ex ey hqr G
        have h2 : FG B F2 g := ⟨R2, h.2.1, H2, by obtain ⟨m, hm, em⟩ := c'.2.2.2; exact ⟨m, hm, by rw [p2]; exact em⟩⟩
        have c2 : fL_car (nI c) 2 F2 = some (eC g c 2) := ca_G h2 hcI hc (y := 2) (k := 2) (by decide) (by decide)
        rw [if_neg z5, e6, qa_b2, if_neg (by rw [qa_lt, qa_0, qa_nI (by omega)]; omega), cn_7 h2, qa_b, if_pos rfl, c2, qa_b, if_pos at'.1]
        exact ⟨F2, _, g, rfl, by omega, m60 h2 (by omega), P⟩
  rw [if_neg z2]
  by_cases z3 : nI d4 = 3
  · rw [if_pos z3]
    obtain ⟨e5, l5⟩ := D (k + 1 + 1 + 1 + 1) 9 F (by omega) (by decide) (by decide)
    have e5 : fL_draw 9 Y (nI (k + 1 + 1 + 1 + 1)) F = some (nI (drN Y (k + 1 + 1 + 1 + 1) 9), nI (k + 1 + 1 + 1 + 1 + 1)) := e5
    obtain ⟨a, ha⟩ : ∃ a, a = nI (drN Y (k + 1 + 1 + 1 + 1) 9) - 4 := ⟨_, rfl⟩
    have haI : a.toInt = (drN Y (k + 1 + 1 + 1 + 1) 9 : Int) - 4 := by
      rw [ha, qa_sub (by rw [qa_nI (by omega), qa_4]; omega) (by rw [qa_nI (by omega), qa_4]; omega), qa_nI (by omega), qa_4]
    obtain ⟨F', r, ec, hr⟩ := cr_G h (by omega) (a := a) (by omega) (by omega)
    have ec : fL_crank a F = some (r, F') := ec
    rw [e5, qa_b2, cn_4 h, qa_b, ← ha, ec, qa_b2]
    rcases hr with ⟨q, b, c⟩ | ⟨q, n4, b, c⟩ | ⟨q, h4, b, c⟩
    · rw [if_neg (by rw [b]; decide), if_pos q]
      unfold fL_others_b457
      rw [if_pos b, cn_4 c, qa_b, if_pos rfl]
      exact ⟨F', _, g, rfl, by omega, m60 c (by omega), P⟩
    · rw [if_neg (by rw [b]; decide), if_neg q]
      unfold fL_others_b457
      rw [if_pos b, cn_4 c, qa_b, if_pos rfl]
      exact ⟨F', _, g, rfl, by omega, m60 c (by omega), P⟩
    · have r0 : 0 ≤ r := by
        have G' := c.2.1.2.1
        have S' := c.2.1.1
        have Z' := c.2.1.2.2
        obtain ⟨z1', z2', z3', z4', z5', z6', -⟩ := Z'
        have hv := eV_bnd S' G' z3'
        have := ab_le (x := upd g 1 (g 1 + a) 1) (D := eV (upd g 1 (g 1 + a)) (upd g 1 (g 1 + a) 0)) (by omega) (by omega) hv.1 hv.2
        rw [b, qa_le, qa_0]
        show 0 ≤ (ab (upd g 1 (g 1 + a) 1 - eV (upd g 1 (g 1 + a)) (upd g 1 (g 1 + a) 0))).toInt
        omega
      have e41 : upd g 1 (g 1 + a) 1 = g 1 + a := pk_us
      rw [if_pos r0, cn_4 c, qa_b, if_pos e41, lp_G c, qa_b, if_pos b]
      exact ⟨F', _, _, rfl, by omega, m60 c (by omega), PX.cr G _ P⟩
  rw [if_neg z3]
  by_cases q0 : g 14 = 0
  · rw [if_pos q0]
    exact ⟨F, _, g, rfl, by omega, m60 h (by omega), P⟩
  · have hq0 : 0 < eQ g := by
      rcases Nat.eq_zero_or_pos (eQ g) with z | z
      · exact absurd (by rw [qa_eq, qa_0]; omega) q0
      · exact z
    have e14 : g 14 = nI (eQ g) := (qa_nIx (by omega)).symm
    obtain ⟨e5, l5⟩ := D (k + 1 + 1 + 1 + 1) (eQ g) F (by omega) hq0 (by omega)
    rw [← e14] at e5
    obtain ⟨c, hc, ec, c20⟩ := q_car G l5
    have q5 := qu_in h (x := nI (drN Y (k + 1 + 1 + 1 + 1) (eQ g))) (qa_nI (by omega)) l5
    rw [ec] at q5
    obtain ⟨F', e6, h6⟩ := ds_G h l5 hc ec
    have e6 : fL_dismiss (nI c) F = some (nI (eQ g - 1), F') := e6
    obtain ⟨w1, w2, w3⟩ := ds_Ld G l5 hc ec
    have em : nI (eQ g - 1) = g 14 - 1 := by
      rw [e14]
      exact (pk_sub (a := eQ g) (b := 1) (by omega)).symm
    have c2 : fL_car (nI c) 2 F' = some 4 := by
      have := ca_G h6 (x := nI c) (y := 2) (c := c) (k := 2) (qa_nI (by omega)) (by rw [w3]; exact hc) (by decide) (by decide)
      rw [w2] at this
      exact this
    have c7 : fL_count 7 F' = some (eLd g) := by rw [cn_7 h6, w1]
    rw [if_neg q0, e5, qa_b2, q5, qa_b, e6, qa_b2, if_pos em, c2, qa_b, if_pos rfl, c7, qa_b, if_pos rfl]
    exact ⟨F', _, _, rfl, by omega, m60 h6 (by omega), PX.ds G l5 hc ec P⟩
