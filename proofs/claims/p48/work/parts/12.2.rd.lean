/-! p48, pure: what a ramp in the state g answers; wave, arrive, dismiss, unload, crank -/
theorem inb_n {x : Int32} {k n : Nat} (hx : x.toInt = (k : Int)) (hk : k < n) : inb x n = true := by
  unfold inb
  rw [hx]
  simp
  omega
theorem ct_G (F : FS) {x : Int32} {k : Nat} (hx : x.toInt = (k : Int)) (hk : k < 17) : hX9_count x F = some (sC (fN F) k) := by
  unfold hX9_count hX9_count_b0
  rw [if_neg (by rw [qa_eq, hx]; show ¬ (k : Int) = 17; omega), if_neg (by rw [qa_lt, hx, qa_0]; omega), if_pos (by rw [qa_le, hx]; show (k : Int) ≤ 17; omega), inb_n hx hk, qa_ix hx]
  rfl
theorem st_G (F : FS) {x : Int32} {k : Nat} (hx : x.toInt = (k : Int)) (hk : k < 14) : hX9_setting x F = some (sT (fN F) k) := by
  unfold hX9_setting hX9_setting_b0
  rw [if_neg (by rw [qa_lt, hx, qa_0]; omega), if_pos (by rw [qa_lt, hx]; show (k : Int) < 14; omega), inb_n hx hk, qa_ix hx]
  rfl
theorem stg_G {F : FS} {g : Nat → Int32} {B : Int} (h : FG B F g) {x : Int32} {k : Nat} (hx : x.toInt = (k : Int)) (hk : k < 14) : hX9_setting x F = some (g (15 + k)) := by
  rw [st_G F hx hk, h.1.1.2.1 k hk]
theorem kd_G {F : FS} {g : Nat → Int32} {B : Int} (h : FG B F g) {x y : Int32} {d k : Nat} (hx : x.toInt = (d : Int)) (hd : d < 4) (hy : y.toInt = (k : Int)) (hk : k < 3) : hX9_kind x y F = some (eK g d k) := by
  unfold hX9_kind hX9_kind_b0
  rw [if_neg (by rw [qa_lt, hx, qa_0]; omega), if_pos (by rw [qa_lt, hx, qa_4]; omega), if_neg (by rw [qa_lt, hy, qa_0]; omega), if_pos (by rw [qa_lt, hy, qa_3]; omega), sb_kindFact h.1.1 d k hx hd hy hk]
  rfl
theorem ca_G {F : FS} {g : Nat → Int32} {B : Int} (h : FG B F g) {x y : Int32} {c k : Nat} (hx : x.toInt = (c : Int)) (hc : c < eN g) (hy : y.toInt = (k : Int)) (hk : k < 7) : hX9_car x y F = some (eC g c k) := by
  have H := h.2.1.2.1.1
  have hn : (g 13).toInt = (eN g : Int) := H.n.1
  unfold hX9_car hX9_car_b0
  rw [if_neg (by rw [qa_lt, hx, qa_0]; omega), if_pos (by rw [qa_lt, hx, show sC (fN F) 3 = g 13 from h.1.1.1.2.2.1, hn]; omega), if_neg (by rw [qa_lt, hy, qa_0]; omega), if_pos (by rw [qa_lt, hy, qa_7]; omega), sb_carFact h.1.1 H c k hx hc hy hk]
  rfl
theorem qu_in {F : FS} {g : Nat → Int32} {B : Int} (h : FG B F g) {x : Int32} {i : Nat} (hx : x.toInt = (i : Int)) (hi : i < eQ g) : fX9_queued x F = some (g (41 + i)) := by
  have q14 := h.2.1.2.1.q
  unfold fX9_queued fX9_queued_b0
  rw [if_neg (by rw [qa_lt, hx, qa_0]; omega), if_neg (by rw [qa_le, hx, show sC (fN F) 1 = g 14 from h.1.1.1.2.1, q14.1]; omega), sc_at i hx (by omega) (by omega), h.1.1.2.2.2.1 i hi]
  rfl
theorem qu_out {F : FS} {g : Nat → Int32} {B : Int} (h : FG B F g) {x : Int32} (hx : x.toInt < 0 ∨ (eQ g : Int) ≤ x.toInt) : fX9_queued x F = some (-1) := by
  have q14 := h.2.1.2.1.q
  unfold fX9_queued fX9_queued_b0
  by_cases h0 : x.toInt < 0
  · rw [if_pos (by rw [qa_lt, qa_0]; exact h0)]
  · rw [if_neg (by rw [qa_lt, qa_0]; exact h0), if_pos (by rw [qa_le, show sC (fN F) 1 = g 14 from h.1.1.1.2.1, q14.1]; omega)]
theorem sn_in {F : FS} {g : Nat → Int32} {B : Int} (_h : FG B F g) {x y : Int32} {l d i : Nat} (hx : x.toInt = (l : Int)) (hl : l < 3) (hd : sD (fN F) l = nI d) (d1 : d ≤ 30) (hy : y.toInt = (i : Int)) (hi : i < d) : hX9_standing x y F = some (sO (fN F) (30 * l + i)) := by
  unfold hX9_standing hX9_standing_b0
  rw [if_neg (by rw [qa_lt, hx, qa_0]; omega), if_pos (by rw [qa_lt, hx, qa_3]; omega), sb_carIn (g := g) hx hl hd d1 hy hi]
  rfl
theorem sn_out {F : FS} {g : Nat → Int32} {B : Int} (_h : FG B F g) {x y : Int32} {l d : Nat} (hx : x.toInt = (l : Int)) (hl : l < 3) (hd : sD (fN F) l = nI d) (d1 : d ≤ 30) (hy : y.toInt < 0 ∨ (d : Int) ≤ y.toInt) : hX9_standing x y F = some (-1) := by
  unfold hX9_standing hX9_standing_b0
  rw [if_neg (by rw [qa_lt, hx, qa_0]; omega), if_pos (by rw [qa_lt, hx, qa_3]; omega), sb_carOut (g := g) hx hl hd d1 hy]
  rfl
theorem lnw_G {F : FS} {g : Nat → Int32} {B : Int} (h : FG B F g) {x : Int32} {l : Nat} (hx : x.toInt = (l : Int)) (hl : l < 3) : hX9_lane x 0 F = some (eW g (nI l)) := by
  unfold hX9_lane hX9_lane_b0
  rw [if_neg (by rw [qa_lt, hx, qa_0]; omega), if_pos (by rw [qa_lt, hx, qa_3]; omega), if_pos rfl, inb_n hx hl, qa_ix hx, (h.1.2.1.2.2 l hl).1]
  rfl
theorem lnf_G {F : FS} {g : Nat → Int32} {B : Int} (h : FG B F g) {x : Int32} {l : Nat} (hx : x.toInt = (l : Int)) (hl : l < 3) : hX9_lane x 1 F = some (g 21 - eL g (nI l)) := by
  unfold hX9_lane hX9_lane_b0
  rw [if_neg (by rw [qa_lt, hx, qa_0]; omega), if_pos (by rw [qa_lt, hx, qa_3]; omega), if_neg (by decide), inb_n hx hl, qa_ix hx, (h.1.2.1.2.2 l hl).2, h.1.1.2.1 6 (by omega)]
  rfl
theorem ti_G {F : FS} {g : Nat → Int32} {B : Int} (h : FG B F g) {t : Int32} (ht : 0 ≤ t.toInt) : hX9_tide t F = some (eT g t) := by
  unfold hX9_tide hX9_tide_b0
  rw [if_pos (by rw [qa_le, qa_0]; exact ht), sb_tideAt h.1.1 h.2.1.1 t]
  rfl
theorem de_G {F : FS} {g : Nat → Int32} {B : Int} (h : FG B F g) {t : Int32} (ht : 0 ≤ t.toInt) : hX9_deck t F = some (eV g t) := by
  unfold hX9_deck hX9_deck_b0
  rw [if_pos (by rw [qa_le, qa_0]; exact ht), sb_deckAt h.1.1 h.2.1.1 h.1.2.1.2.1 t]
  rfl
theorem sl_G {F : FS} {g : Nat → Int32} {B : Int} (h : FG B F g) : fX9_slope F = some (eP g) := by
  unfold fX9_slope fX9_slope_b0
  rw [h.1.2.2.2.2.1]
theorem lp_G {F : FS} {g : Nat → Int32} {B : Int} (h : FG B F g) : fX9_lip F = some (eI g) := by
  unfold fX9_lip fX9_lip_b0
  rw [h.1.2.2.2.2.2]
theorem li_G {F : FS} {g : Nat → Int32} {B : Int} (h : FG B F g) : fX9_list F = some (eW g 0 - eW g 2) := by
  unfold fX9_list fX9_list_b0
  rw [(h.1.2.1.2.2 0 (by omega)).1, (h.1.2.1.2.2 2 (by omega)).1]
  rfl
/-- a car of the queue has one place -/
theorem q_inj {g : Nat → Int32} (G : eG g) {i j : Nat} (hi : i < eQ g) (hj : j < eQ g) (e : g (41 + i) = g (41 + j)) : i = j := by
  rcases Nat.lt_trichotomy i j with h | h | h
  · exact absurd e (G.2.2.2.2.2.1 i j h hj)
  · exact h
  · exact absurd e.symm (G.2.2.2.2.2.1 j i h hi)
theorem q_car {g : Nat → Int32} (G : eG g) {p : Nat} (hp : p < eQ g) : ∃ c, c < eN g ∧ g (41 + p) = nI c ∧ eC g c 2 = 0 := by
  obtain ⟨h1, h2, h3⟩ := G.2.2.2.2.1 p hp
  exact ⟨ix (g (41 + p)), h2, (qa_nIx h1).symm, h3⟩
theorem wn_G {F : FS} {g : Nat → Int32} {B : Int} (h : FG B F g) {p c : Nat} (hp : p < eQ g) (hc : c < eN g) (e : g (41 + p) = nI c) : hX9_whyNot (nI c) F = some (eY g c) := by
  have G := h.2.1.2.1
  have q20 := G.q.2
  unfold hX9_whyNot hX9_whyNot_b0
  rw [sb_placeIn h.1.1 G hp e, qa_b, if_neg (by rw [qa_eq, qa_nI (by omega), qa_m1]; omega), sb_reason h.1.1 h.1.2.1 h.1.2.2.2 h.2.1.1 G c (qa_nI (by have := G.1.2.1; have := G.1.n; omega)) hc]
  rfl
theorem rtQ_0 (g : Nat → Int32) : rtQ g 41 0 = g := by
  unfold rtQ
  rw [mdQ_0]
  funext i
  by_cases h : i = 41
  · rw [h]
    exact pk_us
  · exact pk_un h
theorem neg_nI : -nI 1 = (-1 : Int32) ∧ -nI 2 = (-2 : Int32) ∧ -nI 3 = (-3 : Int32) ∧ -nI 4 = (-4 : Int32) := by decide
/-- wave, of a car of the queue -/
theorem wv_G {F : FS} {g : Nat → Int32} {B : Int} (h : FG B F g) {p : Nat} (hp : p < eQ g) : ∃ F' r, hX9_wave (g (41 + p)) F = some (r, F') ∧ FG B F' (rtQ g 41 p) ∧ (r = if p = 0 then (-2) else nI p) ∧ fA F' = fA F ∧ fB F' = fB F ∧ fI F' = fI F := by
  have G := h.2.1.2.1
  have q14 := G.q
  obtain ⟨c, hc, e, -⟩ := q_car G hp
  have hn60 : eN g ≤ 60 := by have := G.1.2.1; have := G.1.n; omega
  have hw : hX9_wave (g (41 + p)) F = bnd2 (fX9_doWave (g (41 + p)) F) (fun r22 u22 => some (r22, u22)) := by
    unfold hX9_wave hX9_wave_b0
    rw [e, if_neg (by rw [qa_lt, qa_nI (by omega), qa_0]; omega), if_pos (by rw [qa_lt, qa_nI (by omega)]; show (c : Int) < 60; omega)]
  rw [hw]
  unfold fX9_doWave fX9_doWave_b0
  rw [sb_placeIn h.1.1 G hp rfl, qa_b, if_neg (by rw [qa_eq, qa_nI (by omega), qa_m1]; omega)]
  by_cases h0 : p = 0
  · obtain ⟨F', e1, eN1, eX1, eY1, eP1, eH1⟩ := rf_G F (r := 2) (by omega) (by omega)
    have e1' : fX9_refuse 2 F = some ((-2), F') := by
      rw [show (-2 : Int32) = -nI 2 from by decide]
      exact e1
    rw [if_pos (by rw [h0]; rfl), e1']
    refine ⟨gO F (ix (nI 2)) (fO F (ix (nI 2)) + 1), (-2), ?_, ?_, by rw [if_pos h0], rfl, rfl, rfl⟩
    · have : F' = gO F (ix (nI 2)) (fO F (ix (nI 2)) + 1) := by
        have := e1
        unfold fX9_refuse fX9_refuse_b0 at this
        rw [if_neg (by decide), if_neg (by decide), show inb (nI 2) 5 = true from by decide] at this
        exact (congrArg Prod.snd (Option.some.inj this)).symm
      rw [this]
      rfl
    · rw [h0, rtQ_0]
      exact h
  · obtain ⟨F1, e1, eN1, eA1, eB1, eI1, eP1, x1, k1, hx1, hk1, ex1, ey1, -⟩ := ac_G h
    obtain ⟨R', I', -⟩ := wv_rel h.1 h.2.1 hp
    rw [if_neg (by rw [qa_eq, qa_nI (by omega), qa_0]; omega), e1, qa_b, eN1, sb_front q14.2 hp (by rw [show sC (fN F) 1 = g 14 from h.1.1.1.2.1, qa_eq, q14.1, qa_nI (by omega)])]
    refine ⟨gN F1 (wQA (fN F) (rtQ (sQ (fN F)) 0 p)), nI p, rfl, ⟨R', I', ⟨x1, k1 + 1, hx1, hk1, ex1, ey1⟩, ?_⟩, by rw [if_neg h0], eA1, eB1, eI1⟩
    obtain ⟨m, hm, em⟩ := h.2.2.2
    exact ⟨m, hm, by show pLe (fP F1) = _; rw [eP1]; exact em⟩
/-- arrive -/
theorem ar_G {F : FS} {g : Nat → Int32} {B : Int} (h : FG B F g) {k w : Int32} (k0 : 0 ≤ k.toInt) (k1 : k.toInt ≤ 3) (w0 : 1 ≤ w.toInt) (w1 : w.toInt ≤ 999) :
    ∃ F' r, hX9_arrive k w F = some (r, F') ∧ ((eN g = 60 ∧ r = (-1) ∧ FG B F' g) ∨ (eN g < 60 ∧ eQ g = 20 ∧ r = (-2) ∧ FG B F' g) ∨ (eN g < 60 ∧ eQ g < 20 ∧ r = nI (eN g) ∧ FG B F' (adG g (eN g) (eQ g) k w))) := by
  have G := h.2.1.2.1
  have q14 := G.q
  have hn : (g 13).toInt = (eN g : Int) := G.1.n.1
  have hn60 : eN g ≤ 60 := by have := G.1.2.1; omega
  have c3 : sC (fN F) 3 = g 13 := h.1.1.1.2.2.1
  have c1 : sC (fN F) 1 = g 14 := h.1.1.1.2.1
  have hw : hX9_arrive k w F = bnd2 (fX9_doArrive k w F) (fun r44 u44 => some (r44, u44)) := by
    unfold hX9_arrive hX9_arrive_b0
    rw [if_neg (by rw [qa_lt, qa_0]; omega), if_pos (by rw [qa_lt, qa_4]; omega), if_neg (by rw [qa_lt, qa_1]; omega), if_pos (by rw [qa_le]; show _ ≤ (999 : Int); omega)]
  rw [hw]
  unfold fX9_doArrive fX9_doArrive_b0
  rw [c3, c1]
  by_cases h1 : eN g < 60
  · rw [if_pos (by rw [qa_lt, hn]; show _ < (60 : Int); omega)]
    by_cases h2 : eQ g < 20
    · rw [if_pos (by rw [qa_lt, q14.1]; show _ < (20 : Int); omega)]
      obtain ⟨F1, e1, eN1, eA1, eB1, eI1, eP1, x1, k1', hx1, hk1, ex1, ey1, -⟩ := ac_G h
      have R := h.1
      obtain ⟨p1, p2, p3, p4, p5, p6, p7, p8⟩ := ad_rel R.1 R.2.1 R.2.2.1 h.2.1 h1 h2 k0 k1 w0 w1
      have R' : eRel (adU (fN F) (eN g) (eQ g) k w (g 0)) (adG g (eN g) (eQ g) k w) := by
        refine ⟨p1, p2, p3, ?_, ?_, ?_⟩
        · show sd (fN F) = _
          rw [p5, p8 0 (by omega) (by omega) (by omega)]
          exact R.2.2.2.1
        · show sp (fN F) = _
          unfold eP
          rw [p8 1 (by omega) (by omega) (by omega), p8 18 (by omega) (by omega) (by omega)]
          exact R.2.2.2.2.1
        · show si (fN F) = _
          unfold eI
          rw [p5, p8 0 (by omega) (by omega) (by omega), p8 1 (by omega) (by omega) (by omega)]
          exact R.2.2.2.2.2
      rw [e1, qa_b, eN1, ad_u h1 h2 (by rw [c3, qa_eq, hn, qa_nI (by omega)]) (by rw [c1, qa_eq, q14.1, qa_nI (by omega)])]
      rw [show sC (fN F) 0 = g 0 from h.1.1.1.1]
      refine ⟨_, _, rfl, Or.inr (Or.inr ⟨h1, h2, rfl, R', p4, ⟨x1, k1' + 1, hx1, hk1, ex1, ey1⟩, ?_⟩)⟩
      obtain ⟨m, hm, em⟩ := h.2.2.2
      exact ⟨m, hm, by show pLe (fP F1) = _; rw [eP1]; exact em⟩
    · obtain ⟨F', e1, eN1, eX1, eY1, eP1, eH1⟩ := rf_G F (r := 2) (by omega) (by omega)
      have e1' : fX9_refuse 2 F = some ((-2), F') := by
        rw [show (-2 : Int32) = -nI 2 from by decide]
        exact e1
      rw [if_neg (by rw [qa_lt, q14.1]; show ¬ _ < (20 : Int); omega), e1']
      exact ⟨F', _, rfl, Or.inr (Or.inl ⟨h1, by omega, rfl, h.rf eN1 eX1 eY1 eP1⟩)⟩
  · obtain ⟨F', e1, eN1, eX1, eY1, eP1, eH1⟩ := rf_G F (r := 1) (by omega) (by omega)
    have e1' : fX9_refuse 1 F = some ((-1), F') := by
      rw [show (-1 : Int32) = -nI 1 from by decide]
      exact e1
    rw [if_neg (by rw [qa_lt, hn]; show ¬ _ < (60 : Int); omega), e1']
    exact ⟨F', _, rfl, Or.inl ⟨by omega, rfl, h.rf eN1 eX1 eY1 eP1⟩⟩
/-- dismiss, of a car of the queue -/
theorem ds_G {F : FS} {g : Nat → Int32} {B : Int} (h : FG B F g) {p c : Nat} (hp : p < eQ g) (hc : c < eN g) (e : g (41 + p) = nI c) : ∃ F', hX9_dismiss (nI c) F = some (nI (eQ g - 1), F') ∧ FG B F' (dsG g p (eQ g) c) := by
  have G := h.2.1.2.1
  have q14 := G.q
  have hn60 : eN g ≤ 60 := by have := G.1.2.1; have := G.1.n; omega
  obtain ⟨F1, e1, eN1, eA1, eB1, eI1, eP1, x1, k1', hx1, hk1, ex1, ey1, -⟩ := ac_G h
  obtain ⟨R', I'⟩ := ds_rel h.1 h.2.1 hp hc e
  have cq : sC (fN F) 1 = nI (eQ g) := by rw [show sC (fN F) 1 = g 14 from h.1.1.1.2.1, qa_eq, q14.1, qa_nI (by omega)]
  refine ⟨gN (gN F1 (wC (wQA (fN F) (shQ (sQ (fN F)) p (eQ g - 1))) 1 (nI (eQ g - 1)))) (dsU (fN F) p (eQ g) c), ?_, R', I', ⟨x1, k1' + 1, hx1, hk1, ex1, ey1⟩, ?_⟩
  · unfold hX9_dismiss hX9_dismiss_b0
    rw [if_neg (by rw [qa_lt, qa_nI (by omega), qa_0]; omega), if_pos (by rw [qa_lt, qa_nI (by omega)]; show (c : Int) < 60; omega)]
    unfold fX9_doDismiss fX9_doDismiss_b0
    rw [sb_placeIn h.1.1 G hp e, qa_b, if_neg (by rw [qa_eq, qa_nI (by omega), qa_m1]; omega), e1, qa_b, eN1, sb_take q14.2 hp cq, qa_b, show fN (gN F1 (wC (wQA (fN F) (shQ (sQ (fN F)) p (eQ g - 1))) 1 (nI (eQ g - 1)))) = wC (wQA (fN F) (shQ (sQ (fN F)) p (eQ g - 1))) 1 (nI (eQ g - 1)) from rfl, sb_setCar c 2 (qa_nI (by omega)) (by omega) qa_2 (by omega)]
    show some (sC (dsU (fN F) p (eQ g) c) 1, _) = _
    rw [show sC (dsU (fN F) p (eQ g) c) 1 = nI (eQ g - 1) by unfold dsU; simp only [qs_C, pk_us]]
    rfl
  · obtain ⟨m, hm, em⟩ := h.2.2.2
    exact ⟨m, hm, by show pLe (fP F1) = _; rw [eP1]; exact em⟩
/-- crank -/
theorem cr_G {F : FS} {g : Nat → Int32} {B : Int} (h : FG B F g) (hB : B + 20 ≤ 100000000) {a : Int32} (a0 : -20 ≤ a.toInt) (a1 : a.toInt ≤ 20) :
    ∃ F' r, hX9_crank a F = some (r, F') ∧ ((a = 0 ∧ r = (-1) ∧ FG B F' g) ∨ (¬ a = 0 ∧ ¬ g 4 = (-1) ∧ r = (-2) ∧ FG B F' g) ∨ (¬ a = 0 ∧ g 4 = (-1) ∧ r = eI (upd g 1 (g 1 + a)) ∧ FG (B + 20) F' (upd g 1 (g 1 + a)))) := by
  have c8 : sC (fN F) 8 = g 4 := h.1.1.1.2.2.2.2.2.2.1
  have hw : hX9_crank a F = bnd2 (fX9_doCrank a F) (fun r24 u24 => some (r24, u24)) := by
    unfold hX9_crank hX9_crank_b0
    rw [if_neg (by rw [qa_lt]; show ¬ _ < (-20 : Int); omega), if_pos (by rw [qa_le]; show _ ≤ (20 : Int); omega)]
  rw [hw]
  unfold fX9_doCrank fX9_doCrank_b0
  rw [c8]
  by_cases h0 : a = 0
  · obtain ⟨F', e1, eN1, eX1, eY1, eP1, eH1⟩ := rf_G F (r := 1) (by omega) (by omega)
    have e1' : fX9_refuse 1 F = some ((-1), F') := by
      rw [show (-1 : Int32) = -nI 1 from by decide]
      exact e1
    rw [if_pos h0, e1']
    exact ⟨F', _, rfl, Or.inl ⟨h0, rfl, h.rf eN1 eX1 eY1 eP1⟩⟩
  · rw [if_neg h0]
    by_cases h4 : g 4 = (-1)
    · obtain ⟨F1, e1, eN1, eA1, eB1, eI1, eP1, x1, k1', hx1, hk1, ex1, ey1, -⟩ := ac_G h
      obtain ⟨u', eu, R', I'⟩ := ck_rel h.1 h.2.1 hB a0 a1
      rw [if_pos h4, e1, qa_b, eN1, show fN (gN F1 (wC (fN F) 4 (sC (fN F) 4 + a))) = wC (fN F) 4 (sC (fN F) 4 + a) from rfl, eu]
      refine ⟨gN (gN F1 (wC (fN F) 4 (sC (fN F) 4 + a))) u', si u', rfl, Or.inr (Or.inr ⟨h0, h4, R'.2.2.2.2.2, R', I', ⟨x1, k1' + 1, hx1, hk1, ex1, ey1⟩, ?_⟩)⟩
      obtain ⟨m, hm, em⟩ := h.2.2.2
      exact ⟨m, hm, by show pLe (fP F1) = _; rw [eP1]; exact em⟩
    · obtain ⟨F', e1, eN1, eX1, eY1, eP1, eH1⟩ := rf_G F (r := 2) (by omega) (by omega)
      have e1' : fX9_refuse 2 F = some ((-2), F') := by
        rw [show (-2 : Int32) = -nI 2 from by decide]
        exact e1
      rw [if_neg h4, e1']
      exact ⟨F', _, rfl, Or.inr (Or.inl ⟨h0, h4, rfl, h.rf eN1 eX1 eY1 eP1⟩)⟩
theorem hQ_N' (F : FS) (u : KS) (i : Nat) : hQ (fH (gN F u)) i = hQ (fH F) i := by
  unfold hQ
  split <;> rfl
/-- unload -/
theorem ul_G {F : FS} {g : Nat → Int32} {B : Int} (h : FG B F g) {l : Nat} (hl : l < 3) {x : Int32} (hx : x.toInt = (l : Int)) :
    ∃ F' r, hX9_unload x F = some (r, F') ∧ ((r = (-1) ∧ sD (fN F) l = 0 ∧ FG B F' g ∧ sD (fN F') l = 0) ∨ (r = (-2) ∧ ¬ g 4 = (-1) ∧ FG B F' g) ∨ ((r = (-3) ∨ r = (-4)) ∧ FG B F' g ∧ ∃ d, d + 1 ≤ 30 ∧ sD (fN F') l = nI (d + 1)) ∨
      (∃ d c, d + 1 ≤ 30 ∧ sD (fN F) l = nI (d + 1) ∧ c = eX (fN F) l d ∧ c < eN g ∧ eAt g (nI l) c ∧ r = nI c ∧ g 4 = (-1) ∧ FG B F' (ulG g c) ∧
        ∃ x k, x < 8 ∧ k + 1 ≤ 8 ∧ fX F' = nI x ∧ fY F' = nI (k + 1) ∧ eRel (hQ (fH F') ((x + 7) % 8)) g)) := by
  have G := h.2.1.2.1
  have c8 : sC (fN F) 8 = g 4 := h.1.1.1.2.2.2.2.2.2.1
  have ex : x = nI l := by rw [qa_eq, hx, qa_nI (by omega)]
  have hw : hX9_unload x F = bnd2 (fX9_doUnload x F) (fun r21 u21 => some (r21, u21)) := by
    unfold hX9_unload hX9_unload_b0
    rw [if_neg (by rw [qa_lt, hx, qa_0]; omega), if_pos (by rw [qa_lt, hx, qa_3]; omega)]
  rw [hw]
  obtain ⟨d, d1, d2, d3, d4, d5, d6⟩ := h.1.2.2.1 l hl
  have hn60 : eN g ≤ 60 := by have := G.1.2.1; have := G.1.n; omega
  have dI : (nI d - 1).toInt = (d : Int) - 1 := by rw [qa_sub (by rw [qa_nI (by omega), qa_1]; omega) (by rw [qa_nI (by omega), qa_1]; omega), qa_nI (by omega), qa_1]
  have hlast : fX8_lastOnDeck x (fN F) = fX8_carOnDeck x (sD (fN F) l - 1) (fN F) := by
    unfold fX8_lastOnDeck fX8_lastOnDeck_b0
    first
      | (rw [if_neg (by rw [qa_lt, hx, qa_0]; omega), if_pos (by rw [qa_lt, hx, qa_3]; omega), inb_n hx hl, qa_ix hx]
         cases fX8_carOnDeck x (sD (fN F) l - 1) (fN F) <;> rfl)
      | (rw [if_neg (by rw [qa_lt, hx, qa_0]; omega), if_neg (by rw [qa_le, hx, qa_3]; omega), inb_n hx hl, qa_ix hx]
         cases fX8_carOnDeck x (sD (fN F) l - 1) (fN F) <;> rfl)
  unfold fX9_doUnload fX9_doUnload_b0
  rw [hlast, d2]
  by_cases h0 : d = 0
  · obtain ⟨F', e1, eN1, eX1, eY1, eP1, eH1⟩ := rf_G F (r := 1) (by omega) (by omega)
    have e1' : fX9_refuse 1 F = some ((-1), F') := by
      rw [show (-1 : Int32) = -nI 1 from by decide]
      exact e1
    rw [sb_carOut (g := g) hx hl d2 d1 (Or.inl (by rw [dI]; omega)), qa_b, if_pos rfl, e1']
    exact ⟨F', _, rfl, Or.inl ⟨rfl, by rw [h0]; rfl, h.rf eN1 eX1 eY1 eP1, by rw [eN1, d2, h0]; rfl⟩⟩
  · obtain ⟨d, rfl⟩ : ∃ q, d = q + 1 := ⟨d - 1, by omega⟩
    obtain ⟨o1', o2', o3', -⟩ := d4 d (by omega)
    rw [sb_carIn (g := g) hx hl d2 d1 (i := d) (by rw [dI]; omega) (by omega), qa_b, o1', if_neg (by rw [qa_eq, qa_nI (by omega), qa_m1]; omega), c8]
    by_cases h4 : g 4 = (-1)
    · rw [if_pos h4, sb_carKind h.1.1 G.1 (eX (fN F) l d) 0 (qa_nI (by omega)) o2' qa_0 (by omega), qa_b]
      by_cases hs : sp (fN F) ≤ eO g (eX (fN F) l d) 0
      · rw [if_pos hs, sb_carKind h.1.1 G.1 (eX (fN F) l d) 1 (qa_nI (by omega)) o2' qa_1 (by omega), qa_b]
        by_cases ht : si (fN F) ≤ eO g (eX (fN F) l d) 1
        · obtain ⟨F1, e1, eN1, eA1, eB1, eI1, eP1, x1, k1', hx1, hk1, ex1, ey1, hqr⟩ := ac_G h
          obtain ⟨u', eu, R', I', -, -⟩ := ul_rel h.1 h.2.1 h4 hl d2 d1
          rw [if_pos ht, e1, qa_b, eN1, ex, eu]
          refine ⟨gN F1 u', nI (eX (fN F) l d), rfl, Or.inr (Or.inr (Or.inr ⟨d, eX (fN F) l d, d1, rfl, rfl, o2', o3', rfl, h4, ⟨R', I', ⟨x1, k1' + 1, hx1, hk1, ex1, ey1⟩, ?_⟩, x1, k1', hx1, hk1, ex1, ey1, ?_⟩))⟩
          · obtain ⟨m, hm, em⟩ := h.2.2.2
            exact ⟨m, hm, by show pLe (fP F1) = _; rw [eP1]; exact em⟩
          · rw [hQ_N']
            exact hqr
        · obtain ⟨F', e1, eN1, eX1, eY1, eP1, eH1⟩ := rf_G F (r := 4) (by omega) (by omega)
          have e1' : fX9_refuse 4 F = some ((-4), F') := by
            rw [show (-4 : Int32) = -nI 4 from by decide]
            exact e1
          rw [if_neg ht, e1']
          exact ⟨F', _, rfl, Or.inr (Or.inr (Or.inl ⟨Or.inr rfl, h.rf eN1 eX1 eY1 eP1, d, d1, by rw [eN1, d2]⟩))⟩
      · obtain ⟨F', e1, eN1, eX1, eY1, eP1, eH1⟩ := rf_G F (r := 3) (by omega) (by omega)
        have e1' : fX9_refuse 3 F = some ((-3), F') := by
          rw [show (-3 : Int32) = -nI 3 from by decide]
          exact e1
        rw [if_neg hs, e1']
        exact ⟨F', _, rfl, Or.inr (Or.inr (Or.inl ⟨Or.inl rfl, h.rf eN1 eX1 eY1 eP1, d, d1, by rw [eN1, d2]⟩))⟩
    · obtain ⟨F', e1, eN1, eX1, eY1, eP1, eH1⟩ := rf_G F (r := 2) (by omega) (by omega)
      have e1' : fX9_refuse 2 F = some ((-2), F') := by
        rw [show (-2 : Int32) = -nI 2 from by decide]
        exact e1
      rw [if_neg h4, e1']
      exact ⟨F', _, rfl, Or.inr (Or.inl ⟨rfl, h4, h.rf eN1 eX1 eY1 eP1⟩)⟩
