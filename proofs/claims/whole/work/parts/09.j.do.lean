/-! the acts -/
theorem hQ_N (F : FS) (u : KS) : hQ (fH (gN F u)) = hQ (fH F) := by
  funext i
  unfold hQ
  split <;> rfl
theorem eAll.mono {B B' : Int} {F : FS} {M : RS} (A : eAll B F M) (h : B ≤ B') (h' : B' ≤ 100000000) : eAll B' F M := by
  obtain ⟨a1, a2, ⟨x, k, hx, hk, ex, ey, em, hj⟩, ⟨b1, b2, b3⟩, a5, a6, a7⟩ := A
  exact ⟨a1, a2.mono h h', ⟨x, k, hx, hk, ex, ey, em, fun j q => ⟨(hj j q).1, (hj j q).2.mono h h'⟩⟩, ⟨b1, fun q => ⟨(b2 q).1, (b2 q).2.mono h h'⟩, fun q => ⟨(b3 q).1, (b3 q).2.mono h h'⟩⟩, a5, a6, a7⟩
theorem eAll.set {B : Int} {F : FS} {M : RS} (A : eAll B F M) {u : KS} {g : Nat → Int32} (R : eRel u g) (I : eInv B g) : eAll B (gN F u) (nStA M g) := by
  obtain ⟨a1, a2, ⟨x, k, hx, hk, ex, ey, em, hj⟩, a4, a5, a6, a7⟩ := A
  exact ⟨R, I, ⟨x, k, hx, hk, ex, ey, em, fun j q => by rw [hQ_N]; exact hj j q⟩, a4, a5, a6, a7⟩
theorem eKp.trans {F F1 F2 : FS} {M M1 M2 : RS} (h : eKp F F1 M M1) (h' : eKp F1 F2 M1 M2) : eKp F F2 M M2 := by
  obtain ⟨a, b, c, d⟩ := h
  obtain ⟨a', b', c', d'⟩ := h'
  exact ⟨a'.trans a, b'.trans b, c'.trans c, d'.trans d⟩
/-- an act that is done: behind the accept, a new state -/
theorem do_set {B : Int} {F F1 : FS} {M M1 : RS} (A1 : eAll B F1 M1) (K : eKp F F1 M M1) (h : B ≤ B + 400) (h' : B + 400 ≤ 100000000) {u : KS} {g : Nat → Int32} (R : eRel u g) (I : eInv (B + 400) g) : eAll (B + 400) (gN F1 u) (nStA M1 g) ∧ eKp F (gN F1 u) M (nStA M1 g) :=
  ⟨(A1.mono h h').set R I, K⟩
theorem do_refuse {B : Int} {F : FS} {M : RS} (A : eAll B F M) (h' : B + 400 ≤ 100000000) {r : Nat} (h1 : 1 ≤ r) (h4 : r ≤ 4) {x : Int32} (hx : x = nI r) : ∃ s F' M', bnd2 (fX9_refuse x F) (fun r16 u16 => some (r16, u16)) = some (s, F') ∧ bnd2 (fX10_refuse x M) (fun r16 u16 => some (r16, u16)) = some (s, M') ∧ eAll (B + 400) F' M' ∧ eKp F F' M M' := by
  obtain ⟨F', M', e1, e2, e3, e4⟩ := rf_sim A h1 h4 hx
  exact ⟨-x, F', M', by rw [e1, qa_b2], by rw [e2, qa_b2], e3.mono (by omega) h', e4⟩
theorem do_tick {B : Int} {F : FS} {M : RS} (A : eAll B F M) (h' : B + 400 ≤ 100000000) {x : Int32} {n : Nat} (hn : n ≤ 50) (hx : x.toInt = (n : Int)) : ∃ s F' M', fX9_doTick x F = some (s, F') ∧ fX10_tickIt x M = some (s, M') ∧ eAll (B + 400) F' M' ∧ eKp F F' M M' := by
  obtain ⟨F1, M1, c1, c2, A1, K, n1, s1⟩ := ac_sim A
  obtain ⟨r, u', g', p1, p2, p3, p4⟩ := ps_sim A1.1 A1.2.1 (by omega : n ≤ 200) h' hx
  obtain ⟨d1, d2⟩ := do_set A1 K (by omega) h' p3 (p4.mono (by omega) h')
  refine ⟨r, _, _, ?_, ?_, d1, d2⟩
  · unfold fX9_doTick fX9_doTick_b0
    rw [c1, qa_b, p1, qa_b2]
  · unfold fX10_tickIt fX10_tickIt_b0
    rw [c2, qa_b, p2, qa_b2]
theorem do_arrive {B : Int} {F : FS} {M : RS} (A : eAll B F M) (h' : B + 400 ≤ 100000000) {k w : Int32} (k0 : 0 ≤ k.toInt) (k1 : k.toInt ≤ 3) (w0 : 1 ≤ w.toInt) (w1 : w.toInt ≤ 999) : ∃ s F' M', fX9_doArrive k w F = some (s, F') ∧ fX10_arriveIt k w M = some (s, M') ∧ eAll (B + 400) F' M' ∧ eKp F F' M M' := by
  have R := A.1
  have G := A.2.1.2.1
  have hn := G.1.n
  have hq := G.q
  have c3 : sC (fN F) 3 = mSt M 13 := R.1.1.2.2.1
  have c1 : sC (fN F) 1 = mSt M 14 := R.1.1.2.1
  unfold fX9_doArrive fX9_doArrive_b0 fX10_arriveIt fX10_arriveIt_b0
  rw [c3, c1]
  have v60 : (60 : Int32).toInt = 60 := by decide
  have v20 : (20 : Int32).toInt = 20 := by decide
  by_cases q1 : mSt M 13 = 60
  · rw [if_neg (by rw [q1]; decide), if_pos q1]
    exact do_refuse A h' (r := 1) (by omega) (by omega) rfl
  · have q1' : (mSt M 13).toInt ≠ 60 := fun e => q1 (Int32.toInt_inj.mp (by rw [e, v60]))
    rw [if_pos (by rw [qa_lt, v60]; omega), if_neg q1]
    by_cases q2 : mSt M 14 = 20
    · rw [if_neg (by rw [q2]; decide), if_pos q2]
      exact do_refuse A h' (r := 2) (by omega) (by omega) rfl
    · have q2' : (mSt M 14).toInt ≠ 20 := fun e => q2 (Int32.toInt_inj.mp (by rw [e, v20]))
      rw [if_pos (by rw [qa_lt, v20]; omega), if_neg q2]
      obtain ⟨F1, M1, b1, b2, A1, K, n1, s1⟩ := ac_sim A
      have R1 := A1.1
      have I1 := A1.2.1
      have N1 : eN (mSt M1) < 60 := by rw [s1]; omega
      have Q1 : eQ (mSt M1) < 20 := by rw [s1]; omega
      obtain ⟨z1, z2, z3, z4, z5, z6, z7, z8⟩ := ad_rel R1.1 R1.2.1 R1.2.2.1 I1 N1 Q1 k0 k1 w0 w1
      have e3 : sC (fN F1) 3 = nI (eN (mSt M1)) := by
        rw [R1.1.1.2.2.1]
        exact (qa_nIx I1.2.1.1.1).symm
      have e1 : sC (fN F1) 1 = nI (eQ (mSt M1)) := by
        rw [R1.1.1.2.1]
        exact (qa_nIx I1.2.1.2.2.2.1.1).symm
      have hu := ad_u (u := fN F1) N1 Q1 e3 e1 k w
      have hg := ad_g (g := mSt M1) N1 Q1 (qa_nIx I1.2.1.1.1).symm (qa_nIx I1.2.1.2.2.2.1.1).symm k w
      rw [R1.1.1.1] at hu
      have RH' : eRH (adU (fN F1) (eN (mSt M1)) (eQ (mSt M1)) k w (mSt M1 0)) (adG (mSt M1) (eN (mSt M1)) (eQ (mSt M1)) k w) := by
        obtain ⟨r1, r2, r3⟩ := R1.2.2.2
        unfold eRH eP eI
        rw [z5, z8 0 (by omega) (by omega) (by omega), z8 1 (by omega) (by omega) (by omega), z8 18 (by omega) (by omega) (by omega)]
        exact ⟨r1, r2, r3⟩
      obtain ⟨d1, d2⟩ := do_set A1 K (by omega) h' (show eRel _ _ from ⟨z1, z2, z3, RH'⟩) (z4.mono (by omega) h')
      rw [b1, qa_b, hu, qa_b2, b2, qa_b, hg, qa_b2]
      exact ⟨_, _, _, rfl, rfl, d1, d2⟩
/-- the place of a car in the queue, or none -/
theorem q_place {g : Nat → Int32} (G : eG g) (x : Int32) : (∃ p c, p < eQ g ∧ c < eN g ∧ g (41 + p) = x ∧ x = nI c ∧ (∀ i, i < p → ¬ g (41 + i) = x) ∧ fX10_isQueued x g = some 1) ∨ ((∀ i, i < eQ g → ¬ g (41 + i) = x) ∧ fX10_isQueued x g = some 0) := by
  have hn := G.1.n
  have hq := G.q
  obtain ⟨g1, g2, g3, g4, g5, g6, g7, g8⟩ := id G
  have hb : fX10_isQueued x g = (if 0 ≤ x ∧ x ≤ g 13 - 1 then bnd (fX10_ofCar x 2 g) (fun r11 => (if r11 = 0 then some 1 else some 0)) else some 0) := by
    unfold fX10_isQueued fX10_isQueued_b0 fX10_isCar fX10_isCar_b0
    rw [rb_between, qa_b]
    by_cases e : 0 ≤ x ∧ x ≤ g 13 - 1
    · rw [if_pos e, if_pos e, qa_g (by decide), qa_b, if_neg (by decide)]
    · rw [if_neg e, if_neg e, qa_g (by decide), qa_b, if_pos rfl]
  have hs : (g 13 - 1).toInt = (g 13).toInt - 1 := by rw [qa_sub (by rw [qa_1]; omega) (by rw [qa_1]; omega), qa_1]
  by_cases e : 0 ≤ x ∧ x ≤ g 13 - 1
  · obtain ⟨e0, e1⟩ := e
    rw [qa_le, qa_0] at e0
    rw [qa_le, hs] at e1
    have hx := qa_ixI e0
    have hc : ix x < eN g := by omega
    rw [if_pos ⟨by rw [qa_le, qa_0]; exact e0, by rw [qa_le, hs]; exact e1⟩, rb_ofCar (ix x) 2 hx (by omega) qa_2 (by decide), qa_b] at hb
    by_cases w : eC g (ix x) 2 = 0
    · left
      rw [if_pos w] at hb
      obtain ⟨p, p1, p2⟩ := g7 (ix x) hc w
      rw [qa_nIx e0] at p2
      refine ⟨p, ix x, p1, hc, p2, (qa_nIx e0).symm, fun i hi h => ?_, hb⟩
      exact g6 i p hi p1 (by rw [h, p2])
    · right
      rw [if_neg w] at hb
      refine ⟨fun i hi h => w ?_, hb⟩
      have := (g5 i hi).2.2
      rw [h] at this
      exact this
  · right
    rw [if_neg e] at hb
    refine ⟨fun i hi h => e ?_, hb⟩
    obtain ⟨v1, v2, v3⟩ := g5 i hi
    rw [h] at v1 v2
    have hx := qa_ixI v1
    exact ⟨by rw [qa_le, qa_0]; exact v1, by rw [qa_le, hs]; omega⟩
theorem do_wave {B : Int} {F : FS} {M : RS} (A : eAll B F M) (h' : B + 400 ≤ 100000000) (x : Int32) : ∃ s F' M', fX9_doWave x F = some (s, F') ∧ fX10_waveIt x M = some (s, M') ∧ eAll (B + 400) F' M' ∧ eKp F F' M M' := by
  have R := A.1
  have G := A.2.1.2.1
  have hq := G.q
  unfold fX9_doWave fX9_doWave_b0 fX10_waveIt fX10_waveIt_b0
  rcases q_place G x with ⟨p, c, hp, hc, e1, e2, e3, e4⟩ | ⟨e1, e2⟩
  · have hpI := qa_nI (n := p) (by omega)
    rw [sb_placeIn R.1 G hp e1, qa_b, e4, qa_b, if_neg (by intro h; have h := congrArg Int32.toInt h; rw [hpI, qa_m1] at h; omega), if_neg n10]
    by_cases p0 : p = 0
    · subst p0
      have e1' : mSt M 41 = x := e1
      rw [if_pos (show nI 0 = 0 from rfl), if_pos e1']
      exact do_refuse A h' (r := 2) (by omega) (by omega) rfl
    · have ne : ¬ mSt M 41 = x := e3 0 (by omega)
      rw [if_neg (by intro h; have h := congrArg Int32.toInt h; rw [hpI, qa_0] at h; omega), if_neg ne]
      obtain ⟨F1, M1, b1, b2, A1, K, n1, s1⟩ := ac_sim A
      have R1 := A1.1
      have I1 := A1.2.1
      obtain ⟨z1, z2, z3⟩ := wv_rel R1 I1 (p := p) (by rw [s1]; exact hp)
      have c1 : sC (fN F1) 1 = nI (eQ (mSt M1)) := by
        rw [R1.1.1.2.1]
        exact (qa_nIx I1.2.1.2.2.2.1.1).symm
      have hu := sb_front (u := fN F1) (p := p) (q := eQ (mSt M1)) (by rw [s1]; omega) (by rw [s1]; exact hp) c1
      have hg := rb_front (g := mSt M1) (x := x) (p := p) (by omega) (by rw [s1]; exact e1) (by rw [s1]; exact e3)
      obtain ⟨d1, d2⟩ := do_set A1 K (by omega) h' z1 (z2.mono (by omega) h')
      rw [b1, qa_b, hu, qa_b, b2, qa_b, hg, qa_b2]
      exact ⟨_, _, _, rfl, rfl, d1, d2⟩
  · rw [sb_placeOut R.1 G e1, qa_b, e2, qa_b, if_pos rfl, if_pos rfl]
    exact do_refuse A h' (r := 1) (by omega) (by omega) rfl
theorem do_dismiss {B : Int} {F : FS} {M : RS} (A : eAll B F M) (h' : B + 400 ≤ 100000000) (x : Int32) : ∃ s F' M', fX9_doDismiss x F = some (s, F') ∧ fX10_dismissIt x M = some (s, M') ∧ eAll (B + 400) F' M' ∧ eKp F F' M M' := by
  have R := A.1
  have G := A.2.1.2.1
  have hn := G.1.n
  have hq := G.q
  unfold fX9_doDismiss fX9_doDismiss_b0 fX10_dismissIt fX10_dismissIt_b0
  rcases q_place G x with ⟨p, c, hp, hc, e1, e2, e3, e4⟩ | ⟨e1, e2⟩
  · have hpI := qa_nI (n := p) (by omega)
    have hcI := qa_nI (n := c) (by omega)
    rw [sb_placeIn R.1 G hp e1, qa_b, e4, qa_b, if_neg (by intro h; have h := congrArg Int32.toInt h; rw [hpI, qa_m1] at h; omega), if_neg (by decide)]
    obtain ⟨F1, M1, b1, b2, A1, K, n1, s1⟩ := ac_sim A
    have R1 := A1.1
    have I1 := A1.2.1
    have hp1 : p < eQ (mSt M1) := by rw [s1]; exact hp
    have hc1 : c < eN (mSt M1) := by rw [s1]; exact hc
    have e11 : mSt M1 (41 + p) = nI c := by rw [s1, e1, e2]
    obtain ⟨z1, z2⟩ := ds_rel R1 I1 hp1 hc1 e11
    have c1 : sC (fN F1) 1 = nI (eQ (mSt M1)) := by
      rw [R1.1.1.2.1]
      exact (qa_nIx I1.2.1.2.2.2.1.1).symm
    have hu := sb_take (u := fN F1) (p := p) (q := eQ (mSt M1)) (by rw [s1]; omega) hp1 c1
    have hg := rb_leave (g := mSt M1) (x := x) (p := p) (q := eQ (mSt M1)) (by rw [s1]; omega) hp1 (qa_nIx I1.2.1.2.2.2.1.1).symm (by rw [s1]; exact e1) (by rw [s1]; exact e3)
    obtain ⟨d1, d2⟩ := do_set A1 K (by omega) h' z1 (z2.mono (by omega) h')
    have hx : x.toInt = (c : Int) := by rw [e2]; exact hcI
    rw [b1, qa_b, hu, qa_b, sb_setCar c 2 hx (by omega) qa_2 (by decide), qa_b, b2, qa_b, hg, qa_b, rb_layCar c 2 hx (by omega) qa_2 (by decide), qa_b]
    refine ⟨_, _, _, rfl, ?_, d1, d2⟩
    have : sC (fN (gN F1 (dsU (fN F1) p (eQ (mSt M1)) c))) 1 = mSt (nStA M1 (dsG (mSt M1) p (eQ (mSt M1)) c)) 14 := z1.1.1.2.1
    show some (_, _) = some (sC (fN (gN F1 (dsU (fN F1) p (eQ (mSt M1)) c))) 1, _)
    rw [this]
    rfl
  · rw [sb_placeOut R.1 G e1, qa_b, e2, qa_b, if_pos rfl, if_pos rfl]
    exact do_refuse A h' (r := 1) (by omega) (by omega) rfl
