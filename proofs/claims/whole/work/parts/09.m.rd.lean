/-! more readers: the calls of the crew, the heaviest, why not, the lane for a car -/
theorem c_call {B : Int} {F : FS} {M : RS} (A : eAll B F M) (x y : Int32) : eC2 B xIO xIA (fX9_call x y F) (fX10_call x y M) := by
  have z := A.2.1.2.2
  have z8 := z.2.2.2.2.2.2.2.2.2.2.1
  have z9 := z.2.2.2.2.2.2.2.2.2.2.2.1
  have zB := z.2.1
  have c12 : sC (fN F) 12 = mSt M 8 := A.1.1.1.2.2.2.2.2.2.2.2.2.2.1
  have v20 : (20 : Int32).toInt = 20 := by decide
  obtain ⟨m, hm⟩ : ∃ m, m = (if mSt M 8 < 20 then mSt M 8 else 20) - 1 := ⟨_, rfl⟩
  have hmI : m.toInt < (mSt M 8).toInt ∧ m.toInt < 20 ∧ ((mSt M 8).toInt - 1 = m.toInt ∨ m.toInt = 19) := by
    rw [hm]
    by_cases q : mSt M 8 < 20
    · rw [if_pos q, qa_sub (by rw [qa_1]; omega) (by rw [qa_1]; omega), qa_1]
      rw [qa_lt, v20] at q
      omega
    · rw [if_neg q, show ((20 : Int32) - 1).toInt = 19 by decide]
      rw [qa_lt, v20] at q
      omega
  have hb : fX10_call x y M = bnd (fX10_isBetween x 0 m) (fun r21 => (if r21 = 0 then some (0, nTh (nTh M 0) 1) else bnd (fX10_isBetween y 0 3) (fun r36 => (if r36 = 0 then some (0, nTh (nTh M 0) 2) else grd (inb ((481 + (4 * ((((mSt M 8) - 1) - x) - (((mSt M 8) - 1) - x) / 20 * 20))) + y) 561) (some (mSt M (ix ((481 + (4 * ((((mSt M 8) - 1) - x) - (((mSt M 8) - 1) - x) / 20 * 20))) + y)), nTh M 0)))))) := by
    rw [hm]
    rfl
  rw [hb]
  unfold fX9_call fX9_call_b0 fX9_call_b26 fX9_call_b45
  rw [c12]
  by_cases h0 : x.toInt < 0
  · rw [if_pos (by rw [qa_lt, qa_0]; exact h0), bt_0 (by rw [qa_0]; omega), qa_b, if_pos (rfl : (0 : Int32) = 0)]
    exact ⟨_, _, _, _, rfl, rfl, A, Or.inl ⟨rfl, rfl⟩⟩
  rw [if_neg (by rw [qa_lt, qa_0]; exact h0)]
  by_cases h1 : (mSt M 8).toInt ≤ x.toInt
  · rw [if_pos (by rw [qa_le]; exact h1), bt_0 (by rw [qa_0]; omega), qa_b, if_pos (rfl : (0 : Int32) = 0)]
    exact ⟨_, _, _, _, rfl, rfl, A, Or.inl ⟨rfl, rfl⟩⟩
  rw [if_neg (by rw [qa_le]; exact h1)]
  by_cases h2 : x.toInt < 20
  · rw [if_pos (by rw [qa_lt, v20]; exact h2), bt_1 (by rw [qa_0]; omega) (by omega), qa_b, if_neg n10]
    by_cases g0 : y.toInt < 0
    · rw [if_pos (by rw [qa_lt, qa_0]; exact g0), bt_0 (by rw [qa_0]; omega), qa_b, if_pos (rfl : (0 : Int32) = 0)]
      exact ⟨_, _, _, _, rfl, rfl, A, Or.inr (Or.inl ⟨rfl, rfl⟩)⟩
    rw [if_neg (by rw [qa_lt, qa_0]; exact g0)]
    by_cases g1 : y.toInt < 4
    · rw [if_pos (by rw [qa_lt, qa_4]; exact g1), bt_1 (by rw [qa_0]; omega) (by rw [qa_3]; omega), qa_b, if_neg n10]
      have e1 : (mSt M 8 - 1).toInt = (mSt M 8).toInt - 1 := by rw [qa_sub (by rw [qa_1]; omega) (by rw [qa_1]; omega), qa_1]
      have e2 : (mSt M 8 - 1 - x).toInt = (mSt M 8).toInt - 1 - x.toInt := by rw [qa_sub (by rw [e1]; omega) (by rw [e1]; omega), e1]
      have e3 := qa_rem (x := mSt M 8 - 1 - x) (y := 20) (by omega) (by omega)
      obtain ⟨r, hr⟩ : ∃ r, r = mSt M 8 - 1 - x - (mSt M 8 - 1 - x) / 20 * 20 := ⟨_, rfl⟩
      rw [← hr, v20] at e3
      rw [← hr]
      have r0 : 0 ≤ r.toInt ∧ r.toInt < 20 ∧ r.toInt ≤ (mSt M 8).toInt - 1 := by omega
      have hy := qa_ixI (i := y) (by omega)
      obtain ⟨s, hs⟩ : ∃ s : Nat, (s : Int) = r.toInt := ⟨r.toInt.toNat, by omega⟩
      have i1 : (r * 4 + y).toInt = ((4 * s + ix y : Nat) : Int) := by
        have q : (r * 4).toInt = 4 * (s : Int) := by
          rw [qa_mul (by rw [qa_4]; omega) (by rw [qa_4]; omega), qa_4]
          omega
        rw [qa_add (by rw [q]; omega) (by rw [q]; omega), q]
        omega
      have i2 : (481 + 4 * r + y).toInt = ((481 + (4 * s + ix y) : Nat) : Int) := by
        have q : (4 * r).toInt = 4 * (s : Int) := by
          rw [qa_mul (by rw [qa_4]; omega) (by rw [qa_4]; omega), qa_4]
          omega
        have v : (481 : Int32).toInt = 481 := by decide
        have q2 : (481 + 4 * r).toInt = 481 + 4 * (s : Int) := by rw [qa_add (by rw [q, v]; omega) (by rw [q, v]; omega), q, v]
        rw [qa_add (by rw [q2]; omega) (by rw [q2]; omega), q2]
        omega
      rw [sc_at (4 * s + ix y) i1 (by omega) (by omega), qa_b, qa_gi (by omega) (by omega), qa_ix i2, A.1.1.2.2.2.2.2 _ (by omega) (by omega)]
      exact ⟨_, _, _, _, rfl, rfl, A, Or.inr (Or.inr ⟨rfl, rfl⟩)⟩
    · rw [if_neg (by rw [qa_lt, qa_4]; exact g1), bt_0 (by rw [qa_3]; omega), qa_b, if_pos (rfl : (0 : Int32) = 0)]
      exact ⟨_, _, _, _, rfl, rfl, A, Or.inr (Or.inl ⟨rfl, rfl⟩)⟩
  · rw [if_neg (by rw [qa_lt, v20]; exact h2), bt_0 (by omega), qa_b, if_pos (rfl : (0 : Int32) = 0)]
    exact ⟨_, _, _, _, rfl, rfl, A, Or.inl ⟨rfl, rfl⟩⟩
theorem c_heaviest {B : Int} {F : FS} {M : RS} (A : eAll B F M) : eCr B F (fX9_heaviest F) (fX10_heaviest M) := by
  have RA := A.1.1
  have G := A.2.1.2.1
  have H := G.1
  have hn := H.n
  have c3 : sC (fN F) 3 = mSt M 13 := RA.1.2.2.1
  have key : (fun a b => ∃ r, a = some r ∧ b = some (r, nTh M 0)) (fX9_heaviest F) (fX10_heaviest M) := by
    unfold fX9_heaviest fX9_heaviest_b0 fX10_heaviest fX10_heaviest_b0
    refine qa_lrel (fun j (s : Int32 × Int32 × Int32) (t : Int32 × Int32 × RS) => t.2.2 = nTh M 0 ∧ t.1 = s.1 ∧ s.2.2 = nI j ∧ t.2.1 = nI j ∧ (s.1 = (-1) ∧ s.2.1 = 0 ∨ ∃ c, c < eN (mSt M) ∧ s.1 = nI c ∧ s.2.1 = eC (mSt M) c 1)) (fun a b => ∃ r, a = some r ∧ b = some (r, nTh M 0)) (eN (mSt M)) ?_ 5000 5000 0 ((-1), 0, 0) ((-1), 0, nTh M 0) ⟨rfl, rfl, rfl, rfl, Or.inl ⟨rfl, rfl⟩⟩ (by omega) (by omega) (by omega)
    intro j s t k l hj hI hk
    obtain ⟨s1, s2, s3⟩ := s
    obtain ⟨t1, t2, t3⟩ := t
    obtain ⟨e1, e2, e3, e4, e5⟩ := hI
    have e1 : t3 = nTh M 0 := e1
    have e2 : t1 = s1 := e2
    have e3 : s3 = nI j := e3
    have e4 : t2 = nI j := e4
    have e5 : s1 = (-1) ∧ s2 = 0 ∨ ∃ c, c < eN (mSt M) ∧ s1 = nI c ∧ s2 = eC (mSt M) c 1 := e5
    show ∃ r, fX9_heaviest_b6 k s1 s2 s3 F = some r ∧ fX10_heaviest_b9 l t1 t2 t3 = some (r, nTh M 0)
    rw [e1, e2, e3, e4]
    have hjI := qa_nI (n := j) (by omega)
    unfold fX9_heaviest_b6 fX9_heaviest_b54 fX10_heaviest_b9 fX10_heaviest_b50 fX10_heaviest_b55 fX10_heaviest_b56
    show ∃ r, _ ∧ (if mSt M 13 ≤ nI j then _ else bnd (fX10_ofCar (nI j) 2 (mSt M)) (fun r23 => (if r23 = 2 then (if s1 = (-1) then _ else bnd (fX10_ofCar (nI j) 1 (mSt M)) (fun r38 => bnd (fX10_ofCar s1 1 (mSt M)) (fun r44 => (if r38 ≤ r44 then _ else _)))) else _))) = some (r, nTh M 0)
    rw [c3]
    by_cases q : j = eN (mSt M)
    · rw [if_pos (by rw [q]; exact rb_out H), if_pos (by rw [q]; exact rb_out H)]
      exact ⟨_, rfl, rfl⟩
    · have hj : j < eN (mSt M) := by omega
      have w := G.2.1 j hj
      rw [if_neg (rb_in H hj), if_neg (rb_in H hj), sb_carFact RA H j 1 hjI hj qa_1 (by decide), qa_b, sb_carFact RA H j 2 hjI hj qa_2 (by decide), qa_b, rb_ofCar j 2 hjI (by omega) qa_2 (by decide), qa_b, nI_1]
      by_cases q2 : eC (mSt M) j 2 = 2
      · rw [if_pos q2, if_pos q2]
        rcases e5 with ⟨p1, p2⟩ | ⟨c, p1, p2, p3⟩
        · rw [if_pos p1, p2, if_neg (by rw [qa_le, qa_0]; omega)]
          exact hk _ _ hj ⟨rfl, rfl, rfl, rfl, Or.inr ⟨j, hj, rfl, rfl⟩⟩
        · have hcI := qa_nI (n := c) (by omega)
          have nm : ¬ s1 = (-1) := by
            rw [p2]
            intro h
            have h := congrArg Int32.toInt h
            rw [hcI, qa_m1] at h
            omega
          rw [if_neg nm, rb_ofCar j 1 hjI (by omega) qa_1 (by decide), qa_b, p2, rb_ofCar c 1 hcI (by omega) qa_1 (by decide), qa_b, p3]
          by_cases q3 : eC (mSt M) j 1 ≤ eC (mSt M) c 1
          · rw [if_pos q3, if_pos q3]
            exact hk _ _ hj ⟨rfl, rfl, rfl, rfl, Or.inr ⟨c, p1, rfl, rfl⟩⟩
          · rw [if_neg q3, if_neg q3]
            exact hk _ _ hj ⟨rfl, rfl, rfl, rfl, Or.inr ⟨j, hj, rfl, rfl⟩⟩
      · rw [if_neg q2, if_neg q2]
        exact hk _ _ hj ⟨rfl, rfl, rfl, rfl, e5⟩
  obtain ⟨r, k1, k2⟩ := key
  exact ⟨r, _, k1, k2, A⟩
theorem c_whyNot {B : Int} {F : FS} {M : RS} (A : eAll B F M) (x : Int32) : eC1 B xIO (fX9_whyNot x F) (fX10_whyNot x M) := by
  have R := A.1
  have S := A.2.1.1
  have G := A.2.1.2.1
  have hn := G.1.n
  have hq := G.q
  unfold fX9_whyNot fX9_whyNot_b0 fX10_whyNot fX10_whyNot_b0
  rcases q_place G x with ⟨p, c, hp, hc, e1, e2, e3, e4⟩ | ⟨e1, e2⟩
  · have hcI : x.toInt = (c : Int) := by rw [e2]; exact qa_nI (by omega)
    have e4 : fX10_isQueued x (mSt (nTh M 0)) = some 1 := e4
    have e5 : fX10_whyNotNow x (mSt (nTh M 0)) = some (eY (mSt M) c) := rb_whyNot S G.1 c hcI hc
    rw [sb_placeIn R.1 G hp e1, qa_b, if_neg (by intro h; have h := congrArg Int32.toInt h; rw [qa_nI (by omega), qa_m1] at h; omega), sb_reason R.1 R.2.1 R.2.2.2 S G c hcI hc, qa_b, e4, qa_b, if_neg n10, e5, qa_b]
    exact ⟨_, _, _, _, rfl, rfl, A, Or.inr ⟨rfl, rfl⟩⟩
  · have e2 : fX10_isQueued x (mSt (nTh M 0)) = some 0 := e2
    rw [sb_placeOut R.1 G e1, qa_b, if_pos (rfl : (-1 : Int32) = (-1)), e2, qa_b, if_pos (rfl : (0 : Int32) = 0)]
    exact ⟨_, _, _, _, rfl, rfl, A, Or.inl ⟨rfl, rfl⟩⟩
theorem c_laneFor {B : Int} {F : FS} {M : RS} (A : eAll B F M) (x : Int32) : eC1 B xIO (fX9_laneFor x F) (fX10_laneFor x M) := by
  have R := A.1
  have S := A.2.1.1
  have G := A.2.1.2.1
  have hn := G.1.n
  have hq := G.q
  unfold fX9_laneFor fX9_laneFor_b0 fX10_laneFor fX10_laneFor_b0
  rcases q_place G x with ⟨p, c, hp, hc, e1, e2, e3, e4⟩ | ⟨e1, e2⟩
  · have hcI : x.toInt = (c : Int) := by rw [e2]; exact qa_nI (by omega)
    have w := G.2.1 c hc
    have e4 : fX10_isQueued x (mSt (nTh M 0)) = some 1 := e4
    have e5 : fX10_laneOf x (mSt (nTh M 0)) = some (eLn (mSt M) (eO (mSt M) c 2) (eC (mSt M) c 1) 3) := rb_laneOf G.1 c hcI hc
    rw [sb_placeIn R.1 G hp e1, qa_b, if_neg (by intro h; have h := congrArg Int32.toInt h; rw [qa_nI (by omega), qa_m1] at h; omega), sb_carKind R.1 G.1 c 2 hcI hc qa_2 (by decide), qa_b, sb_carFact R.1 G.1 c 1 hcI hc qa_1 (by decide), qa_b, sb_suiting R.1 R.2.1 S G (by omega) (by omega), qa_b, e4, qa_b, if_neg n10, e5, qa_b]
    exact ⟨_, _, _, _, rfl, rfl, A, Or.inr ⟨rfl, rfl⟩⟩
  · have e2 : fX10_isQueued x (mSt (nTh M 0)) = some 0 := e2
    rw [sb_placeOut R.1 G e1, qa_b, if_pos (rfl : (-1 : Int32) = (-1)), e2, qa_b, if_pos (rfl : (0 : Int32) = 0)]
    exact ⟨_, _, _, _, rfl, rfl, A, Or.inl ⟨rfl, rfl⟩⟩
