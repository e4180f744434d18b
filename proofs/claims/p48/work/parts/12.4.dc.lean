/-! p48, pure: a whole tick in its cases -/
theorem eLn_c {g h : Nat → Int32} (hL : eL h = eL g) (hW : eW h = eW g) (h21 : h 21 = g 21) (h23 : h 23 = g 23) (len w : Int32) : ∀ j, eLn h len w j = eLn g len w j
  | 0 => rfl
  | j + 1 => by
    show eSt h len w (eLn h len w j) (nI j) = eSt g len w (eLn g len w j) (nI j)
    unfold eSt eSu
    rw [eLn_c hL hW h21 h23 len w j, hL, hW, h21, h23]
theorem eY_F {g h : Nat → Int32} (F : eF g h) (h0 : h 0 = g 0) (h1 : h 1 = g 1) (h4 : h 4 = g 4) (h12 : h 12 = g 12) (c : Nat) : eY h c = eY g c := by
  have e1 := F.L
  have e2 := F.Ld
  have e3 := eF_P F h1
  have e4 := eF_I F h0 h1
  have e5 := F.O
  have e6 := F.C
  have e7 := F 22 (by omega)
  have e8 := F 21 (by omega)
  have e9 := eLn_c F.L F.W (F 21 (by omega)) (F 23 (by omega)) (eO g c 2) (eC g c 1) 3
  unfold eY eFs
  rw [e5, e6, e9, e1, e2, e3, e4, e7, e8, h4, h12]
theorem kcG_fr (g : Nat → Int32) {s : Nat} (hs : s + 3 < 80) (x1 x2 x3 : Int32) {i : Nat} (hi : i < 481) (h7 : i ≠ 7) (h8 : i ≠ 8) : kcG g s x1 x2 x3 i = g i := by
  unfold kcG
  rw [pk_un h7, pk_un h8, pk_un (by omega), pk_un (by omega), pk_un (by omega), pk_un (by omega)]
theorem kcG_F (g : Nat → Int32) {s : Nat} (hs : s + 3 < 80) (x1 x2 x3 : Int32) : eF2 g (kcG g s x1 x2 x3) := fun i h1 h2 => kcG_fr g hs x1 x2 x3 h2 (by omega) (by omega)
theorem kcG_v (g : Nat → Int32) {s : Nat} (hs : s + 3 < 80) (x1 x2 x3 : Int32) : kcG g s x1 x2 x3 7 = 0 ∧ kcG g s x1 x2 x3 8 = g 8 + 1 ∧ kcG g s x1 x2 x3 (481 + s) = g 0 ∧ kcG g s x1 x2 x3 (481 + s + 1) = x1 ∧ kcG g s x1 x2 x3 (481 + s + 2) = x2 ∧ kcG g s x1 x2 x3 (481 + s + 3) = x3 := by
  unfold kcG
  refine ⟨pk_us, (pk_un (by omega)).trans pk_us, ?_, ?_, ?_, ?_⟩
  · rw [pk_un (by omega), pk_un (by omega), pk_un (by omega), pk_un (by omega), pk_un (by omega), pk_us]
  · rw [pk_un (by omega), pk_un (by omega), pk_un (by omega), pk_un (by omega), pk_us]
  · rw [pk_un (by omega), pk_un (by omega), pk_un (by omega), pk_us]
  · rw [pk_un (by omega), pk_un (by omega), pk_us]
/-- the queue's step: nobody; the first begins; it waits; the crew is called, alone or for another -/
def tkA (g g' : Nat → Int32) : Prop :=
  (g' = g ∧ (¬ g 4 = (-1) ∨ eQ g = 0 ∨ eY g (ix (g 41)) = 1)) ∨
  (g 4 = (-1) ∧ ∃ c l : Nat, 0 < eQ g ∧ c < eN g ∧ g 41 = nI c ∧ l < 3 ∧ eLn g (eO g c 2) (eC g c 1) 3 = nI l ∧ eY g c = 0 ∧ g' = bgG g 0 (eQ g) c (nI l)) ∨
  (g 4 = (-1) ∧ 0 < eQ g ∧ ¬ eY g (ix (g 41)) = 0 ∧ ¬ eY g (ix (g 41)) = 1 ∧ g 7 + 1 < g 28 ∧ g' = upd g 7 (g 7 + 1)) ∨
  (g 4 = (-1) ∧ 0 < eQ g ∧ ¬ eY g (ix (g 41)) = 0 ∧ ¬ eY g (ix (g 41)) = 1 ∧ ¬ g 7 + 1 < g 28 ∧ ∃ s : Nat, s + 3 < 80 ∧ (s : Int) = 4 * ((g 8).toInt % 20) ∧
    (g' = kcG (upd g 7 (g 7 + 1)) s (g 41) (eY g (ix (g 41))) (-1) ∨
     ∃ p c l : Nat, 1 ≤ p ∧ p < eQ g ∧ c < eN g ∧ g (41 + p) = nI c ∧ l < 3 ∧ eLn g (eO g c 2) (eC g c 1) 3 = nI l ∧ eY g c = 0 ∧ g' = bgG (kcG (upd g 7 (g 7 + 1)) s (g 41) (eY g (ix (g 41))) (nI c)) p (eQ g) c (nI l)))
theorem b28_dec {g : Nat → Int32} (S : eS g) (G : eG g) (h8 : 0 ≤ (g 8).toInt) : ∃ g', fX10_tickOnce_b28 g = some g' ∧ tkA g g' := by
  have hn := G.1.n
  have hq := G.q
  by_cases h4 : g 4 = (-1)
  · by_cases e0 : eQ g = 0
    · exact ⟨g, b28_none h4 (by rw [qa_le, qa_0]; omega), Or.inl ⟨rfl, Or.inr (Or.inl e0)⟩⟩
    have hq0 : 0 < eQ g := by omega
    obtain ⟨v1, v2, v3⟩ := G.2.2.2.2.1 0 hq0
    have v1 : 0 ≤ (g 41).toInt := v1
    have v2 : ix (g 41) < eN g := v2
    unfold fX10_tickOnce_b28
    rw [if_pos h4, if_neg (by rw [qa_le, qa_0]; omega)]
    unfold fX10_admit fX10_admit_b0
    rw [rb_whyNot S G.1 (ix (g 41)) (qa_ixI v1) v2, qa_b]
    have e41 : g 41 = nI (ix (g 41)) := (qa_nIx v1).symm
    by_cases y0 : eY g (ix (g 41)) = 0
    · obtain ⟨l, l3, hl⟩ := eLn_l (eY_0 y0).2
      have hb := bg_g G (p := 0) hq0 v2 e41 hl
      rw [← e41] at hb
      rw [if_pos y0, hb, qa_b, qa_b]
      exact ⟨_, rfl, Or.inr (Or.inl ⟨h4, ix (g 41), l, hq0, v2, e41, l3, hl, y0, rfl⟩)⟩
    · rw [if_neg y0]
      by_cases y1 : eY g (ix (g 41)) = 1
      · rw [if_pos y1, qa_b]
        exact ⟨_, rfl, Or.inl ⟨rfl, Or.inr (Or.inr y1)⟩⟩
      · rw [if_neg y1, pk_us, pk_un (by omega)]
        by_cases w : g 7 + 1 < g 28
        · rw [if_pos w, qa_b]
          exact ⟨_, rfl, Or.inr (Or.inr (Or.inl ⟨h4, hq0, y0, y1, w, rfl⟩))⟩
        · have F : eF g (upd g 7 (g 7 + 1)) := eF_upd g (by omega) _
          have hz8 : 0 ≤ (upd g 7 (g 7 + 1) 8).toInt := by rw [pk_un (by omega)]; exact h8
          obtain ⟨s, s1, s2, s3⟩ := kc_spot hz8
          obtain ⟨z, hz, ez⟩ := cr_g (F.S S) (F.G rfl (Int.le_refl _) G) (by rw [F.Q]; exact hq0) (eY g (ix (g 41)))
          rw [if_neg w, ez, kc_g s1 s2]
          rw [pk_un (by omega)] at s3
          rw [show upd g 7 (g 7 + 1) 41 = g 41 from pk_un (by omega)]
          refine hz.elim (fun q => ?_) (fun ⟨p, p1, p2, p3, p4⟩ => ?_)
          · rw [if_pos q, qa_b, q]
            exact ⟨_, rfl, Or.inr (Or.inr (Or.inr ⟨h4, hq0, y0, y1, w, s, s1, s3, Or.inl rfl⟩))⟩
          · rw [F.Q] at p2
            have e7 : upd g 7 (g 7 + 1) (41 + p) = g (41 + p) := pk_un (by omega)
            rw [e7] at p3 p4
            obtain ⟨w1, w2, w3⟩ := G.2.2.2.2.1 p p2
            have ec : g (41 + p) = nI (ix (g (41 + p))) := (qa_nIx w1).symm
            have hzn : ¬ z = (-1) := by
              intro q
              rw [q] at p3
              rw [← p3, qa_m1] at w1
              omega
            have y9 : eY g (ix (g (41 + p))) = 0 := by
              rw [← eY_F F (pk_un (by omega)) (pk_un (by omega)) (pk_un (by omega)) (pk_un (by omega))]
              exact p4
            obtain ⟨l, l3, hl⟩ := eLn_l (eY_0 y9).2
            have K := kcG_F (upd g 7 (g 7 + 1)) s1 (g 41) (eY g (ix (g 41))) z
            have F' : eF2 g (kcG (upd g 7 (g 7 + 1)) s (g 41) (eY g (ix (g 41))) z) := fun i h1 h2 => (K i h1 h2).trans (F i h1)
            have Gk : eG (kcG (upd g 7 (g 7 + 1)) s (g 41) (eY g (ix (g 41))) z) := F'.G ((kcG_fr _ s1 _ _ _ (by omega) (by omega) (by omega)).trans (pk_un (by omega))) (by rw [kcG_fr _ s1 _ _ _ (by omega) (by omega) (by omega), pk_un (by omega)]; exact Int.le_refl _) G
            have hc60 : ix (g (41 + p)) < 60 := by omega
            obtain ⟨q1, q2, q3, -⟩ := F'.sums G.1
            have hl' : eLn (kcG (upd g 7 (g 7 + 1)) s (g 41) (eY g (ix (g 41))) z) (eO (kcG (upd g 7 (g 7 + 1)) s (g 41) (eY g (ix (g 41))) z) (ix (g (41 + p))) 2) (eC (kcG (upd g 7 (g 7 + 1)) s (g 41) (eY g (ix (g 41))) z) (ix (g (41 + p))) 1) 3 = nI l := by
              rw [F'.O G.1 w2 (by omega), F'.C hc60 (by omega), eLn_c q3 q2 (F' 21 (by omega) (by omega)) (F' 23 (by omega) (by omega))]
              exact hl
            have hb := bg_g Gk (p := p) (by rw [F'.Q]; exact p2) (by rw [F'.N]; exact w2) ((F' _ (by omega) (by omega)).trans ec) hl'
            rw [F'.Q, ← ec, ← p3] at hb
            rw [if_neg hzn, hb, qa_b, qa_b]
            refine ⟨_, rfl, Or.inr (Or.inr (Or.inr ⟨h4, hq0, y0, y1, w, s, s1, s3, Or.inr ⟨p, ix (g (41 + p)), l, p1, p2, w2, ec, l3, hl, y9, ?_⟩⟩))⟩
            rw [p3, ← ec]
  · exact ⟨g, b28_free h4, Or.inl ⟨rfl, Or.inl h4⟩⟩
/-- a tick: time, winch, the car on the ramp, the queue -/
def tk0 (g : Nat → Int32) : Nat → Int32 := upd g 0 (g 0 + 1)
def tk1 (g : Nat → Int32) : Nat → Int32 := wnG (tk0 g)
def tk2 (g : Nat → Int32) : Nat → Int32 := if tk1 g 4 = (-1) then tk1 g else drG (tk1 g)
theorem tk_dec {u : KS} {g : Nat → Int32} {B : Int} (R : eRel u g) (I : eInv B g) (hB : B + 2 ≤ 100000000) : tkA (tk2 g) (tkG g) ∧ (∃ u2, eRel u2 (tk1 g) ∧ eInv (B + 1) (tk1 g) ∧ eU (tk1 g)) ∧ (∃ u3, eRel u3 (tk2 g) ∧ eInv (B + 1) (tk2 g) ∧ eU (tk2 g)) := by
  obtain ⟨u1, a1, a2, a3, a4⟩ := tk_time R I (by omega)
  obtain ⟨u2, g2, b1, b2, b3, b4, b5, b6⟩ := wi_run a2 a3
  have e2 : tk1 g = g2 := by
    have := wn_g a3.1 a3.2.1.1 a3.2.2.2.2.2.2.2.2.1
    rw [b2] at this
    exact (Option.some.inj this).symm
  have T2 : eU g2 := b5.U (b6 0 (by omega) (by omega) (by omega)) a4
  have h8 : ∀ {h : Nat → Int32} {B : Int}, eInv B h → 0 ≤ (h 8).toInt := fun J => J.2.2.2.2.2.2.2.2.2.2.2.2.1
  have ht : tkG g = (fX10_tickOnce g).getD g := rfl
  unfold fX10_tickOnce fX10_tickOnce_b0 at ht
  rw [b2, qa_b] at ht
  by_cases e4 : g2 4 = (-1)
  · have e3 : tk2 g = g2 := by unfold tk2; rw [e2, if_pos e4]
    rw [if_pos e4] at ht
    obtain ⟨g', c1, c2⟩ := b28_dec b4.1 b4.2.1 (h8 b4)
    rw [c1] at ht
    rw [e3, e2]
    have ht : tkG g = g' := ht
    rw [ht]
    exact ⟨c2, ⟨u2, b3, b4, T2⟩, ⟨u2, b3, b4, T2⟩⟩
  · rw [if_neg e4] at ht
    obtain ⟨u3, g3, d1, d2, d3, d4, d5, -⟩ := dr_sim b3 b4 T2 e4
    have e3 : tk2 g = g3 := by
      unfold tk2
      rw [e2, if_neg e4]
      have := dr_g b4.1 b4.2.1 e4
      rw [d2] at this
      exact (Option.some.inj this).symm
    rw [d2, qa_b] at ht
    obtain ⟨g', c1, c2⟩ := b28_dec d4.1 d4.2.1 (h8 d4)
    rw [c1] at ht
    have ht : tkG g = g' := ht
    rw [e3, e2, ht]
    exact ⟨c2, ⟨u2, b3, b4, T2⟩, ⟨u3, d3, d4, d5⟩⟩
