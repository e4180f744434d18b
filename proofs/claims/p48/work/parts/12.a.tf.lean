/-! p48, pure: what one tick does, in the law's words -/
theorem cl_G {F : FS} {g : Nat → Int32} {B : Int} (h : FG B F g) {s j : Nat} (hs : (s : Int) = 4 * (((g 8).toInt - 1) % 20)) (h8 : 1 ≤ (g 8).toInt) (hj : j < 4) {y : Int32} (hy : y.toInt = (j : Int)) : fL_call 0 y F = some (g (481 + (s + j))) := by
  have Z := h.2.1.2.2
  have z2 := Z.2.1
  have z8 := Z.2.2.2.2.2.2.2.2.2.2.2.1
  have c12 : sC (fN F) 12 = g 8 := h.1.1.1.2.2.2.2.2.2.2.2.2.2.1
  have e1 : (g 8 - 1).toInt = (g 8).toInt - 1 := by rw [qa_sub (by rw [qa_1]; omega) (by rw [qa_1]; omega), qa_1]
  have e2 : g 8 - 1 - 0 = g 8 - 1 := Int32.sub_zero _
  have e3 : ((g 8 - 1) - (g 8 - 1) / 20 * 20).toInt = ((g 8).toInt - 1) % 20 := by
    rw [qa_rem (by omega) (by decide), e1]
    rfl
  have e4 : (((g 8 - 1) - (g 8 - 1) / 20 * 20) * 4).toInt = (s : Int) := by
    rw [qa_mul (by rw [e3, qa_4]; omega) (by rw [e3, qa_4]; omega), e3, qa_4, hs]
    omega
  have e5 : (((g 8 - 1) - (g 8 - 1) / 20 * 20) * 4 + y).toInt = ((s + j : Nat) : Int) := by
    rw [qa_add (by omega) (by omega), e4, hy]
    omega
  have hL : sL (fN F) (s + j) = g (481 + (s + j)) := h.1.1.2.2.2.2.2 (s + j) (by omega) (by omega)
  show hX9_call 0 y F = _
  unfold hX9_call hX9_call_b0
  rw [c12, if_neg (by decide), if_neg (by rw [qa_le, qa_0]; omega), if_pos (by decide), if_neg (by rw [qa_lt, qa_0, hy]; omega), if_pos (by rw [qa_lt, qa_4, hy]; omega), e2]
  unfold fX9_at fX9_at_b0
  rw [if_neg (by rw [qa_lt, qa_0, e5]; omega), if_neg (show ¬ Int32.ofNat 80 ≤ ((g 8 - 1) - (g 8 - 1) / 20 * 20) * 4 + y from fun q => by
    have q := qa_le.mp q
    rw [e5, show (Int32.ofNat 80).toInt = 80 by decide] at q
    omega), qa_g (inb_n e5 (by omega)), qa_ix e5, hL, qa_b]
/-- who ended, who began, who was called -/
def bgn (g g' : Nat → Int32) : Prop := ¬ g' 4 = (-1) ∧ ¬ g' 4 = g 4
def TF1 (g g' : Nat → Int32) : Prop := g' 9 = g 9 ∨ g' 9 = g 9 + 1 ∧ ¬ g 4 = (-1) ∧ eC g' (ix (g 4)) 2 = 2 ∧ eC g' (ix (g 4)) 6 = g' 0
def TF2 (g g' : Nat → Int32) : Prop := ¬ g 4 = (-1) → (g' 9 = g 9 + 1 ∧ g' 6 = g 6) ∨ (g' 9 = g 9 ∧ g' 6 = g 6 ∧ g' 5 = g 5 + 1) ∨ (g' 9 = g 9 ∧ g' 6 = g 6 + 1 ∧ g' 5 = g 5 ∧ g' 4 = g 4)
def TF3 (g g' : Nat → Int32) : Prop := g' 4 = (-1) ∨ (g' 4 = g 4 ∧ ¬ g 4 = (-1) ∧ (eC g' (ix (g' 4)) 5).toInt < (g' 0).toInt) ∨ (bgn g g' ∧ eC g' (ix (g' 4)) 5 = g' 0 ∧ g' 7 = 0 ∧ 0 < eQ g ∧ (g' 4 = g 41 ∨ g' 8 = g 8 + 1))
def TF4 (g g' : Nat → Int32) : Prop :=
  (g' 8 = g 8 ∧ (bgn g g' ∨ g' 7 = g 7 ∨ (g' 7 = g 7 + 1 ∧ g' 4 = (-1) ∧ 0 < eQ g ∧ eQ g' = eQ g ∧ g' 41 = g 41 ∧ ¬ eY g' (ix (g 41)) = 0 ∧ ¬ eY g' (ix (g 41)) = 1))) ∨
  (g' 8 = g 8 + 1 ∧ g' 7 = 0 ∧ ¬ g 7 + 1 < g 28 ∧ 0 < eQ g ∧ ∃ s : Nat, s + 3 < 80 ∧ (s : Int) = 4 * ((g 8).toInt % 20) ∧ g' (481 + s) = g' 0 ∧ g' (481 + (s + 1)) = g 41 ∧ 2 ≤ (g' (481 + (s + 2))).toInt ∧ ((bgn g g' ∧ g' (481 + (s + 3)) = g' 4) ∨ (g' 4 = (-1) ∧ g' (481 + (s + 3)) = (-1))))
def TF (g g' : Nat → Int32) : Prop := (g' 0 = g 0 + 1 ∧ g' 1 = tk1 g 1 ∧ g' 2 = tk1 g 2 ∧ g' 3 = tk1 g 3) ∧ TF1 g g' ∧ TF2 g g' ∧ TF3 g g' ∧ TF4 g g'
theorem eY_range (g : Nat → Int32) (c : Nat) : 0 ≤ (eY g c).toInt ∧ (eY g c).toInt ≤ 7 := by
  unfold eY
  repeat' split
  all_goals decide
/-- the queue's step from the state h behind drive, the tick's start being g -/
theorem tf_ad {g h g' : Nat → Int32} (S : eS h) (G : eG h) (T : eU h) (z0 : 0 ≤ (h 0).toInt) (hF : ∀ i, i = 7 ∨ i = 8 ∨ i = 14 ∨ (15 ≤ i ∧ i < 61) → h i = g i) (hA : tkA h g')
    (hr : h 4 = (-1) → ∀ c, c < eN h → eC h c 2 = 0 → ¬ nI c = g 4) (hm : h 4 = (-1) ∨ h 4 = g 4) (h64 : h 4 = (-1) → h 5 = 0) :
    (∀ i, i < 4 → g' i = h i) ∧ g' 6 = h 6 ∧ g' 9 = h 9 ∧ (¬ h 4 = (-1) → g' = h) ∧ (∀ c, c < eN h → ¬ eC h c 2 = 0 → ∀ k, k < 7 → eC g' c k = eC h c k) ∧ TF3 g g' ∧ TF4 g g' := by
  have hn := G.1.n
  have hq := G.q
  have hq20 : eQ h ≤ 20 := by omega
  have eQe : eQ h = eQ g := by
    unfold eQ
    rw [hF 14 (by omega)]
  have e41 : h 41 = g 41 := hF 41 (by omega)
  have e7 := hF 7 (by omega)
  have e8 := hF 8 (by omega)
  have e28 : h 28 = g 28 := hF 28 (by omega)
  -- somebody begins, in a row w that is h but for its calls
  have beg : ∀ (w : Nat → Int32) (p c l : Nat), (∀ i, i < 481 → i ≠ 7 → i ≠ 8 → w i = h i) → p < eQ h → c < eN h → h (41 + p) = nI c → h 4 = (-1) → g' = bgG w p (eQ h) c (nI l) →
      (∀ i, i < 4 → g' i = h i) ∧ g' 6 = h 6 ∧ g' 9 = h 9 ∧ (∀ c, c < eN h → ¬ eC h c 2 = 0 → ∀ k, k < 7 → eC g' c k = eC h c k) ∧ g' 4 = nI c ∧ g' 7 = 0 ∧ g' 8 = w 8 ∧ eC g' c 5 = g' 0 ∧ bgn g g' ∧ (∀ i, 481 ≤ i → g' i = w i) := by
    intro w p c l hw hp hc e h4 e'
    have x2 : eC h c 2 = 0 := by
      have := (G.2.2.2.2.1 p hp).2.2
      rw [e, qa_ixn (by omega)] at this
      exact this
    obtain ⟨v4, v5, v7, v14⟩ := bgG_v w (p := p) (q := eQ h) (c := c) hq20 hp (nI l)
    have fr : ∀ i, i < 41 → i ≠ 4 → i ≠ 5 → i ≠ 7 → i ≠ 14 → g' i = w i := fun i h1 h2 h3 h4 h5 => by rw [e']; exact bgG_fr w hq20 hp (nI l) h1 h2 h3 h4 h5
    have C : ∀ j k, j < 60 → k < 7 → eC g' j k = if j = c ∧ k = 2 then 1 else if j = c ∧ k = 3 then nI l else if j = c ∧ k = 5 then w 0 else eC w j k := fun j k hj hk => by rw [e']; exact bgG_C w hq20 hp (nI l) hj hk
    have g0 : g' 0 = h 0 := (fr 0 (by omega) (by omega) (by omega) (by omega) (by omega)).trans (hw 0 (by omega) (by omega) (by omega))
    refine ⟨fun i hi => (fr i (by omega) (by omega) (by omega) (by omega) (by omega)).trans (hw i (by omega) (by omega) (by omega)), (fr 6 (by omega) (by omega) (by omega) (by omega) (by omega)).trans (hw 6 (by omega) (by omega) (by omega)), (fr 9 (by omega) (by omega) (by omega) (by omega) (by omega)).trans (hw 9 (by omega) (by omega) (by omega)), fun j hj hj2 k hk => ?_, by rw [e']; exact v4, by rw [e']; exact v7, fr 8 (by omega) (by omega) (by omega) (by omega) (by omega), ?_, ⟨?_, ?_⟩, fun i hi => ?_⟩
    · have hjc : j ≠ c := fun q => hj2 (by rw [q]; exact x2)
      rw [C j k (by omega) hk, if_neg (by omega), if_neg (by omega), if_neg (by omega)]
      exact hw _ (by omega) (by omega) (by omega)
    · rw [C c 5 (by omega) (by omega), if_neg (by omega), if_neg (by omega), if_pos ⟨rfl, rfl⟩, g0]
      exact hw 0 (by omega) (by omega) (by omega)
    · rw [e', v4]
      intro q
      have q := congrArg Int32.toInt q
      rw [qa_nI (by omega), qa_m1] at q
      omega
    · rw [e', v4]
      exact hr h4 c hc x2
    · rw [e']
      unfold bgG
      rw [pk_un (by omega), pk_un (by omega), pk_un (by omega), pk_un (by omega), pk_un (by omega), pk_un (by omega)]
      exact lvG_oth w (Or.inr (by omega)) (by omega) hq20 hp
  have nn : ∀ c, c < eN h → ix (nI c) = c := fun c hc => qa_ixn (by omega)
  have same3 : h 4 = (-1) ∨ ¬ h 4 = (-1) → (∀ i, i = 0 ∨ i = 4 → g' i = h i) → (∀ c, c < eN h → eC g' c 5 = eC h c 5) → TF3 g g' := by
    intro _ w1 w2
    rcases hm with q | q
    · exact Or.inl ((w1 4 (by omega)).trans q)
    · by_cases z : g 4 = (-1)
      · exact Or.inl ((w1 4 (by omega)).trans (q.trans z))
      · have hx := (G.2.2.1.resolve_left (by rw [q]; exact z)).2.1
        refine Or.inr (Or.inl ⟨(w1 4 (by omega)).trans q, z, ?_⟩)
        rw [w1 4 (by omega), w1 0 (by omega), w2 _ hx]
        exact T _ hx
  rcases hA with ⟨e, hs⟩ | ⟨h4, c, l, q0, hc, e, l3, hl, y0, e'⟩ | ⟨h4, q0, y0, y1, w, e'⟩ | ⟨h4, q0, y0, y1, w, s, s1, s3, hx⟩
  · subst e
    exact ⟨fun _ _ => rfl, rfl, rfl, fun _ => rfl, fun _ _ _ _ _ => rfl, same3 (Decidable.em _) (fun _ _ => rfl) (fun _ _ => rfl), Or.inl ⟨e8, Or.inr (Or.inl e7)⟩⟩
  · obtain ⟨b1, b2, b3, b4, b5, b6, b7, b8, b9, b10⟩ := beg h 0 c l (fun _ _ _ _ => rfl) q0 hc e h4 e'
    refine ⟨b1, b2, b3, fun q => absurd h4 q, b4, Or.inr (Or.inr ⟨b9, ?_, b6, by rw [← eQe]; exact q0, Or.inl ?_⟩), Or.inl ⟨b7.trans e8, Or.inl b9⟩⟩
    · rw [b5, nn c hc]
      exact b8
    · rw [b5, ← e41]
      exact e.symm
  · subst e'
    have un : ∀ i, i ≠ 7 → upd h 7 (h 7 + 1) i = h i := fun i hi => pk_un hi
    have F : eF h (upd h 7 (h 7 + 1)) := eF_upd h (by omega) _
    refine ⟨fun i hi => un i (by omega), un 6 (by omega), un 9 (by omega), fun q => absurd h4 q, fun c _ _ k _ => by rw [F.C], same3 (Decidable.em _) (fun i hi => un i (by omega)) (fun c _ => by rw [F.C]), Or.inl ⟨(un 8 (by omega)).trans e8, Or.inr (Or.inr ⟨?_, (un 4 (by omega)).trans h4, by rw [← eQe]; exact q0, by rw [F.Q, eQe], (un 41 (by omega)).trans e41, ?_, ?_⟩)⟩⟩
    · rw [pk_us, e7]
    · rw [eY_F F (un 0 (by omega)) (un 1 (by omega)) (un 4 (by omega)) (un 12 (by omega)), ← e41]
      exact y0
    · rw [eY_F F (un 0 (by omega)) (un 1 (by omega)) (un 4 (by omega)) (un 12 (by omega)), ← e41]
      exact y1
  · have wv : ∀ x3, kcG (upd h 7 (h 7 + 1)) s (h 41) (eY h (ix (h 41))) x3 8 = g 8 + 1 := by
      intro x3
      rw [(kcG_v _ s1 _ _ _).2.1, pk_un (by omega), e8]
    have hwk : ∀ x3 i, i < 481 → i ≠ 7 → i ≠ 8 → kcG (upd h 7 (h 7 + 1)) s (h 41) (eY h (ix (h 41))) x3 i = h i := fun x3 i h1 h2 h3 => (kcG_fr _ s1 _ _ _ h1 h2 h3).trans (pk_un h2)
    have hy := eY_range h (ix (h 41))
    have hy2 : 2 ≤ (eY h (ix (h 41))).toInt := by
      rw [qa_eq, qa_0] at y0
      rw [qa_eq, qa_1] at y1
      omega
    rcases hx with e' | ⟨p, c, l, p1, p2, hc, e, l3, hl, y9, e'⟩
    · subst e'
      obtain ⟨k1, k2, k3, k4, k5, k6⟩ := kcG_v (upd h 7 (h 7 + 1)) s1 (h 41) (eY h (ix (h 41))) (-1)
      have un := hwk (-1)
      have F2 : eF2 h (kcG (upd h 7 (h 7 + 1)) s (h 41) (eY h (ix (h 41))) (-1)) := fun i h1 h2 => un i h2 (by omega) (by omega)
      refine ⟨fun i hi => un i (by omega) (by omega) (by omega), un 6 (by omega) (by omega) (by omega), un 9 (by omega) (by omega) (by omega), fun q => absurd h4 q, fun c hc _ k hk => F2.C (by omega) hk, same3 (Decidable.em _) (fun i hi => un i (by omega) (by omega) (by omega)) (fun c hc => F2.C (by omega) (by omega)), Or.inr ⟨wv _, k1, by rw [← e7, ← e28]; exact w, by rw [← eQe]; exact q0, s, s1, by rw [← e8]; exact s3, ?_, ?_, ?_, Or.inr ⟨(un 4 (by omega) (by omega) (by omega)).trans h4, k6⟩⟩⟩
      · rw [k3, un 0 (by omega) (by omega) (by omega), pk_un (by omega)]
      · rw [← Nat.add_assoc, k4, e41]
      · rw [← Nat.add_assoc, k5]
        exact hy2
    · obtain ⟨k1, k2, k3, k4, k5, k6⟩ := kcG_v (upd h 7 (h 7 + 1)) s1 (h 41) (eY h (ix (h 41))) (nI c)
      obtain ⟨b1, b2, b3, b4, b5, b6, b7, b8, b9, b10⟩ := beg _ p c l (hwk (nI c)) p2 hc e h4 e'
      have b7' := b7.trans (wv _)
      refine ⟨b1, b2, b3, fun q => absurd h4 q, b4, Or.inr (Or.inr ⟨b9, ?_, b6, by rw [← eQe]; exact q0, Or.inr b7'⟩), Or.inr ⟨b7', b6, by rw [← e7, ← e28]; exact w, by rw [← eQe]; exact q0, s, s1, by rw [← e8]; exact s3, ?_, ?_, ?_, Or.inl ⟨b9, ?_⟩⟩⟩
      · rw [b5, nn c hc]
        exact b8
      · rw [b10 _ (by omega), k3, b1 0 (by omega), pk_un (by omega)]
      · rw [b10 _ (by omega), ← Nat.add_assoc, k4, e41]
      · rw [b10 _ (by omega), ← Nat.add_assoc, k5]
        exact hy2
      · rw [b10 _ (by omega), ← Nat.add_assoc, k6, b5]
/-- all of it -/
theorem tf_G {u : KS} {g : Nat → Int32} {B : Int} (R : eRel u g) (I : eInv B g) (hB : B + 2 ≤ 100000000) : TF g (tkG g) := by
  obtain ⟨hA, ⟨u2, R2, I2, T2⟩, ⟨u3, R3, I3, T3⟩⟩ := tk_dec R I hB
  have G := I.2.1
  have hn := G.1.n
  have z0 := I.2.2.2.2.1
  -- the winch's state
  have w1 : ∀ i, i ≠ 0 → i ≠ 1 → i ≠ 2 → i ≠ 3 → tk1 g i = g i := fun i h0 h1 h2 h3 => (wnG_fr (tk0 g) h1 h2 h3).trans (pk_un h0)
  have w0 : tk1 g 0 = g 0 + 1 := (wnG_fr (tk0 g) (by omega) (by omega) (by omega)).trans pk_us
  have FC : eF g (tk1 g) := fun i hi => w1 i (by omega) (by omega) (by omega) (by omega)
  have e4 : tk1 g 4 = g 4 := w1 4 (by omega) (by omega) (by omega) (by omega)
  have e5 : tk1 g 5 = g 5 := w1 5 (by omega) (by omega) (by omega) (by omega)
  have e6 : tk1 g 6 = g 6 := w1 6 (by omega) (by omega) (by omega) (by omega)
  have e9 : tk1 g 9 = g 9 := w1 9 (by omega) (by omega) (by omega) (by omega)
  have G1 := I2.2.1
  have G2 := I3.2.1
  have z03 := I3.2.2.2.2.1
  have p5 := I3.2.2.2.2.2.2.2.2.2.2.2.2.2.2.2
  by_cases h4 : g 4 = (-1)
  · have e2 : tk2 g = tk1 g := by unfold tk2; rw [if_pos (e4.trans h4)]
    rw [e2] at hA T3 G2 I3 z03 p5
    obtain ⟨a1, a2, a3, a4, a5, a6, a7⟩ := tf_ad I2.1 G1 T2 z03 (fun i hi => w1 i (by omega) (by omega) (by omega) (by omega)) hA (fun _ c hc _ q => by
      rw [h4] at q
      have q := congrArg Int32.toInt q
      have := G1.1.n
      rw [qa_nI (by omega), qa_m1] at q
      omega) (Or.inl (e4.trans h4)) p5
    exact ⟨⟨(a1 0 (by omega)).trans w0, a1 1 (by omega), a1 2 (by omega), a1 3 (by omega)⟩, Or.inl (a3.trans e9), fun q => absurd h4 q, a6, a7⟩
  · have e4' : ¬ tk1 g 4 = (-1) := by rw [e4]; exact h4
    have e2 : tk2 g = drG (tk1 g) := by unfold tk2; rw [if_neg e4']
    obtain ⟨x0, x1, x2⟩ := G.2.2.1.resolve_left h4
    -- what drive does
    have stay : ∀ h' : Nat → Int32, tk2 g = h' → (∀ i, i ≠ 5 → i ≠ 6 → i ≠ 11 → h' i = tk1 g i) → (h' 6 = g 6 ∧ h' 5 = g 5 + 1 ∨ h' 6 = g 6 + 1 ∧ h' 5 = g 5) → TF g (tkG g) := by
      intro h' eh' hh hv
      rw [eh'] at hA T3 G2 I3 z03 p5
      have q4 : h' 4 = g 4 := (hh 4 (by omega) (by omega) (by omega)).trans e4
      obtain ⟨a1, a2, a3, a4, a5, a6, a7⟩ := tf_ad I3.1 G2 T3 z03 (fun i hi => (hh i (by omega) (by omega) (by omega)).trans (w1 i (by omega) (by omega) (by omega) (by omega))) hA (fun q => absurd (q4.symm.trans q) h4) (Or.inr q4) p5
      have es := a4 (by rw [q4]; exact h4)
      have q9 : tkG g 9 = g 9 := a3.trans ((hh 9 (by omega) (by omega) (by omega)).trans e9)
      refine ⟨⟨(a1 0 (by omega)).trans ((hh 0 (by omega) (by omega) (by omega)).trans w0), (a1 1 (by omega)).trans (hh 1 (by omega) (by omega) (by omega)), (a1 2 (by omega)).trans (hh 2 (by omega) (by omega) (by omega)), (a1 3 (by omega)).trans (hh 3 (by omega) (by omega) (by omega))⟩, Or.inl q9, fun _ => ?_, a6, a7⟩
      rcases hv with ⟨v1, v2⟩ | ⟨v1, v2⟩
      · exact Or.inr (Or.inl ⟨q9, a2.trans v1, by rw [es]; exact v2⟩)
      · exact Or.inr (Or.inr ⟨q9, a2.trans v1, by rw [es]; exact v2, by rw [es]; exact q4⟩)
    have wait : tk2 g = upd (tk1 g) 6 (tk1 g 6 + 1) → TF g (tkG g) := fun e => stay _ e (fun i h5 h6 h11 => pk_un h6) (Or.inr ⟨by rw [pk_us, e6], (pk_un (by omega)).trans e5⟩)
    have e2' := e2
    unfold drG at e2'
    by_cases a1 : eO (tk1 g) (ix (tk1 g 4)) 0 < eP (tk1 g)
    · rw [if_pos a1] at e2'
      exact wait e2'
    · rw [if_neg a1] at e2'
      by_cases a2 : eI (tk1 g) ≤ eO (tk1 g) (ix (tk1 g 4)) 1
      · rw [if_pos a2] at e2'
        by_cases a3 : tk1 g 5 + 1 < tk1 g 27
        · rw [if_pos a3] at e2'
          exact stay _ e2' (fun i h5 h6 h11 => drX_fr _ h5 h11) (Or.inl ⟨(drX_fr _ (by omega) (by omega)).trans e6, by rw [drX_5, e5]⟩)
        · rw [if_neg a3] at e2'
          -- it comes on deck
          have d4 : drX (tk1 g) 4 = g 4 := (drX_fr _ (by omega) (by omega)).trans e4
          have fr : ∀ i, i < 61 → i ≠ 4 → i ≠ 5 → i ≠ 9 → i ≠ 11 → tk2 g i = tk1 g i := fun i h1 h2 h3 h4 h5 => by rw [e2']; exact (bdG_fr _ h1 h2 h3 h4).trans (drX_fr _ h3 h5)
          obtain ⟨v4, v5, v9⟩ := bdG_v (drX (tk1 g))
          have q4 : tk2 g 4 = (-1) := by rw [e2']; exact v4
          have q9 : tk2 g 9 = g 9 + 1 := by rw [e2', v9, drX_fr _ (by omega) (by omega), e9]
          have hN2 : eN (tk2 g) = eN g := by
            unfold eN
            rw [fr 13 (by omega) (by omega) (by omega) (by omega) (by omega), w1 13 (by omega) (by omega) (by omega) (by omega)]
          have C : ∀ j k, j < 60 → k < 7 → eC (tk2 g) j k = if j = ix (g 4) ∧ k = 2 then 2 else if j = ix (g 4) ∧ k = 6 then drX (tk1 g) 0 else eC (drX (tk1 g)) j k := fun j k hj hk => by rw [e2', bdG_C _ hj hk, d4]
          have c2 : eC (tk2 g) (ix (g 4)) 2 = 2 := by rw [C _ 2 (by omega) (by omega), if_pos ⟨rfl, rfl⟩]
          have c6 : eC (tk2 g) (ix (g 4)) 6 = tk1 g 0 := by
            rw [C _ 6 (by omega) (by omega), if_neg (by omega), if_pos ⟨rfl, rfl⟩]
            exact drX_fr _ (by omega) (by omega)
          obtain ⟨b1, b2, b3, b4, b5, b6, b7⟩ := tf_ad I3.1 G2 T3 z03 (fun i hi => (fr i (by omega) (by omega) (by omega) (by omega) (by omega)).trans (w1 i (by omega) (by omega) (by omega) (by omega))) hA (fun _ c hc hc2 q => by
            have : c = ix (g 4) := by
              rw [← q]
              exact (qa_ixn (by have := G2.1.n; have := G2.1.2.1; omega)).symm
            rw [this, c2] at hc2
            exact absurd hc2 (by decide)) (Or.inl q4) p5
          have g9 : tkG g 9 = g 9 + 1 := b3.trans q9
          have f0 := fr 0 (by omega) (by omega) (by omega) (by omega) (by omega)
          have cc : ∀ k, k < 7 → eC (tkG g) (ix (g 4)) k = eC (tk2 g) (ix (g 4)) k := fun k hk => b5 _ (by rw [hN2]; exact x1) (by rw [c2]; decide) k hk
          refine ⟨⟨(b1 0 (by omega)).trans (f0.trans w0), (b1 1 (by omega)).trans (fr 1 (by omega) (by omega) (by omega) (by omega) (by omega)), (b1 2 (by omega)).trans (fr 2 (by omega) (by omega) (by omega) (by omega) (by omega)), (b1 3 (by omega)).trans (fr 3 (by omega) (by omega) (by omega) (by omega) (by omega))⟩, Or.inr ⟨g9, h4, (cc 2 (by omega)).trans c2, ?_⟩, fun _ => Or.inl ⟨g9, b2.trans ((fr 6 (by omega) (by omega) (by omega) (by omega) (by omega)).trans e6)⟩, b6, b7⟩
          rw [cc 6 (by omega), c6, b1 0 (by omega), f0]
      · rw [if_neg a2] at e2'
        exact wait e2'
