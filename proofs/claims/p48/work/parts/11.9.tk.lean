/-! a tick -/
theorem qa_first {p : Nat → Prop} [DecidablePred p] : ∀ n, (∃ i, i < n ∧ p i) → ∃ i, i < n ∧ p i ∧ ∀ j, j < i → ¬ p j := by
  intro n
  induction n with
  | zero =>
    intro h
    obtain ⟨i, h, -⟩ := h
    omega
  | succ n ih =>
    intro h
    by_cases e : ∃ i, i < n ∧ p i
    · obtain ⟨i, h1, h2, h3⟩ := ih e
      exact ⟨i, by omega, h2, h3⟩
    · obtain ⟨i, h1, h2⟩ := h
      by_cases q : i < n
      · exact absurd ⟨i, q, h2⟩ e
      · exact ⟨i, h1, h2, fun j hj hp => e ⟨j, by omega, hp⟩⟩
def eBg (g : Nat → Int32) : Int32 := sI (eBf g) (eN g)
theorem eF.Bg {g g' : Nat → Int32} (h : eF g g') : eBg g' = eBg g := by
  unfold eBg
  rw [h.N, h.B]
theorem eF.U {g g' : Nat → Int32} (h : eF g g') (h0 : g' 0 = g 0) (T : eU g) : eU g' := by
  unfold eU
  rw [h.N, h.C, h0]
  exact T
theorem eInv.mono {B B' : Int} {g : Nat → Int32} (I : eInv B g) (h : B ≤ B') (h' : B' ≤ 100000000) : eInv B' g := by
  obtain ⟨S, G, z1, z2, z3, z4, z5, z6, z7, z8, z9, z10, z11, z12, z13, z14⟩ := I
  exact ⟨S, G, by omega, h', z3, by omega, by omega, by omega, z7, z8, z9, z10, z11, by omega, z13, z14⟩
theorem tk_time {u : KS} {g : Nat → Int32} {B : Int} (R : eRel u g) (I : eInv B g) (hB : B + 1 ≤ 100000000) : ∃ u', fX8_measureAll (wC u 0 (sC u 0 + 1)) = some u' ∧ eRel u' (upd g 0 (g 0 + 1)) ∧ eInv (B + 1) (upd g 0 (g 0 + 1)) ∧ eU (upd g 0 (g 0 + 1)) := by
  obtain ⟨RA, RB, RL, RH⟩ := R
  obtain ⟨S, G, z1, z2, z3, z4, z5, z6, z7, z8, z9, z10, z11, z12, z13, z14⟩ := I
  have F : eF g (upd g 0 (g 0 + 1)) := eF_upd g (by omega) _
  have ht : (g 0 + 1).toInt = (g 0).toInt + 1 := by rw [qa_add (by rw [qa_1]; omega) (by rw [qa_1]; omega), qa_1]
  have RA' : eRA (wC u 0 (sC u 0 + 1)) (upd g 0 (g 0 + 1)) := by
    rw [RA.1.1]
    exact eRA_0 RA _
  have G' : eG (upd g 0 (g 0 + 1)) := F.G rfl (by show (g 0).toInt ≤ (g 0 + 1).toInt; omega) G
  have S' := F.S S
  have Z' : eZ (B + 1) (upd g 0 (g 0 + 1)) := ⟨by omega, hB, by show 0 ≤ (g 0 + 1).toInt; omega, by show (g 0 + 1).toInt ≤ _; omega, by show -(B + 1) ≤ (g 1).toInt; omega, by show (g 1).toInt ≤ _; omega, z7, z8, z9, z10, z11, by show (g 8).toInt ≤ _; omega, z13, z14⟩
  have h7 : sC (wC u 0 (sC u 0 + 1)) 7 = eLd (upd g 0 (g 0 + 1)) := by
    rw [F.Ld]
    exact RB.2.1
  refine ⟨_, sb_measureAll RA' S' Z' h7 G', ⟨RA'.d _ _ _, F.RB RB rfl rfl rfl rfl, F.RL RL rfl rfl, rfl, rfl, rfl⟩, ⟨S', G', Z'⟩, ?_⟩
  unfold eU
  rw [F.N, F.C]
  intro c hc
  have := (G.2.1 c hc).2.2.2.2.2.2.1
  show _ < (g 0 + 1).toInt
  omega
theorem dr_sim {u : KS} {g : Nat → Int32} {B : Int} (R : eRel u g) (I : eInv B g) (T : eU g) (h4 : ¬ g 4 = (-1)) : ∃ u' g', fX8_runCarOnRamp u = some u' ∧ fX10_drive g = some g' ∧ eRel u' g' ∧ eInv B g' ∧ eU g' ∧ eBg g' = eBg g ∧ (g' 4 = g 4 ∨ g' 4 = (-1)) ∧ eN g' = eN g ∧ ∀ c, c < eN g → eC g' c 2 = 0 → eC g c 2 = 0 := by
  have hR := R
  have hI := I
  obtain ⟨RA, RB, RL, RH⟩ := R
  obtain ⟨S, G, Z⟩ := I
  have hn := G.1.n
  obtain ⟨x0, x1, x2⟩ := G.2.2.1.resolve_left h4
  have hx := qa_ixI x0
  have c8 : sC u 8 = g 4 := RA.1.2.2.2.2.2.2.1
  have c9 : sC u 9 = g 5 := RA.1.2.2.2.2.2.2.2.1
  have c10 : sC u 10 = g 6 := RA.1.2.2.2.2.2.2.2.2.1
  have c15 : sC u 15 = g 11 := RA.1.2.2.2.2.2.2.2.2.2.2.2.2.2.1
  have t12 : sT u 12 = g 27 := RA.2.1 12 (by decide)
  have stood : ∃ u' g', some (wC u 10 (g 6 + 1)) = some u' ∧ some (upd g 6 (g 6 + 1)) = some g' ∧ eRel u' g' ∧ eInv B g' ∧ eU g' ∧ eBg g' = eBg g ∧ (g' 4 = g 4 ∨ g' 4 = (-1)) ∧ eN g' = eN g ∧ ∀ c, c < eN g → eC g' c 2 = 0 → eC g c 2 = 0 := by
    have F : eF g (upd g 6 (g 6 + 1)) := eF_upd g (by omega) _
    exact ⟨_, _, rfl, rfl, hR.mv (eRA_10 RA _) F rfl rfl rfl rfl rfl rfl rfl rfl rfl rfl rfl, ⟨F.S S, F.G rfl (Int.le_refl _) G, Z⟩, F.U rfl T, F.Bg, Or.inl rfl, F.N, fun c _ h => by rw [F.C] at h; exact h⟩
  unfold fX8_runCarOnRamp fX8_runCarOnRamp_b0 fX8_runCarOnRamp_b40 fX10_drive fX10_drive_b0 fX10_drive_b33
  rw [c8, if_neg h4, sb_carKind RA G.1 (ix (g 4)) 0 hx x1 qa_0 (by decide), qa_b, sb_carKind RA G.1 (ix (g 4)) 1 hx x1 qa_1 (by decide), qa_b, RH.2.1, RH.2.2, c10, rb_slopeNow, qa_b, rb_kindOf G.1 (ix (g 4)) 0 hx x1 qa_0 (by decide), qa_b, rb_lipNow S G.1, qa_b, rb_kindOf G.1 (ix (g 4)) 1 hx x1 qa_1 (by decide), qa_b]
  by_cases e1 : eO g (ix (g 4)) 0 < eP g
  · rw [if_pos e1, if_pos e1]
    exact stood
  · rw [if_neg e1, if_neg e1]
    by_cases e2 : eI g ≤ eO g (ix (g 4)) 1
    · rw [if_pos e2, if_pos e2, rb_slopeNow, qa_b]
      -- it drives
      obtain ⟨m, hm⟩ : ∃ m, m = (if g 11 < eP g then eP g else g 11) := ⟨_, rfl⟩
      obtain ⟨X, hX⟩ : ∃ X, X = upd (upd g 5 (g 5 + 1)) 11 m := ⟨_, rfl⟩
      have F : eF g X := by
        rw [hX]
        exact (eF_upd g (by omega) _).trans (eF_upd _ (by omega) _)
      have X4 : X 4 = g 4 := by rw [hX]; rfl
      have X0 : X 0 = g 0 := by rw [hX]; rfl
      have X1 : X 1 = g 1 := by rw [hX]; rfl
      have X9 : X 5 = g 5 + 1 := by rw [hX]; rfl
      have X27 : X 27 = g 27 := by rw [hX]; rfl
      have eP5 : eP (upd g 5 (g 5 + 1)) = eP g := rfl
      have eg : upd (upd g 5 (g 5 + 1)) 11 (if (upd g 5 (g 5 + 1)) 11 < eP (upd g 5 (g 5 + 1)) then eP (upd g 5 (g 5 + 1)) else (upd g 5 (g 5 + 1)) 11) = X := by
        rw [eP5, pk_un (by omega), ← hm, hX]
      obtain ⟨U, hU⟩ : ∃ U, U = wC (wC u 9 (g 5 + 1)) 15 m := ⟨_, rfl⟩
      have RX : eRel U X := by
        rw [hU, hX]
        refine hR.mv (eRA_15 (eRA_9 RA _) _) ?_ rfl rfl rfl rfl rfl rfl rfl rfl rfl rfl rfl
        rw [← hX]
        exact F
      have Z' := Z
      have IX : eInv B X := by
        refine ⟨F.S S, F.G X4 (by rw [X0]; exact Int.le_refl _) G, ?_⟩
        obtain ⟨z1, z2, z3, z4, z5, z6, z7, z8, z9, z10, z11, z12, z13, z14⟩ := Z
        rw [hX]
        exact ⟨z1, z2, z3, z4, z5, z6, z7, z8, z9, z10, z11, z12, z13, fun h => absurd h h4⟩
      have h88 : (if sp (wC u 9 (sC u 9 + 1)) ≤ sC (wC u 9 (sC u 9 + 1)) 15 then fX8_runCarOnRamp_b88 (g 4) (wC u 9 (sC u 9 + 1)) else fX8_runCarOnRamp_b88 (g 4) (wC (wC u 9 (sC u 9 + 1)) 15 (sp (wC u 9 (sC u 9 + 1))))) = fX8_runCarOnRamp_b88 (g 4) U := by
        rw [show sp (wC u 9 (sC u 9 + 1)) = eP g from RH.2.1, show sC (wC u 9 (sC u 9 + 1)) 15 = g 11 from c15, c9, hU, hm]
        by_cases q : g 11 < eP g
        · rw [if_neg (Int32.not_le.mpr q), if_pos q]
        · rw [if_pos (Int32.not_lt.mp q), if_neg q]
          have : wC (wC u 9 (g 5 + 1)) 15 (g 11) = wC u 9 (g 5 + 1) := by
            refine Prod.ext ?_ rfl
            show upd (upd (sC u) 9 (g 5 + 1)) 15 (g 11) = upd (sC u) 9 (g 5 + 1)
            funext i
            by_cases qi : i = 15
            · rw [qi, pk_us, pk_un (by omega)]
              exact c15.symm
            · rw [pk_un qi]
          rw [this]
      rw [h88, eg]
      unfold fX8_runCarOnRamp_b88
      have U9 : sC U 9 = X 5 := RX.1.1.2.2.2.2.2.2.2.1
      have U12 : sT U 12 = X 27 := RX.1.2.1 12 (by decide)
      rw [U9, U12]
      by_cases e3 : X 5 < X 27
      · rw [if_pos e3, if_pos e3]
        exact ⟨_, _, rfl, rfl, RX, IX, F.U X0 T, F.Bg, Or.inl X4, F.N, fun c _ h => by rw [F.C] at h; exact h⟩
      · rw [if_neg e3, if_neg e3, bd_g X4.symm (by rw [X4]; exact x0) (by rw [X4]; omega)]
        have h4X : ¬ X 4 = (-1) := by rw [X4]; exact h4
        obtain ⟨u', b1, b2, b3⟩ := bd_put RX IX h4X
        rw [X4] at b1
        have NX : eN X = eN g := F.N
        have hN : eN (bdG X) = eN X := by
          unfold eN bdG
          rw [pk_un (by omega), pk_un (by omega), pk_un (by omega), pk_un (by omega), pk_un (by omega)]
        have hC5 : ∀ j, eC (bdG X) j 5 = eC X j 5 := by
          intro j
          unfold bdG
          rw [eC_un (by omega), eC_un (by omega), eC_un (by omega), eC_un (by omega), eC_un (by omega)]
        have h0' : bdG X 0 = X 0 := by
          unfold bdG
          rw [pk_un (by omega), pk_un (by omega), pk_un (by omega), pk_un (by omega), pk_un (by omega)]
        refine ⟨u', _, b1, rfl, b2, b3, ?_, ?_, Or.inr ?_, by rw [hN, NX], ?_⟩
        · intro j hj
          rw [hC5, h0']
          rw [hN] at hj
          exact (F.U X0 T) j hj
        · rw [← F.Bg]
          unfold eBg
          rw [hN]
          exact sI_congr fun j _ => by
            unfold eBf
            rw [hC5]
        · unfold bdG
          rw [pk_un (by omega), pk_un (by omega), pk_us]
        · intro c hc h
          by_cases q : c = ix (X 4)
          · rw [q] at h
            unfold bdG at h
            rw [eC_un (by omega), eC_un (by omega), eC_un (by omega), eC_un (by omega), eC_us] at h
            exact absurd h (by decide)
          · unfold bdG at h
            rw [eC_un (by omega), eC_un (by omega), eC_un (by omega), eC_un (by omega), eC_un (by omega), F.C] at h
            exact h
    · rw [if_neg e2, if_neg e2]
      exact stood
theorem eY_0 {g : Nat → Int32} {c : Nat} (h : eY g c = 0) : g 4 = (-1) ∧ ¬ eLn g (eO g c 2) (eC g c 1) 3 = (-1) := by
  unfold eY at h
  by_cases a1 : g 12 = 0
  · rw [if_pos a1] at h
    exact absurd h (by decide)
  rw [if_neg a1] at h
  by_cases a2 : g 4 = (-1)
  · rw [if_pos a2] at h
    by_cases a3 : eFs g (eO g c 2)
    · rw [if_pos a3] at h
      by_cases a4 : eLd g + eC g c 1 ≤ g 22
      · rw [if_pos a4] at h
        by_cases a5 : eLn g (eO g c 2) (eC g c 1) 3 = (-1)
        · rw [if_pos a5] at h
          exact absurd h (by decide)
        · exact ⟨a2, a5⟩
      · rw [if_neg a4] at h
        exact absurd h (by decide)
    · rw [if_neg a3] at h
      exact absurd h (by decide)
  · rw [if_neg a2] at h
    exact absurd h (by decide)
theorem eLn_l {g : Nat → Int32} {len w : Int32} (h : ¬ eLn g len w 3 = (-1)) : ∃ l, l < 3 ∧ eLn g len w 3 = nI l := by
  have := (eLn_rng g len w 3 (by omega)).resolve_left h
  have h1 := qa_ixI this.1
  exact ⟨ix (eLn g len w 3), by omega, (qa_nIx this.1).symm⟩
/-- a car of the queue begins, on both sides -/
theorem bg_sim {u : KS} {g : Nat → Int32} {B : Int} (R : eRel u g) (I : eInv B g) (T : eU g) {p : Nat} (hp : p < eQ g) (h : eY g (ix (g (41 + p))) = 0) :
    ∃ c l, c < eN g ∧ g (41 + p) = nI c ∧ eC g c 2 = 0 ∧ fX8_begin (nI p) u = some (bgU u p (eQ g) c l (eC g c 1) (eO g c 2) (g 0)) ∧ fX10_beginToDrive (g (41 + p)) g = some (bgG g p (eQ g) c (nI l)) ∧
      eRel (bgU u p (eQ g) c l (eC g c 1) (eO g c 2) (g 0)) (bgG g p (eQ g) c (nI l)) ∧ eInv B (bgG g p (eQ g) c (nI l)) ∧ eBg (bgG g p (eQ g) c (nI l)) = eBg g + 1 ∧ (bgG g p (eQ g) c (nI l)) 4 = nI c := by
  have hG := I.2.1
  obtain ⟨v1, v2, v3⟩ := hG.2.2.2.2.1 p hp
  obtain ⟨h4, hl⟩ := eY_0 h
  obtain ⟨l, l1, l2⟩ := eLn_l hl
  have e : g (41 + p) = nI (ix (g (41 + p))) := (qa_nIx v1).symm
  obtain ⟨r1, r2, r3, r4⟩ := bg_rel R I T h4 hp v2 e l1 l2
  refine ⟨ix (g (41 + p)), l, v2, e, v3, bg_u R I.1 hG hp v2 e l1 l2, ?_, r1, r2, ?_, ?_⟩
  · have := bg_g hG hp v2 e l2
    rw [← e] at this
    exact this
  · unfold eBg
    rw [r4]
    exact r3
  · unfold bgG
    rw [pk_un (by omega), pk_un (by omega), pk_us]
-- a call of the crew is kept
def kcU (u : KS) (s : Nat) (t x1 x2 x3 n : Int32) : KS := wC (wL (wL (wL (wL u s t) (s + 1) x1) (s + 2) x2) (s + 3) x3) 12 n
def kcG (g : Nat → Int32) (s : Nat) (x1 x2 x3 : Int32) : Nat → Int32 := upd (upd (upd (upd (upd (upd g (481 + s) (g 0)) (481 + s + 1) x1) (481 + s + 2) x2) (481 + s + 3) x3) 8 (g 8 + 1)) 7 0
theorem kc_spot {x : Int32} (h : 0 ≤ x.toInt) : ∃ s : Nat, s + 3 < 80 ∧ (x - x / 20 * 20).toInt * 4 = (s : Int) ∧ (s : Int) = 4 * (x.toInt % 20) := by
  have h20 : (20 : Int32).toInt = 20 := by decide
  have h1 := qa_rem (y := 20) h (by omega)
  rw [h20] at h1
  refine ⟨(4 * (x.toInt % 20)).toNat, by omega, by omega, by omega⟩
theorem kc_u {u : KS} {x1 x2 x3 : Int32} (h : 0 ≤ (sC u 12).toInt) {s : Nat} (hs : s + 3 < 80) (e : (sC u 12 - sC u 12 / 20 * 20).toInt * 4 = (s : Int)) : fX8_keepCall x1 x2 x3 u = some (kcU u s (sC u 0) x1 x2 x3 (sC u 12 + 1)) := by
  unfold fX8_keepCall fX8_keepCall_b0
  generalize sC u 12 - sC u 12 / 20 * 20 = r at e
  have i0 : (r * 4).toInt = (s : Int) := by
    rw [qa_mul (by rw [qa_4]; omega) (by rw [qa_4]; omega), qa_4]
    exact e
  have i1 : (r * 4 + 0).toInt = (s : Int) := by rw [Int32.add_zero]; exact i0
  have i2 : (r * 4 + 1).toInt = ((s + 1 : Nat) : Int) := by rw [qa_add (by rw [i0, qa_1]; omega) (by rw [i0, qa_1]; omega), i0, qa_1]; omega
  have i3 : (r * 4 + 2).toInt = ((s + 2 : Nat) : Int) := by rw [qa_add (by rw [i0, qa_2]; omega) (by rw [i0, qa_2]; omega), i0, qa_2]; omega
  have i4 : (r * 4 + 3).toInt = ((s + 3 : Nat) : Int) := by rw [qa_add (by rw [i0, qa_3]; omega) (by rw [i0, qa_3]; omega), i0, qa_3]; omega
  have i5 : (r * 4 + 4).toInt = (s : Int) + 4 := by rw [qa_add (by rw [i0, qa_4]; omega) (by rw [i0, qa_4]; omega), i0, qa_4]
  rw [if_neg (by rw [qa_lt, i0, qa_0]; omega), if_pos (by rw [qa_le, i5, show (80 : Int32).toInt = 80 by decide]; omega), qa_gi (by omega) (by omega), qa_gi (by omega) (by omega), qa_gi (by omega) (by omega), qa_gi (by omega) (by omega), qa_ix i1, qa_ix i2, qa_ix i3, qa_ix i4]
  simp only [qs_C]
  rfl
theorem kc_g {g : Nat → Int32} {x1 x2 x3 : Int32} {s : Nat} (hs : s + 3 < 80) (e : (g 8 - g 8 / 20 * 20).toInt * 4 = (s : Int)) : fX10_callCrew_b68 x1 x2 x3 g = (if x3 = (-1) then some (kcG g s x2 x1 x3) else fX10_beginToDrive x3 (kcG g s x2 x1 x3)) := by
  unfold fX10_callCrew_b68
  obtain ⟨r, hr⟩ : ∃ r, r = g 8 - g 8 / 20 * 20 := ⟨_, rfl⟩
  rw [← hr] at e ⊢
  have i0 : (481 + 4 * r).toInt = ((481 + s : Nat) : Int) := qx_481 hs e
  have i2 : (481 + 4 * r + 1).toInt = ((481 + s + 1 : Nat) : Int) := by rw [qa_add (by rw [i0, qa_1]; omega) (by rw [i0, qa_1]; omega), i0, qa_1]; omega
  have i3 : (481 + 4 * r + 2).toInt = ((481 + s + 2 : Nat) : Int) := by rw [qa_add (by rw [i0, qa_2]; omega) (by rw [i0, qa_2]; omega), i0, qa_2]; omega
  have i4 : (481 + 4 * r + 3).toInt = ((481 + s + 3 : Nat) : Int) := by rw [qa_add (by rw [i0, qa_3]; omega) (by rw [i0, qa_3]; omega), i0, qa_3]; omega
  rw [qa_gi (by omega) (by omega), qa_gi (by omega) (by omega), qa_gi (by omega) (by omega), qa_gi (by omega) (by omega), qa_ix i0, qa_ix i2, qa_ix i3, qa_ix i4]
  have h8 : upd (upd (upd (upd g (481 + s) (g 0)) (481 + s + 1) x2) (481 + s + 2) x1) (481 + s + 3) x3 8 = g 8 := by
    rw [pk_un (by omega), pk_un (by omega), pk_un (by omega), pk_un (by omega)]
  rw [h8]
  by_cases q : x3 = (-1)
  · rw [if_pos q, if_pos q]
    rfl
  · rw [if_neg q, if_neg q]
    show bnd (fX10_beginToDrive x3 (kcG g s x2 x1 x3)) _ = _
    cases fX10_beginToDrive x3 (kcG g s x2 x1 x3) <;> rfl
