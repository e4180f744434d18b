/-! p48, pure: the law's comes says yes -/
theorem ad_w {h g' : Nat → Int32} (G : eG h) (hA : tkA h g') {c : Nat} (hc : c < eN h) (h2 : ¬ eC h c 2 = 0) {k : Nat} (hk : k < 7) : eC g' c k = eC h c k := by
  have hn := G.1.n
  have hq := G.q
  have hq20 : eQ h ≤ 20 := by omega
  have x2 : ∀ p j, p < eQ h → j < eN h → h (41 + p) = nI j → eC h j 2 = 0 := fun p j hp hj e => by
    have := (G.2.2.2.2.1 p hp).2.2
    rw [e, qa_ixn (by omega)] at this
    exact this
  rcases hA with ⟨e, hs⟩ | ⟨h4, j, l, q0, hj, e, l3, hl, y0, e'⟩ | ⟨h4, q0, y0, y1, w, e'⟩ | ⟨h4, q0, y0, y1, w, s, s1, s3, hx⟩
  · rw [e]
  · have hjc : c ≠ j := fun z => h2 (by rw [z]; exact x2 0 j q0 hj e)
    rw [e', bgG_C h hq20 q0 (nI l) (by omega) hk, if_neg (by omega), if_neg (by omega), if_neg (by omega)]
  · rw [e']
    exact pk_un (by omega)
  · have F2 : ∀ x3, eF2 h (kcG (upd h 7 (h 7 + 1)) s (h 41) (eY h (ix (h 41))) x3) := fun x3 i h1 h2 => (kcG_fr _ s1 _ _ _ h2 (by omega) (by omega)).trans (pk_un (by omega))
    rcases hx with e' | ⟨p, j, l, p1, p2, hj, e, l3, hl, y9, e'⟩
    · rw [e']
      exact (F2 _).C (by omega) hk
    · have hjc : c ≠ j := fun z => h2 (by rw [z]; exact x2 p j p2 hj e)
      rw [e', bgG_C _ hq20 p2 (nI l) (by omega) hk, if_neg (by omega), if_neg (by omega), if_neg (by omega)]
      exact (F2 _).C (by omega) hk
/-- who isn't in the queue comes there no more, and began when it began -/
theorem tk_w {u : KS} {g : Nat → Int32} {B : Int} (R : eRel u g) (I : eInv B g) (hB : B + 2 ≤ 100000000) : eN (tkG g) = eN g ∧ ∀ c, c < eN g → ¬ eC g c 2 = 0 → ¬ eC (tkG g) c 2 = 0 ∧ eC (tkG g) c 5 = eC g c 5 := by
  obtain ⟨hA, ⟨u2, R2, I2, T2⟩, ⟨u3, R3, I3, T3⟩⟩ := tk_dec R I hB
  have hN : eN (tkG g) = eN g := by
    unfold eN
    rw [tk_fr R I hB (Or.inl rfl)]
  refine ⟨hN, fun c hc h2 => ?_⟩
  have hn := I.2.1.1.n
  have F1 : eF g (tk1 g) := fun i hi => (wnG_fr (tk0 g) (by omega) (by omega) (by omega)).trans (pk_un (by omega))
  have e4 : tk1 g 4 = g 4 := (wnG_fr (tk0 g) (by omega) (by omega) (by omega)).trans (pk_un (by omega))
  have k2 : ¬ eC (tk2 g) c 2 = 0 ∧ eC (tk2 g) c 5 = eC g c 5 ∧ eN (tk2 g) = eN g := by
    have same : ∀ h', tk2 g = h' → eF (tk1 g) h' → ¬ eC (tk2 g) c 2 = 0 ∧ eC (tk2 g) c 5 = eC g c 5 ∧ eN (tk2 g) = eN g := by
      intro h' e F
      rw [e, (F1.trans F).C, (F1.trans F).N]
      exact ⟨h2, rfl, rfl⟩
    have e2 : tk2 g = if tk1 g 4 = (-1) then tk1 g else drG (tk1 g) := rfl
    by_cases z : tk1 g 4 = (-1)
    · rw [if_pos z] at e2
      exact same _ e2 (eF.refl _)
    · rw [if_neg z] at e2
      unfold drG at e2
      split at e2
      · exact same _ e2 (eF_upd _ (by omega) _)
      · split at e2
        · split at e2
          · exact same _ e2 (drX_F _)
          · have FX := F1.trans (drX_F (tk1 g))
            have hN2 : eN (tk2 g) = eN g := by
              rw [e2]
              unfold eN
              rw [bdG_fr _ (by omega) (by omega) (by omega) (by omega), FX 13 (by omega)]
            refine ⟨?_, ?_, hN2⟩
            · rw [e2, bdG_C _ (by omega) (by omega)]
              split
              · decide
              · rw [if_neg (by omega), FX.C]
                exact h2
            · rw [e2, bdG_C _ (by omega) (by omega), if_neg (by omega), if_neg (by omega), FX.C]
        · exact same _ e2 (eF_upd _ (by omega) _)
  obtain ⟨a, b, cN⟩ := k2
  have w := fun k (hk : k < 7) => ad_w I3.2.1 hA (c := c) (by rw [cN]; exact hc) a hk
  rw [w 2 (by omega), w 5 (by omega)]
  exact ⟨a, b⟩
theorem it_w {u : KS} {g : Nat → Int32} {B : Int} (R : eRel u g) (I : eInv B g) (P : PX g) : ∀ n : Nat, B + 2 * n ≤ 100000000 → eN (itG n g) = eN g ∧ (itG n g 0).toInt = (g 0).toInt + n ∧ ∀ c, c < eN g → ¬ eC g c 2 = 0 → ¬ eC (itG n g) c 2 = 0 ∧ eC (itG n g) c 5 = eC g c 5 := by
  intro n
  induction n with
  | zero =>
    intro _
    exact ⟨rfl, by show (g 0).toInt = _; omega, fun c hc h2 => ⟨h2, rfl⟩⟩
  | succ n ih =>
    intro hB
    obtain ⟨a, b, c⟩ := ih (by omega)
    obtain ⟨⟨v, Rv⟩, Iv, -⟩ := PX.it n R I (by omega) P
    obtain ⟨d, e⟩ := tk_w Rv Iv (by omega)
    obtain ⟨⟨t0, -⟩, -⟩ := tf_G Rv Iv (by omega)
    rw [itG_s]
    refine ⟨d.trans a, ?_, fun j hj h2 => ?_⟩
    · have z := Iv.2.2.2.2.1
      have z' := Iv.2.2.2.2.2.1
      rw [t0, qa_add (by rw [qa_1]; omega) (by rw [qa_1]; omega), qa_1, b]
      omega
    · obtain ⟨k1, k2⟩ := c j hj h2
      obtain ⟨m1, m2⟩ := e j (by rw [a]; exact hj) k1
      exact ⟨m1, m2.trans k2⟩
theorem i_tel (a b c : Int32) : (b - a) + (c - b) = c - a := by
  rw [Int32.sub_eq_add_neg, Int32.sub_eq_add_neg, Int32.sub_eq_add_neg, Int32.add_comm c (-b), ← Int32.add_assoc, Int32.add_assoc b, Int32.add_comm (-a) (-b), ← Int32.add_assoc, Int32.add_right_neg, Int32.zero_add, Int32.add_comm]
/-- ticks in a row -/
theorem tn_G {F : FS} {g : Nat → Int32} {B : Int} (h : FG B F g) {n : Nat} (h1 : 1 ≤ n) (hn : n ≤ 50) (hB : B + 400 ≤ 100000000) {x : Int32} (hx : x.toInt = (n : Int)) : ∃ F', fL_tick x F = some (itG n g 9 - g 9, F') ∧ FG (B + 2 * n) F' (itG n g) ∧ fA F' = fA F ∧ fB F' = fB F ∧ fI F' = fI F := tc_G h h1 hn hB hx
theorem rs_G {F : FS} {g g0 : Nat → Int32} {B B0 : Int} (h : FG B F g) (hA : eRel (fA F) g0) (I0 : eInv B0 g0) (h1 : fI F 0 = 1) : ∃ F', fL_restore 0 F = some (0, F') ∧ FG B0 F' g0 ∧ fA F' = fA F ∧ fI F' = fI F := by
  obtain ⟨F', e, r⟩ := re_G h hA I0 h1
  refine ⟨F', ?_, r⟩
  unfold fL_restore
  rw [e]
  rfl
/-- the last leg: some ticks, in one go or in two, and back -/
theorem co_318 {F : FS} {g : Nat → Int32} {B : Int} (h : FG B F g) (P : PX g) (hB : B + 1000 ≤ 100000000) {Y : YB} (hN : Y.2.2.1 < 2147483648) {k : Nat} (hk : k < 1000000) (hA : eRel (fA F) g) (h1 : fI F 0 = 1) {n : Nat} (n1 : 1 ≤ n) (n2 : n ≤ 30) : ∃ F' k1 g', fL_comes_b281 (nI n) (itG n g 9 - g 9) Y (nI k) F = some (1, nI k1, F') ∧ k1 ≤ k + 2 ∧ FG (B + 60) F' g' ∧ PX g' := by
  have fin : ∀ (F1 : FS) (a b : Nat) (x8 : Int32) (k : Nat), k < 1000001 → a + b = n → 1 ≤ b → FG (B + 2 * a) F1 (itG a g) → x8 = itG a g 9 - g 9 → fA F1 = fA F → fI F1 = fI F → ∃ F' k1 g', fL_comes_b318 (nI n) (itG n g 9 - g 9) (g 9) x8 (nI a) Y (nI k) F1 = some (1, nI k1, F') ∧ k1 ≤ k + 1 ∧ FG (B + 60) F' g' ∧ PX g' := by
    intro F1 a b x8 k hk hab hb hF1 e8 eA eI
    have ex : nI n - nI a = nI b := by
      have := pk_sub (a := a) (b := n) (by omega)
      rw [this, show n - a = b by omega]
    obtain ⟨F2, e2, h2, a2, b2, i2⟩ := tn_G hF1 (n := b) hb (by omega) (by omega) (x := nI n - nI a) (by rw [ex, qa_nI (by omega)])
    rw [← itG_add, hab] at e2 h2
    have h2 : FG (B + 60) F2 (itG n g) := h2.mono (by omega) (by omega)
    have P2 := (PX.it n h.1 h.2.1 (by omega) P).2.2
    obtain ⟨t3, e3⟩ := bo_G h2 (n := 200) (by omega) (by omega) (by omega) (x := 200) (by decide)
    have e3 : fL_boardIn 200 F2 = some (itG 200 (itG n g) 9 - itG n g 9, gT F2 t3) := e3
    have h3 : FG (B + 60) (gT F2 t3) (itG n g) := h2.T t3
    obtain ⟨t4, e4⟩ := bo_G h3 (n := 1) (by omega) (by omega) (by omega) (x := 1) (by decide)
    have e4 : fL_boardIn 1 (gT F2 t3) = some (itG 1 (itG n g) 9 - itG n g 9, gT (gT F2 t3) t4) := e4
    have h4 : FG (B + 60) (gT (gT F2 t3) t4) (itG n g) := h3.T t4
    have lt : ¬ itG 200 (itG n g) 9 - itG n g 9 < itG 1 (itG n g) 9 - itG n g 9 := by
      obtain ⟨⟨v, Rv⟩, Iv, Pv⟩ := PX.it 1 h2.1 h2.2.1 (by omega) P2
      have m1 := it_9 199 Rv Iv (by omega) Pv
      rw [← itG_add] at m1
      have m0 := it_9 1 h2.1 h2.2.1 (by omega) P2
      have m2 := it_9 200 h2.1 h2.2.1 (by omega) P2
      have p0 : 0 ≤ (itG n g 9).toInt := by
        rw [P2.2.1]
        have hn := h2.2.1.2.1.1.n
        refine (sI_bnd (by omega) fun j _ => ?_).1
        unfold eEf
        split
        · rw [qa_1]
          omega
        · rw [qa_0]
          omega
      rw [qa_lt, qa_sub (by omega) (by omega), qa_sub (by omega) (by omega)]
      have : (itG 1 (itG n g) 9).toInt ≤ (itG (1 + 199) (itG n g) 9).toInt := m1.1
      have : (itG 1 (itG n g) 9).toInt ≤ (itG 200 (itG n g) 9).toInt := this
      omega
    obtain ⟨e5, l5⟩ := dr_val (Y := Y) hN (k := k) (n := 2) (by omega) (by decide) (by decide) (gT (gT F2 t3) t4)
    have e5 : fL_draw 2 Y (nI k) (gT (gT F2 t3) t4) = some (nI (drN Y k 2), nI (k + 1)) := e5
    unfold fL_comes_b318
    rw [e2, qa_b2, if_pos (by rw [e8]; exact i_tel _ _ _), cn_13 h2, qa_b, if_pos (i_cas _ _), e3, qa_b2, e4, qa_b2, if_neg lt, e5, qa_b2]
    by_cases z : nI (drN Y k 2) = 0
    · rw [if_pos z]
      exact ⟨_, k + 1, _, rfl, by omega, h4, P2⟩
    · obtain ⟨F6, e6, h6, -⟩ := rs_G h4 (g0 := g) (B0 := B) (by show eRel (fA F2) g; rw [a2, eA]; exact hA) h.2.1 (by show fI F2 0 = 1; rw [i2, eI]; exact h1)
      rw [if_neg z, e6, qa_b2, if_pos rfl, cn_13 h6, qa_b, if_pos rfl]
      exact ⟨F6, k + 1, g, rfl, by omega, h6.mono (by omega) (by omega), P⟩
  obtain ⟨e0, l0⟩ := dr_val (Y := Y) hN (k := k) (n := n) (by omega) (by omega) (by omega) F
  unfold fL_comes_b281
  rw [cn_13 h, qa_b, e0, qa_b2]
  by_cases z : nI (drN Y k n) ≤ 0
  · have hz : drN Y k n = 0 := by
      rw [qa_le, qa_0, qa_nI (by omega)] at z
      omega
    rw [if_pos z, hz]
    obtain ⟨F', k1, g', r1, r2, r3⟩ := fin F 0 n 0 (k + 1) (by omega) (by omega) n1 (by simpa using h) (Int32.sub_self _).symm rfl rfl
    exact ⟨F', k1, g', r1, by omega, r3⟩
  · have hz : 1 ≤ drN Y k n := by
      rw [qa_le, qa_0, qa_nI (by omega)] at z
      omega
    obtain ⟨F2, e2, h2, a2, b2, i2⟩ := tn_G h (n := drN Y k n) hz (by omega) (by omega) (x := nI (drN Y k n)) (qa_nI (by omega))
    rw [if_neg z, e2, qa_b2]
    obtain ⟨F', k1, g', r1, r2, r3⟩ := fin F2 (drN Y k n) (n - drN Y k n) _ (k + 1) (by omega) (by omega) (by omega) h2 rfl a2 i2
    exact ⟨F', k1, g', r1, by omega, r3⟩
