/-! p48, pure: the law's comes says yes -/
theorem ad_w {h g' : Nat → Int32} (G : eG h) (hA : tkA h g') {c : Nat} (hc : c < eN h) (h2 : ¬ eC h c 2 = 0) {k : Nat} (hk : k < 7) : eC g' c k = eC h c k := by
  have hn := G.1.n
  have hq := G.q
  have hq20 : eQ h ≤ 20 := by omega
  have x2 : ∀ p j, p < eQ h → j < eN h → h (41 + p) = nI j → eC h j 2 = 0 := fun p j hp hj e => by
    have := (G.2.2.2.2.1 p hp).2.2
    rw [e, qa_ixn (by omega)] at this
    exact this
  rcases hA with ⟨e, hs⟩ | ⟨h4, j, l, q0, hj, e, l3, hl, y0, e'⟩ | ⟨h4, q0, y0, y1, w, e'⟩ | ⟨h4, q0, y0, y1, w, s, s1, s3, hx⟩
  · rw [e]
  · have hjc : c ≠ j := fun z => h2 (by rw [z]; exact x2 0 j q0 hj e)
    rw [e', bgG_C h hq20 q0 (nI l) (by omega) hk, if_neg (by omega), if_neg (by omega), if_neg (by omega)]
  · rw [e']
    exact pk_un (by omega)
  · have F2 : ∀ x3, eF2 h (kcG (upd h 7 (h 7 + 1)) s (h 41) (eY h (ix (h 41))) x3) := fun x3 i h1 h2 => (kcG_fr _ s1 _ _ _ h2 (by omega) (by omega)).trans (pk_un (by omega))
    rcases hx with e' | ⟨p, j, l, p1, p2, hj, e, l3, hl, y9, e'⟩
    · rw [e']
      exact (F2 _).C (by omega) hk
    · have hjc : c ≠ j := fun z => h2 (by rw [z]; exact x2 p j p2 hj e)
      rw [e', bgG_C _ hq20 p2 (nI l) (by omega) hk, if_neg (by omega), if_neg (by omega), if_neg (by omega)]
      exact (F2 _).C (by omega) hk
/-- who isn't in the queue comes there no more, and began when it began -/
theorem tk_w {u : KS} {g : Nat → Int32} {B : Int} (R : eRel u g) (I : eInv B g) (hB : B + 2 ≤ 100000000) : eN (tkG g) = eN g ∧ ∀ c, c < eN g → ¬ eC g c 2 = 0 → ¬ eC (tkG g) c 2 = 0 ∧ eC (tkG g) c 5 = eC g c 5 := by
  obtain ⟨hA, ⟨u2, R2, I2, T2⟩, ⟨u3, R3, I3, T3⟩⟩ := tk_dec R I hB
  have hN : eN (tkG g) = eN g := by
    unfold eN
    rw [tk_fr R I hB (Or.inl rfl)]
  refine ⟨hN, fun c hc h2 => ?_⟩
  have hn := I.2.1.1.n
  have F1 : eF g (tk1 g) := fun i hi => (wnG_fr (tk0 g) (by omega) (by omega) (by omega)).trans (pk_un (by omega))
  have e4 : tk1 g 4 = g 4 := (wnG_fr (tk0 g) (by omega) (by omega) (by omega)).trans (pk_un (by omega))
  have k2 : ¬ eC (tk2 g) c 2 = 0 ∧ eC (tk2 g) c 5 = eC g c 5 ∧ eN (tk2 g) = eN g := by
    have same : ∀ h', tk2 g = h' → eF (tk1 g) h' → ¬ eC (tk2 g) c 2 = 0 ∧ eC (tk2 g) c 5 = eC g c 5 ∧ eN (tk2 g) = eN g := by
      intro h' e F
      rw [e, (F1.trans F).C, (F1.trans F).N]
      exact ⟨h2, rfl, rfl⟩
    have e2 : tk2 g = if tk1 g 4 = (-1) then tk1 g else drG (tk1 g) := rfl
    by_cases z : tk1 g 4 = (-1)
    · rw [if_pos z] at e2
      exact same _ e2 (eF.refl _)
    · rw [if_neg z] at e2
      unfold drG at e2
      split at e2
      · exact same _ e2 (eF_upd _ (by omega) _)
      · split at e2
        · split at e2
          · exact same _ e2 (drX_F _)
          · have FX := F1.trans (drX_F (tk1 g))
            have hN2 : eN (tk2 g) = eN g := by
              rw [e2]
              unfold eN
              rw [bdG_fr _ (by omega) (by omega) (by omega) (by omega), FX 13 (by omega)]
            refine ⟨?_, ?_, hN2⟩
            · rw [e2, bdG_C _ (by omega) (by omega)]
              split
              · decide
              · rw [if_neg (by omega), FX.C]
                exact h2
            · rw [e2, bdG_C _ (by omega) (by omega), if_neg (by omega), if_neg (by omega), FX.C]
        · exact same _ e2 (eF_upd _ (by omega) _)
  obtain ⟨a, b, cN⟩ := k2
  have w := fun k (hk : k < 7) => ad_w I3.2.1 hA (c := c) (by rw [cN]; exact hc) a hk
  rw [w 2 (by omega), w 5 (by omega)]
  exact ⟨a, b⟩
theorem it_w {u : KS} {g : Nat → Int32} {B : Int} (R : eRel u g) (I : eInv B g) (P : PX g) : ∀ n : Nat, B + 2 * n ≤ 100000000 → eN (itG n g) = eN g ∧ (itG n g 0).toInt = (g 0).toInt + n ∧ ∀ c, c < eN g → ¬ eC g c 2 = 0 → ¬ eC (itG n g) c 2 = 0 ∧ eC (itG n g) c 5 = eC g c 5 := by
  intro n
  induction n with
  | zero =>
    intro _
    exact ⟨rfl, by show (g 0).toInt = _; omega, fun c hc h2 => ⟨h2, rfl⟩⟩
  | succ n ih =>
    intro hB
    obtain ⟨a, b, c⟩ := ih (by omega)
    obtain ⟨⟨v, Rv⟩, Iv, -⟩ := PX.it n R I (by omega) P
    obtain ⟨d, e⟩ := tk_w Rv Iv (by omega)
    obtain ⟨⟨t0, -⟩, -⟩ := tf_G Rv Iv (by omega)
    rw [itG_s]
    refine ⟨d.trans a, ?_, fun j hj h2 => ?_⟩
    · have z := Iv.2.2.2.2.1
      have z' := Iv.2.2.2.2.2.1
      rw [t0, qa_add (by rw [qa_1]; omega) (by rw [qa_1]; omega), qa_1, b]
      omega
    · obtain ⟨k1, k2⟩ := c j hj h2
      obtain ⟨m1, m2⟩ := e j (by rw [a]; exact hj) k1
      exact ⟨m1, m2.trans k2⟩
theorem i_tel (a b c : Int32) : (b - a) + (c - b) = c - a := by
  rw [Int32.sub_eq_add_neg, Int32.sub_eq_add_neg, Int32.sub_eq_add_neg, Int32.add_comm c (-b), ← Int32.add_assoc, Int32.add_assoc b, Int32.add_comm (-a) (-b), ← Int32.add_assoc, Int32.add_right_neg, Int32.zero_add, Int32.add_comm]
/-- ticks in a row -/
theorem tn_G {F : FS} {g : Nat → Int32} {B : Int} (h : FG B F g) {n : Nat} (h1 : 1 ≤ n) (hn : n ≤ 50) (hB : B + 400 ≤ 100000000) {x : Int32} (hx : x.toInt = (n : Int)) : ∃ F', fL_tick x F = some (itG n g 9 - g 9, F') ∧ FG (B + 2 * n) F' (itG n g) ∧ fA F' = fA F ∧ fB F' = fB F ∧ fI F' = fI F := tc_G h h1 hn hB hx
theorem rs_G {F : FS} {g g0 : Nat → Int32} {B B0 : Int} (h : FG B F g) (hA : eRel (fA F) g0) (I0 : eInv B0 g0) (h1 : fI F 0 = 1) : ∃ F', fL_restore 0 F = some (0, F') ∧ FG B0 F' g0 ∧ fA F' = fA F ∧ fI F' = fI F := by
  obtain ⟨F', e, r⟩ := re_G h hA I0 h1
  refine ⟨F', ?_, r⟩
  unfold fL_restore
  rw [e]
  rfl
/-- the last leg: some ticks, in one go or in two, and back -/
theorem co_318 {F : FS} {g : Nat → Int32} {B : Int} (h : FG B F g) (P : PX g) (hB : B + 1000 ≤ 100000000) {Y : YB} (hN : Y.2.2.1 < 2147483648) {k : Nat} (hk : k < 1000000) (hA : eRel (fA F) g) (h1 : fI F 0 = 1) {n : Nat} (n1 : 1 ≤ n) (n2 : n ≤ 30) : ∃ F' k1 g', fL_comes_b281 (nI n) (itG n g 9 - g 9) Y (nI k) F = some (1, nI k1, F') ∧ k1 ≤ k + 2 ∧ FG (B + 60) F' g' ∧ PX g' := by
  have fin : ∀ (F1 : FS) (a b : Nat) (x8 : Int32) (k : Nat), k < 1000001 → a + b = n → 1 ≤ b → FG (B + 2 * a) F1 (itG a g) → x8 = itG a g 9 - g 9 → fA F1 = fA F → fI F1 = fI F → ∃ F' k1 g', fL_comes_b318 (nI n) (itG n g 9 - g 9) (g 9) x8 (nI a) Y (nI k) F1 = some (1, nI k1, F') ∧ k1 ≤ k + 1 ∧ FG (B + 60) F' g' ∧ PX g' := by
    intro F1 a b x8 k hk hab hb hF1 e8 eA eJ
    have ex : nI n - nI a = nI b := by
      have := pk_sub (a := n) (b := a) (by omega)
      rw [this, show n - a = b by omega]
    obtain ⟨F2, e2, h2, a2, b2, i2⟩ := tn_G hF1 (n := b) hb (by omega) (by omega) (x := nI n - nI a) (by rw [ex, qa_nI (by omega)])
    rw [← itG_add, hab] at e2 h2
    have h2 : FG (B + 60) F2 (itG n g) := h2.mono (by omega) (by omega)
    have P2 := (PX.it n h.1 h.2.1 (by omega) P).2.2
    obtain ⟨t3, e3⟩ := bo_G h2 (n := 200) (by omega) (by omega) (by omega) (x := 200) (by decide)
    have e3 : fL_boardIn 200 F2 = some (itG 200 (itG n g) 9 - itG n g 9, gT F2 t3) := e3
    have h3 : FG (B + 60) (gT F2 t3) (itG n g) := h2.T t3
    obtain ⟨t4, e4⟩ := bo_G h3 (n := 1) (by omega) (by omega) (by omega) (x := 1) (by decide)
    have e4 : fL_boardIn 1 (gT F2 t3) = some (itG 1 (itG n g) 9 - itG n g 9, gT (gT F2 t3) t4) := e4
    have h4 : FG (B + 60) (gT (gT F2 t3) t4) (itG n g) := h3.T t4
    have lt : ¬ itG 200 (itG n g) 9 - itG n g 9 < itG 1 (itG n g) 9 - itG n g 9 := by
      obtain ⟨⟨v, Rv⟩, Iv, Pv⟩ := PX.it 1 h2.1 h2.2.1 (by omega) P2
      have m1 := it_9 199 Rv Iv (by omega) Pv
      rw [← itG_add 1 199, show 1 + 199 = 200 from rfl] at m1
      have m0 := it_9 1 h2.1 h2.2.1 (by omega) P2
      have m2 := it_9 200 h2.1 h2.2.1 (by omega) P2
      have p0 : 0 ≤ (itG n g 9).toInt := by
        rw [P2.2.1]
        have hn := h2.2.1.2.1.1.n
        refine (sI_bnd (by omega) fun j _ => ?_).1
        unfold eEf
        split
        · rw [qa_1]
          omega
        · rw [qa_0]
          omega
      rw [qa_lt, qa_sub (by omega) (by omega), qa_sub (by omega) (by omega)]
      have m3 := m1.1
      omega
    obtain ⟨e5, l5⟩ := dr_val (Y := Y) hN (k := k) (n := 2) (by omega) (by decide) (by decide) (gT (gT F2 t3) t4)
    have e5 : fL_draw 2 Y (nI k) (gT (gT F2 t3) t4) = some (nI (drN Y k 2), nI (k + 1)) := e5
    unfold fL_comes_b318
    rw [e2, qa_b2, if_pos (by rw [e8]; exact i_tel _ _ _), cn_13 h2, qa_b, if_pos (i_cas _ _), e3, qa_b2, e4, qa_b2, if_neg lt, e5, qa_b2]
    by_cases z : nI (drN Y k 2) = 0
    · rw [if_pos z]
      exact ⟨_, k + 1, _, rfl, by omega, h4, P2⟩
    · obtain ⟨F6, e6, h6, -⟩ := rs_G h4 (g0 := g) (B0 := B) (by show eRel (fA F2) g; rw [a2, eA]; exact hA) h.2.1 (by show fI F2 0 = 1; rw [i2, eJ]; exact h1)
      rw [if_neg z, e6, qa_b2, if_pos rfl, cn_13 h6, qa_b, if_pos rfl]
      exact ⟨F6, k + 1, g, rfl, by omega, h6.mono (by omega) (by omega), P⟩
  obtain ⟨e0, l0⟩ := dr_val (Y := Y) hN (k := k) (n := n) (by omega) (by omega) (by omega) F
  unfold fL_comes_b281
  rw [cn_13 h, qa_b, e0, qa_b2]
  by_cases z : nI (drN Y k n) ≤ 0
  · have hz : drN Y k n = 0 := by
      rw [qa_le, qa_0, qa_nI (by omega)] at z
      omega
    rw [if_pos z, hz]
    obtain ⟨F', k1, g', r1, r2, r3⟩ := fin F 0 n 0 (k + 1) (by omega) (by omega) n1 h.z (Int32.sub_self _).symm rfl rfl
    exact ⟨F', k1, g', r1, by omega, r3⟩
  · have hz : 1 ≤ drN Y k n := by
      rw [qa_le, qa_0, qa_nI (by omega)] at z
      omega
    obtain ⟨F2, e2, h2, a2, b2, i2⟩ := tn_G h (n := drN Y k n) hz (by omega) (by omega) (x := nI (drN Y k n)) (qa_nI (by omega))
    rw [if_neg z, e2, qa_b2]
    obtain ⟨F', k1, g', r1, r2, r3⟩ := fin F2 (drN Y k n) (n - drN Y k n) _ (k + 1) (by omega) (by omega) (by omega) h2 rfl a2 i2
    exact ⟨F', k1, g', r1, by omega, r3⟩
theorem tick_0 {g : Nat → Int32} {u : KS} {B : Int} (R : eRel u g) (I : eInv B g) (P : PX g) (hB : B + 2 ≤ 100000000) : 0 ≤ itG 1 g 9 - g 9 := by
  have h := it_9 1 R I (by omega) P
  have p0 : 0 ≤ (g 9).toInt := by
    rw [P.2.1]
    have hn := I.2.1.1.n
    refine (sI_bnd (by omega) fun j _ => ?_).1
    unfold eEf
    split
    · rw [qa_1]
      omega
    · rw [qa_0]
      omega
  rw [qa_le, qa_0, qa_sub (by omega) (by omega)]
  omega
theorem co_190 {F : FS} {g : Nat → Int32} {B : Int} (h : FG B F g) (P : PX g) (hB : B + 1000 ≤ 100000000) {Y : YB} (hN : Y.2.2.1 < 2147483648) {k : Nat} (hk : k < 1000000) (hA : eRel (fA F) g) (h1 : fI F 0 = 1) {n : Nat} (n1 : 1 ≤ n) (n2 : n ≤ 30) {r : Int32} (hr : (r = (-1)) ∨ ∃ i : Nat, i < 200 ∧ r = nI (i + 1) ∧ stP g i) : ∃ F' k1 g', fL_comes_b190 (nI n) (itG n g 9 - g 9) r (g 4) Y (nI k) F = some (1, nI k1, F') ∧ k1 ≤ k + 2 ∧ FG (B + 60) F' g' ∧ PX g' := by
  unfold fL_comes_b190
  rcases hr with hr | ⟨i, i1, hr, hs⟩
  · rw [if_pos (by rw [hr]; decide)]
    exact co_318 h P hB hN hk hA h1 n1 n2
  · have hrI : r.toInt = ((i + 1 : Nat) : Int) := by rw [hr, qa_nI (by omega)]
    rw [if_neg (by rw [qa_lt, qa_0, hrI]; omega)]
    have lp : ∀ (kk j m : Nat) (F1 : FS), j + kk = i + 1 → kk < m → FG (B + 2 * j) F1 (itG j g) → fA F1 = fA F → fI F1 = fI F → ∃ F' k1 g', lop (fun y (z : Int32 × Int32 × Int32 × Int32 × Int32 × Int32 × FS) => fL_comes_b198 y z.1 z.2.1 z.2.2.1 z.2.2.2.1 z.2.2.2.2.1 Y z.2.2.2.2.2.1 z.2.2.2.2.2.2) m (nI n, itG n g 9 - g 9, r, g 4, nI j, nI k, F1) = some (1, nI k1, F') ∧ k1 ≤ k + 2 ∧ FG (B + 60) F' g' ∧ PX g' := by
      intro kk
      induction kk with
      | zero =>
        intro j m F1 hj hm hF1 eA eJ
        obtain ⟨m, rfl⟩ : ∃ q, m = q + 1 := ⟨m - 1, by omega⟩
        have hji : j = i + 1 := by omega
        subst hji
        obtain ⟨s1, s2⟩ := hs
        have G1 := hF1.2.1.2.1
        obtain ⟨x0, x1, x2⟩ := G1.2.2.1.resolve_left s1
        obtain ⟨⟨v, Rv⟩, Iv, Pv⟩ := PX.it i h.1 h.2.1 (by omega) P
        obtain ⟨-, -, -, f3, -⟩ := tf_G Rv Iv (by omega)
        rw [← itG_s] at f3
        have hb : eC (itG (i + 1) g) (ix (itG (i + 1) g 4)) 5 = itG (i + 1) g 0 := by
          rcases f3 with q | ⟨q, -⟩ | ⟨-, q, -⟩
          · exact absurd q s1
          · exact absurd q s2
          · exact q
        have hne : ¬ itG (i + 1) g 4 = g 4 := by
          intro q
          have n4 : ¬ g 4 = (-1) := by rw [← q]; exact s1
          obtain ⟨y0, y1, y2⟩ := h.2.1.2.1.2.2.1.resolve_left n4
          obtain ⟨-, w0, w⟩ := it_w h.1 h.2.1 P (i + 1) (by omega)
          have w5 := (w _ y1 (by rw [y2]; decide)).2
          rw [q, w5] at hb
          have := (h.2.1.2.1.2.1 _ y1).2.2.2.2.2.2.1
          rw [hb, w0] at this
          omega
        have c5 : fL_car (itG (i + 1) g 4) 5 F1 = some (eC (itG (i + 1) g) (ix (itG (i + 1) g 4)) 5) := ca_G hF1 (qa_ixI x0) x1 (y := 5) (k := 5) (by decide) (by decide)
        obtain ⟨F2, e2, h2, a2, i2⟩ := rs_G hF1 (g0 := g) (B0 := B) (by rw [eA]; exact hA) h.2.1 (by rw [eJ]; exact h1)
        show ∃ F' k1 g', fL_comes_b198 _ (nI n) (itG n g 9 - g 9) r (g 4) (nI (i + 1)) Y (nI k) F1 = _ ∧ _
        unfold fL_comes_b198
        rw [if_pos (by rw [hr, qa_le]; exact Int.le_refl _), cn_8 hF1, qa_b, if_neg (by rw [qa_lt, qa_0]; omega), if_neg hne, c5, qa_b, cn_0 hF1, qa_b, if_pos hb, e2, qa_b2, if_pos rfl]
        exact co_318 h2 P hB hN hk (by rw [a2, eA]; exact hA) (by rw [i2, eJ]; exact h1) n1 n2
      | succ kk ih =>
        intro j m F1 hj hm hF1 eA eJ
        obtain ⟨m, rfl⟩ : ∃ q, m = q + 1 := ⟨m - 1, by omega⟩
        obtain ⟨F2, e2, h2, a2, b2, i2⟩ := tn_G hF1 (n := 1) (by omega) (by omega) (by omega) (x := 1) (by decide)
        obtain ⟨⟨v, Rv⟩, Iv, Pv⟩ := PX.it j h.1 h.2.1 (by omega) P
        have t0 := tick_0 Rv Iv Pv (by omega)
        rw [← itG_add] at h2
        have h2 : FG (B + 2 * ((j + 1 : Nat) : Int)) F2 (itG (j + 1) g) := by
          have : B + 2 * ((j + 1 : Nat) : Int) = B + 2 * (j : Int) + 2 * ((1 : Nat) : Int) := by omega
          rw [this]
          exact h2
        show ∃ F' k1 g', fL_comes_b198 _ (nI n) (itG n g 9 - g 9) r (g 4) (nI j) Y (nI k) F1 = _ ∧ _
        unfold fL_comes_b198
        rw [if_neg (by rw [qa_le, hrI, qa_nI (by omega)]; omega), e2, qa_b2, if_pos t0, nI_1]
        exact ih (j + 1) m F2 (by omega) (by omega) h2 (a2.trans eA) (i2.trans eJ)
    exact lp (i + 1) 0 LF F (by omega) (by show _ < 5000; omega) h.z rfl rfl
theorem co_L {F : FS} {g : Nat → Int32} {B : Int} (h : FG B F g) (P : PX g) (hB : B + 1000 ≤ 100000000) {Y : YB} (hN : Y.2.2.1 < 2147483648) {k : Nat} (hk : k < 900000) : ∃ F' k1 g', fL_comes Y (nI k) F = some (1, nI k1, F') ∧ k1 ≤ k + 40 ∧ FG (B + 60) F' g' ∧ PX g' := by
  obtain ⟨e1, l1⟩ := dr_val (Y := Y) hN (k := k) (n := 30) (by omega) (by decide) (by decide) F
  have e1 : fL_draw 30 Y (nI k) F = some (nI (drN Y k 30), nI (k + 1)) := e1
  obtain ⟨d, hd⟩ : ∃ d, d = drN Y k 30 := ⟨_, rfl⟩
  rw [← hd] at e1 l1
  have hx : ((1 : Int32) + nI d).toInt = ((1 + d : Nat) : Int) := by rw [d_1, qa_nI (by omega)]
  obtain ⟨t1, eb⟩ := bo_G h (n := 1 + d) (by omega) (by omega) (by omega) hx
  have eb : fL_boardIn (1 + nI d) F = some (itG (1 + d) g 9 - g 9, gT F t1) := eb
  have h1 : FG B (gT F t1) g := h.T t1
  obtain ⟨e2, l2⟩ := dr_val (Y := Y) hN (k := k + 1) (n := 4) (by omega) (by decide) (by decide) (gT F t1)
  have e2 : fL_draw 4 Y (nI (k + 1)) (gT F t1) = some (nI (drN Y (k + 1) 4), nI (k + 1 + 1)) := e2
  obtain ⟨d2, hd2⟩ : ∃ d2, d2 = drN Y (k + 1) 4 := ⟨_, rfl⟩
  rw [← hd2] at e2 l2
  have hdI := qa_nI (n := d2) (by omega)
  obtain ⟨t3, r29, e3, hr29⟩ := ez_G h1 (by omega) l2 hdI
  have e3 : fL_easyIn (nI d2) (gT F t1) = some (r29, gT (gT F t1) t3) := e3
  have h3 : FG B (gT (gT F t1) t3) g := h1.T t3
  obtain ⟨t4, r38, e4, hr38⟩ := si_G h3 (by omega)
  have h4 : FG B (gT (gT (gT F t1) t3) t4) g := h3.T t4
  obtain ⟨F5, e5, h5, n5, a5, i5⟩ := sv_G h4
  have e5 : fL_save 0 (gT (gT (gT F t1) t3) t4) = some (0, F5) := by
    unfold fL_save
    rw [e5]
    rfl
  have hr : (r38 = (-1)) ∨ ∃ i : Nat, i < 200 ∧ r38 = nI (i + 1) ∧ stP g i := by
    rcases hr38 with ⟨q, -⟩ | ⟨i, q1, q2, q3, -⟩
    · exact Or.inl q
    · exact Or.inr ⟨i, q1, q2, q3⟩
  have fin : ∀ F6, FG B F6 g → fA F6 = fA F5 → fI F6 = fI F5 → ∃ F' k1 g', fL_comes_b190 (1 + nI d) (itG (1 + d) g 9 - g 9) r38 (g 4) Y (nI (k + 1 + 1)) F6 = some (1, nI k1, F') ∧ k1 ≤ k + 40 ∧ FG (B + 60) F' g' ∧ PX g' := by
    intro F6 h6 a6 i6
    rw [d_1]
    obtain ⟨F', k1, g', r1, r2, r3⟩ := co_190 h6 P hB hN (k := k + 1 + 1) (by omega) (by rw [a6]; exact a5) (by rw [i6]; exact i5) (n := 1 + d) (by omega) (by omega) hr
    exact ⟨F', k1, g', r1, by omega, r3⟩
  unfold fL_comes fL_comes_b0
  rw [e1, qa_b2, eb, qa_b2, e2, qa_b2, e3, qa_b2, e4, qa_b2, cn_8 h4, qa_b, e5, qa_b2, if_pos rfl]
  rcases hr29 with ⟨q, -⟩ | ⟨i, i1, q, qz, qn⟩
  · rw [if_pos (by rw [q]; decide)]
    exact fin F5 h5 rfl rfl
  · have hrI : r29.toInt = (i : Int) := by rw [q, qa_nI (by omega)]
    rw [if_neg (by rw [qa_lt, qa_0, hrI]; omega)]
    have lp : ∀ (kk j m : Nat) (F1 : FS), j + kk = i → kk < m → FG (B + 2 * j) F1 (itG j g) → fA F1 = fA F5 → fI F1 = fI F5 → ∃ F' k1 g', lop (fun y (z : Int32 × Int32 × Int32 × Int32 × Int32 × Int32 × Int32 × Int32 × FS) => fL_comes_b75 y z.1 z.2.1 z.2.2.1 z.2.2.2.1 z.2.2.2.2.1 z.2.2.2.2.2.1 z.2.2.2.2.2.2.1 Y z.2.2.2.2.2.2.2.1 z.2.2.2.2.2.2.2.2) m (1 + nI d, itG (1 + d) g 9 - g 9, nI d2, r29, r38, g 4, nI j, nI (k + 1 + 1), F1) = some (1, nI k1, F') ∧ k1 ≤ k + 40 ∧ FG (B + 60) F' g' ∧ PX g' := by
      intro kk
      induction kk with
      | zero =>
        intro j m F1 hj hm hF1 eA eJ
        obtain ⟨m, rfl⟩ : ∃ q, m = q + 1 := ⟨m - 1, by omega⟩
        have hji : j = i := by omega
        subst hji
        have k0 : fL_kind (nI d2) 0 F1 = some (eK (itG j g) d2 0) := kd_G hF1 hdI l2 (y := 0) (k := 0) (by decide) (by decide)
        have k1 : fL_kind (nI d2) 1 F1 = some (eK (itG j g) d2 1) := kd_G hF1 hdI l2 (y := 1) (k := 1) (by decide) (by decide)
        obtain ⟨z0, z1⟩ := qz
        rw [qa_le] at z0 z1
        obtain ⟨F2, e2, h2, a2, i2⟩ := rs_G hF1 (g0 := g) (B0 := B) (by rw [eA]; exact a5) h.2.1 (by rw [eJ]; exact i5)
        show ∃ F' k1 g', fL_comes_b75 _ (1 + nI d) (itG (1 + d) g 9 - g 9) (nI d2) r29 r38 (g 4) (nI j) Y (nI (k + 1 + 1)) F1 = _ ∧ _
        unfold fL_comes_b75
        rw [if_pos (by rw [q, qa_le]; exact Int.le_refl _), sl_G hF1, qa_b, k0, qa_b, if_neg (by rw [qa_lt]; omega), lp_G hF1, qa_b, k1, qa_b, if_neg (by rw [qa_lt]; omega), e2, qa_b2, if_pos rfl]
        exact fin F2 h2 (a2.trans eA) (i2.trans eJ)
      | succ kk ih =>
        intro j m F1 hj hm hF1 eA eJ
        obtain ⟨m, rfl⟩ : ∃ q, m = q + 1 := ⟨m - 1, by omega⟩
        have k0 : fL_kind (nI d2) 0 F1 = some (eK (itG j g) d2 0) := kd_G hF1 hdI l2 (y := 0) (k := 0) (by decide) (by decide)
        have k1 : fL_kind (nI d2) 1 F1 = some (eK (itG j g) d2 1) := kd_G hF1 hdI l2 (y := 1) (k := 1) (by decide) (by decide)
        obtain ⟨F2, e2, h2, a2, b2, i2⟩ := tn_G hF1 (n := 1) (by omega) (by omega) (by omega) (x := 1) (by decide)
        obtain ⟨⟨v, Rv⟩, Iv, Pv⟩ := PX.it j h.1 h.2.1 (by omega) P
        have t0 := tick_0 Rv Iv Pv (by omega)
        rw [← itG_add] at h2
        have h2 : FG (B + 2 * ((j + 1 : Nat) : Int)) F2 (itG (j + 1) g) := by
          have : B + 2 * ((j + 1 : Nat) : Int) = B + 2 * (j : Int) + 2 * ((1 : Nat) : Int) := by omega
          rw [this]
          exact h2
        have nz := qn j (by omega)
        have step := ih (j + 1) m F2 (by omega) (by omega) h2 (a2.trans eA) (i2.trans eJ)
        show ∃ F' k1 g', fL_comes_b75 _ (1 + nI d) (itG (1 + d) g 9 - g 9) (nI d2) r29 r38 (g 4) (nI j) Y (nI (k + 1 + 1)) F1 = _ ∧ _
        unfold fL_comes_b75 fL_comes_b120
        rw [if_neg (by rw [qa_le, hrI, qa_nI (by omega)]; omega), sl_G hF1, qa_b, k0, qa_b]
        by_cases z0 : eK (itG j g) d2 0 < eP (itG j g)
        · rw [if_pos z0, e2, qa_b2, if_pos t0, nI_1]
          exact step
        · have n1 : ¬ eI (itG j g) ≤ eK (itG j g) d2 1 := fun z1 => nz ⟨by rw [qa_le]; rw [qa_lt] at z0; omega, z1⟩
          rw [if_neg z0, lp_G hF1, qa_b, k1, qa_b, if_neg n1, e2, qa_b2, if_pos t0, nI_1]
          exact step
    exact lp i 0 LF F5 (by omega) (by show _ < 5000; omega) h5.z rfl rfl
