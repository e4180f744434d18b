/-! the law's text in tokens; the set-up, read -/
theorem dr_lt {Y : YB} (hN : Y.2.2.1 < 2147483648) {k n : Nat} (hk : k < 1000000) (h0 : 0 < n) (h1 : n < 2147483648) : drN Y k n < n := (dr_val hN (by omega) h0 h1 FS0).2
/-- the cars: the first token, and what follows it -/
def cH (Y : YB) : Nat → Nat → Int32 × List Nat × List Nat
  | 0, _ => (0, [], [])
  | n + 1, k => (1, wCar, [32] ++ (decL (drN Y k 4) ++ ([32] ++ (decL (1 + drN Y (k + 1) 120) ++ ([59] ++ ((cH Y n (k + 2)).2.1 ++ (cH Y n (k + 2)).2.2))))))
/-- the kinds and the cars -/
def kH (Y : YB) (c : Nat) : Nat → Nat → Nat → Int32 × List Nat × List Nat
  | 0, _, k => cH Y c k
  | n + 1, j, k => if drN Y k 2 = 0 then (1, wKind, [32] ++ (decL j ++ ([32] ++ (decL (8 + drN Y (k + 1) 30) ++ ([32] ++ (decL (2 + drN Y (k + 2) 9) ++ ([32] ++ (decL (1 + drN Y (k + 3) 3) ++ ([59] ++ ((kH Y c n (j + 1) (k + 4)).2.1 ++ (kH Y c n (j + 1) (k + 4)).2.2)))))))))) else kH Y c n (j + 1) (k + 1)
theorem th_c (Y : YB) : ∀ n k, tokk (cH Y n k).1 (cH Y n k).2.1 (cH Y n k).2.2
  | 0, _ => Or.inl ⟨rfl, rfl, rfl⟩
  | n + 1, k => qk_car _
theorem th_k (Y : YB) (c : Nat) : ∀ n j k, tokk (kH Y c n j k).1 (kH Y c n j k).2.1 (kH Y c n j k).2.2
  | 0, j, k => th_c Y c k
  | n + 1, j, k => by
    by_cases h : drN Y k 2 = 0
    · rw [kH, if_pos h]
      exact qk_kind _
    · rw [kH, if_neg h]
      exact th_k Y c n (j + 1) (k + 1)
theorem z_27 : zL 27 = wTide ++ [32] := by decide
theorem z_28 : zL 28 = [32] ++ (wHalf ++ [32]) := by decide
theorem z_29 : zL 29 = [59] ++ (wDeck ++ [32]) := by decide
theorem z_30 : zL 30 = [32] ++ (wSink ++ [32]) := by decide
theorem z_31 : zL 31 = [59] ++ (wLanes ++ [32]) := by decide
theorem z_32 : zL 32 = [32] ++ (wLoad ++ [32]) := by decide
theorem z_33 : zL 33 = [32] ++ (wList ++ [32]) := by decide
theorem z_34 : zL 34 = [59] ++ (wWinch ++ [32]) := by decide
theorem z_35 : zL 35 = [59] ++ (wCross ++ [32]) := by decide
theorem z_36 : zL 36 = [32] ++ (wPatience ++ [32]) := by decide
theorem z_37 : zL 37 = wKind ++ [32] := by decide
theorem z_38 : zL 38 = wCar ++ [32] := by decide
theorem ldC_t (Y : YB) : ∀ (n : Nat) (t : List Nat) (k : Nat), (ldC Y n (t, k)).1 = t ++ ((cH Y n k).2.1 ++ (cH Y n k).2.2)
  | 0, t, k => by
    show t = t ++ ([] ++ [])
    rw [List.append_nil, List.append_nil]
  | n + 1, t, k => by
    rw [ldC, ldC_t Y n _ (k + 2), cH, z_38]
    simp only [List.append_assoc]
theorem ldB_t (Y : YB) (c : Nat) : ∀ (n j : Nat) (t : List Nat) (k : Nat), (ldC Y c (ldB Y n j (t, k))).1 = t ++ ((kH Y c n j k).2.1 ++ (kH Y c n j k).2.2)
  | 0, j, t, k => ldC_t Y c t k
  | n + 1, j, t, k => by
    by_cases h : drN Y k 2 = 0
    · rw [ldB, kH, if_pos h, if_pos h, ldB_t Y c n (j + 1) _ (k + 4), z_37]
      simp only [List.append_assoc]
    · rw [ldB, kH, if_neg h, if_neg h]
      exact ldB_t Y c n (j + 1) t (k + 1)
theorem ld_A0 (wt wh wd wk wl wo wi ww wc wp s e n1 n2 n3 n4 n5 n6 n7 n8 n9 n10 n11 n12 n13 R : List Nat) : [] ++ (wt ++ s) ++ n1 ++ s ++ n2 ++ (s ++ (wh ++ s)) ++ n3 ++ (e ++ (wd ++ s)) ++ n4 ++ (s ++ (wk ++ s)) ++ n5 ++ (e ++ (wl ++ s)) ++ n6 ++ (s ++ (wo ++ s)) ++ n7 ++ (s ++ (wi ++ s)) ++ n8 ++ (e ++ (ww ++ s)) ++ n9 ++ s ++ n10 ++ s ++ n11 ++ (e ++ (wc ++ s)) ++ n12 ++ (s ++ (wp ++ s)) ++ n13 ++ e ++ R = [] ++ (wt ++ (s ++ (n1 ++ (s ++ (n2 ++ (s ++ (wh ++ (s ++ (n3 ++ (e ++ (wd ++ (s ++ (n4 ++ (s ++ (wk ++ (s ++ (n5 ++ (e ++ (wl ++ (s ++ (n6 ++ (s ++ (wo ++ (s ++ (n7 ++ (s ++ (wi ++ (s ++ (n8 ++ (e ++ (ww ++ (s ++ (n9 ++ (s ++ (n10 ++ (s ++ (n11 ++ (e ++ (wc ++ (s ++ (n12 ++ (s ++ (wp ++ (s ++ (n13 ++ (e ++ R)))))))))))))))))))))))))))))))))))))))))))))) := by
  simp only [List.append_assoc, List.nil_append]
theorem ld_A1 (n1 n2 n3 n4 n5 n6 n7 n8 n9 n10 n11 n12 n13 R : List Nat) : [] ++ zL 27 ++ n1 ++ [32] ++ n2 ++ zL 28 ++ n3 ++ zL 29 ++ n4 ++ zL 30 ++ n5 ++ zL 31 ++ n6 ++ zL 32 ++ n7 ++ zL 33 ++ n8 ++ zL 34 ++ n9 ++ [32] ++ n10 ++ [32] ++ n11 ++ zL 35 ++ n12 ++ zL 36 ++ n13 ++ [59] ++ R = [] ++ (wTide ++ ([32] ++ (n1 ++ ([32] ++ (n2 ++ ([32] ++ (wHalf ++ ([32] ++ (n3 ++ ([59] ++ (wDeck ++ ([32] ++ (n4 ++ ([32] ++ (wSink ++ ([32] ++ (n5 ++
    ([59] ++ (wLanes ++ ([32] ++ (n6 ++ ([32] ++ (wLoad ++ ([32] ++ (n7 ++ ([32] ++ (wList ++ ([32] ++ (n8 ++ ([59] ++ (wWinch ++ ([32] ++ (n9 ++ ([32] ++ (n10 ++ ([32] ++ (n11 ++ ([59] ++ (wCross ++ ([32] ++ (n12 ++ ([32] ++ (wPatience ++ ([32] ++ (n13 ++ ([59] ++ R)))))))))))))))))))))))))))))))))))))))))))))) := by
  rw [z_27, z_28, z_29, z_30, z_31, z_32, z_33, z_34, z_35, z_36]
  exact ld_A0 wTide wHalf wDeck wSink wLanes wLoad wList wWinch wCross wPatience [32] [59] n1 n2 n3 n4 n5 n6 n7 n8 n9 n10 n11 n12 n13 R
theorem ld_t (Y : YB) (k : Nat) : (ldT Y k).1 = [] ++ (wTide ++ ([32] ++ (decL (drN Y k 10) ++ ([32] ++ (decL (drN Y k 10 + drN Y (k + 2) 30) ++ ([32] ++ (wHalf ++ ([32] ++ (decL (2 + drN Y (k + 3) 12) ++ ([59] ++ (wDeck ++ ([32] ++ (decL (drN Y (k + 4) 8) ++ ([32] ++ (wSink ++ ([32] ++ (decL (5 + drN Y (k + 5) 40) ++
    ([59] ++ (wLanes ++ ([32] ++ (decL (3 + drN Y (k + 6) 6) ++ ([32] ++ (wLoad ++ ([32] ++ (decL (150 + drN Y (k + 7) 500) ++ ([32] ++ (wList ++ ([32] ++ (decL (40 + drN Y (k + 8) 160) ++ ([59] ++ (wWinch ++ ([32] ++ (decL (1 + drN Y (k + 9) 3) ++ ([32] ++ (decL (drN Y (k + 10) 5) ++ ([32] ++ (decL (drN Y (k + 11) 3) ++
    ([59] ++ (wCross ++ ([32] ++ (decL (1 + drN Y (k + 12) 3) ++ ([32] ++ (wPatience ++ ([32] ++ (decL (1 + drN Y (k + 13) 4) ++ ([59] ++ ((kH Y (ldN Y k) 4 0 (k + 14)).2.1 ++ (kH Y (ldN Y k) 4 0 (k + 14)).2.2))))))))))))))))))))))))))))))))))))))))))))))) := by
  have h1 : (ldT Y k).1 = ldA Y k ++ ((kH Y (ldN Y k) 4 0 (k + 14)).2.1 ++ (kH Y (ldN Y k) 4 0 (k + 14)).2.2) := ldB_t Y (ldN Y k) 4 0 (ldA Y k) (k + 14)
  rw [h1]
  exact ld_A1 _ _ _ _ _ _ _ _ _ _ _ _ _ _
/-! the loop over statements -/
def WL (x : Nat) (p : PS) (u : KS) (m : Nat) : Prop := ∃ p' u', lop (fun y (z : Int32 × PS × KS) => fX6_readSetup_b20 y z.1 z.2.1 z.2.2) (5000 - x) (nI x, p, u) = fX6_readSetup_b52 p' u' ∧ pEc p' = 0 ∧ dZ u' m
theorem rl_s {p p' : PS} {u u' : KS} {so ko : Int32} {s r : List Nat} {x : Nat} (hx : x ≤ 400) (h : CT p so ko 1 s r) (e : fX6_readStatement p u = some (p', u')) (K : Int32 × PS × KS → Option (Int32 × PS × KS)) : fX6_readSetup_b20 K (nI x) p u = K (nI (x + 1), p', u') := by
  have t5 : (500 : Int32).toInt = 500 := by decide
  unfold fX6_readSetup_b20
  rw [if_neg (by rw [qa_lt, t5, qa_nI (by omega)]; omega), if_neg (by rw [h.ty]; decide), if_pos h.ec, e, qa_b, nI_1]
theorem rl_e {p : PS} {u : KS} {so ko : Int32} {s r : List Nat} {x : Nat} (hx : x ≤ 400) (h : CT p so ko 0 s r) (K : Int32 × PS × KS → Option (Int32 × PS × KS)) : fX6_readSetup_b20 K (nI x) p u = fX6_readSetup_b52 p u := by
  have t5 : (500 : Int32).toInt = 500 := by decide
  unfold fX6_readSetup_b20
  rw [if_neg (by rw [qa_lt, t5, qa_nI (by omega)]; omega), if_pos h.ty]
theorem wl_s {p p' : PS} {u u' : KS} {so ko : Int32} {s r : List Nat} {x m : Nat} (hx : x ≤ 400) (h : CT p so ko 1 s r) (e : fX6_readStatement p u = some (p', u')) (k : WL (x + 1) p' u' m) : WL x p u m := by
  obtain ⟨q, v, e1, e2, e3⟩ := k
  refine ⟨q, v, ?_, e2, e3⟩
  rw [show 5000 - x = (5000 - (x + 1)) + 1 by omega, lop]
  show fX6_readSetup_b20 _ (nI x) p u = _
  rw [rl_s hx h e]
  exact e1
theorem wl_e {p : PS} {u : KS} {so ko : Int32} {s r : List Nat} {x m : Nat} (hx : x ≤ 400) (h : CT p so ko 0 s r) (D : dZ u m) : WL x p u m := by
  refine ⟨p, u, ?_, h.ec, D⟩
  rw [show 5000 - x = (5000 - (x + 1)) + 1 by omega, lop]
  show fX6_readSetup_b20 _ (nI x) p u = _
  rw [rl_e hx h]
theorem wl_cars {Y : YB} (hN : Y.2.2.1 < 2147483648) : ∀ (n k x m : Nat) (p : PS) (u : KS) (so ko : Int32), k + 2 * n < 900000 → m + n ≤ 20 → x + n ≤ 300 → CT p so ko (cH Y n k).1 (cH Y n k).2.1 (cH Y n k).2.2 → dZ u m → WL x p u (m + n)
  | 0, k, x, m, p, u, so, ko, _, _, hx, h, D => wl_e (by omega) h D
  | n + 1, k, x, m, p, u, so, ko, hk, hm, hx, h, D => by
    have d1 := dr_lt hN (k := k) (n := 4) (by omega) (by decide) (by decide)
    have d2 := dr_lt hN (k := k + 1) (n := 120) (by omega) (by decide) (by decide)
    obtain ⟨p', u', e, c, D'⟩ := st_car D (by omega) h (by omega) (by omega) (th_c Y n (k + 2))
    have w := wl_cars hN n (k + 2) (x + 1) (m + 1) p' u' _ _ (by omega) (by omega) (by omega) c D'
    rw [show m + 1 + n = m + (n + 1) by omega] at w
    exact wl_s (by omega) h e w
theorem wl_kinds {Y : YB} (hN : Y.2.2.1 < 2147483648) {cr : Nat} (hc : cr ≤ 20) : ∀ (n j k x q : Nat) (p : PS) (u : KS) (so : Int32), k + 4 * n + 2 * cr < 900000 → j + n = 4 → q < 2 ^ j → x + n ≤ 200 → CT p so (nI q) (kH Y cr n j k).1 (kH Y cr n j k).2.1 (kH Y cr n j k).2.2 → dZ u 0 → WL x p u cr
  | 0, j, k, x, q, p, u, so, hk, hj, hq, hx, h, D => by
    have w := wl_cars hN cr k x 0 p u so (nI q) (by omega) (by omega) (by omega) h D
    rw [Nat.zero_add] at w
    exact w
  | n + 1, j, k, x, q, p, u, so, hk, hj, hq, hx, h, D => by
    by_cases z : drN Y k 2 = 0
    · have d1 := dr_lt hN (k := k + 1) (n := 30) (by omega) (by decide) (by decide)
      have d2 := dr_lt hN (k := k + 2) (n := 9) (by omega) (by decide) (by decide)
      have d3 := dr_lt hN (k := k + 3) (n := 3) (by omega) (by decide) (by decide)
      rw [kH, if_pos z] at h
      obtain ⟨p', u', e, c, D'⟩ := st_kind D (by omega) hq h (by omega) (by omega) (by omega) (th_k Y cr n (j + 1) (k + 4))
      have w := wl_kinds hN hc n (j + 1) (k + 4) (x + 1) (q + 2 ^ j) p' u' _ (by omega) (by omega) (by rw [Nat.pow_succ]; omega) (by omega) c D'
      exact wl_s (by omega) h e w
    · rw [kH, if_neg z] at h
      exact wl_kinds hN hc n (j + 1) (k + 1) x q p u so (by omega) (by omega) (by rw [Nat.pow_succ]; omega) (by omega) h D
/-- the whole text, read -/
theorem rd_wl {Y : YB} (hN : Y.2.2.1 < 2147483648) {k : Nat} (hk : k < 100000) {p : PS} {u : KS} (h : CS p 0 (nI 0) (ldT Y k).1) (D : dZ u 0) (hc : ldN Y k ≤ 20) : ∃ p1, fX6_readToken p = some p1 ∧ WL 0 p1 u (ldN Y k) := by
  have d0 := dr_lt hN (k := k) (n := 10) (by omega) (by decide) (by decide)
  have d2 := dr_lt hN (k := k + 2) (n := 30) (by omega) (by decide) (by decide)
  have d3 := dr_lt hN (k := k + 3) (n := 12) (by omega) (by decide) (by decide)
  have d4 := dr_lt hN (k := k + 4) (n := 8) (by omega) (by decide) (by decide)
  have d5 := dr_lt hN (k := k + 5) (n := 40) (by omega) (by decide) (by decide)
  have d6 := dr_lt hN (k := k + 6) (n := 6) (by omega) (by decide) (by decide)
  have d7 := dr_lt hN (k := k + 7) (n := 500) (by omega) (by decide) (by decide)
  have d8 := dr_lt hN (k := k + 8) (n := 160) (by omega) (by decide) (by decide)
  have d9 := dr_lt hN (k := k + 9) (n := 3) (by omega) (by decide) (by decide)
  have d10 := dr_lt hN (k := k + 10) (n := 5) (by omega) (by decide) (by decide)
  have d11 := dr_lt hN (k := k + 11) (n := 3) (by omega) (by decide) (by decide)
  have d12 := dr_lt hN (k := k + 12) (n := 3) (by omega) (by decide) (by decide)
  have d13 := dr_lt hN (k := k + 13) (n := 4) (by omega) (by decide) (by decide)
  obtain ⟨p1, e1, c1⟩ := ct_next h (ld_t Y k) (Or.inl rfl) (qk_tide _)
  obtain ⟨p2, u2, e2, c2, D2⟩ := st_tide D c1 (by decide) (by omega) (by omega) (by omega) (qk_deck _)
  obtain ⟨p3, u3, e3, c3, D3⟩ := st_deck D2 c2 (by decide) (by omega) (by omega) (qk_lanes _)
  obtain ⟨p4, u4, e4, c4, D4⟩ := st_lanes D3 c3 (by decide) (by omega) (by omega) (by omega) (qk_winch _)
  obtain ⟨p5, u5, e5, c5, D5⟩ := st_winch D4 c4 (by decide) (by omega) (by omega) (by omega) (qk_cross _)
  obtain ⟨p6, u6, e6, c6, D6⟩ := st_cross D5 c5 (by decide) (by omega) (by omega) (th_k Y (ldN Y k) 4 0 (k + 14))
  exact ⟨p1, e1, wl_s (by omega) c1 e2 (wl_s (by omega) c2 e3 (wl_s (by omega) c3 e4 (wl_s (by omega) c4 e5 (wl_s (by omega) c5 e6 (wl_kinds hN hc 4 0 (k + 14) 5 0 p6 u6 _ (by omega) rfl (by decide) (by omega) c6 D6)))))⟩
theorem sI_1 {f : Nat → Int32} : ∀ {n : Nat}, (∀ j, j < n → f j = 1) → sI f n = nI n
  | 0, _ => rfl
  | n + 1, h => by
    show sI f n + f n = _
    rw [sI_1 (fun j hj => h j (by omega)), h n (by omega), nI_1]
/-- a set-up's state holds all that is kept -/
theorem dZ_lv {u : KS} {m : Nat} (hm : m ≤ 20) (D : dZ u m) : ∃ u' g, fX8_becomeLevel u = some u' ∧ eRel u' g ∧ eInv 61000 g ∧ PX g ∧ eI g = 0 ∧ g 14 = nI m := by
  obtain ⟨g0, D1, S, P1, P2, P3, P4, P5, P6, P9, P10, PC⟩ := D
  obtain ⟨u', e, R, I⟩ := lv_good D1 S
  obtain ⟨_, _, G, _, W, z0, z1, z2⟩ := id D1
  have F : eF g0 (upd g0 1 (eV g0 0)) := eF_upd g0 (by omega) _
  have un : ∀ i, i ≠ 1 → upd g0 1 (eV g0 0) i = g0 i := fun i hi => uq_o _ _ hi
  have hN : eN g0 = m := by
    unfold eN
    rw [P1, qa_ixn (by omega)]
  have hm1 : ((-1) : Int32).toInt = -1 := by decide
  refine ⟨u', upd g0 1 (eV g0 0), e, R, I, ?_, ?_, ?_⟩
  · unfold PX
    rw [F.N, hN, F.Ld, un 9 (by omega), un 10 (by omega), un 14 (by omega), un 2 (by omega), un 3 (by omega), un 4 (by omega), un 5 (by omega), un 6 (by omega), un 0 (by omega), un 22 (by omega), un 27 (by omega)]
    have cw : ∀ c, c < m → eC (upd g0 1 (eV g0 0)) c 2 = 0 ∧ eC (upd g0 1 (eV g0 0)) c 3 = (-1) ∧ eC (upd g0 1 (eV g0 0)) c 5 = (-1) ∧ eC (upd g0 1 (eV g0 0)) c 6 = (-1) := by
      intro c hc
      rw [F.C]
      have w := W c (by omega)
      exact ⟨w, (PC c hc).1, (G.2.1 c (by omega)).2.2.2.2.2.2.2.2.1 w, (PC c hc).2⟩
    have S1 := S.1
    refine ⟨fun c hc => ?_, ?_, ?_, ?_, Or.inr P3, fun _ => ?_, fun q => absurd P4 q, ?_, ?_⟩
    · obtain ⟨q1, q2, q3, q4⟩ := cw c hc
      unfold pCar
      rw [q1, q2, q3, q4, hm1]
      exact ⟨Iff.rfl, ⟨fun h => absurd h (by omega), fun h => absurd h (by decide)⟩, fun h => absurd h (by omega)⟩
    · rw [P9]
      exact (sI_0 fun c hc => by
        unfold eEf
        rw [(cw c hc).2.2.2, hm1, if_neg (by omega)]).symm
    · rw [P10]
      exact (sI_0 fun c hc => by
        unfold e3f
        rw [(cw c hc).1, if_neg (by decide)]).symm
    · rw [← z2, P1]
      exact (sI_1 fun c hc => by
        unfold e0f
        rw [(cw c hc).1, if_pos rfl]).symm
    · rw [(w_0 W).2.1, qa_0]
      omega
    · rw [P5, qa_0]
      omega
    · rw [P6, z0, qa_0]
      omega
  · unfold eI
    rw [F.V, un 0 (by omega), z0, uq_s, Int32.sub_self]
    decide
  · rw [un 14 (by omega), ← z2, P1]
theorem rd_ok {Y : YB} (hN : Y.2.2.1 < 2147483648) {k : Nat} (hk : k < 100000) {p : PS} (u : KS) (hl : (ldT Y k).1.length ≤ 500) (hp : pLe p = nI (ldT Y k).1.length) (hb : ∀ j, j < (ldT Y k).1.length → pBy p j = nI ((ldT Y k).1.getD j 0)) (hc : ldN Y k ≤ 20) :
    ∃ p' u' g, fX6_readSetup p u = some (1, p', u') ∧ eRel u' g ∧ eInv 61000 g ∧ PX g ∧ eI g = 0 ∧ g 14 = nI (ldN Y k) := by
  obtain ⟨u1, g1, b1, ⟨b2, b3⟩, b13, b5, b6, b7, b8, b9, b10, b11⟩ := bn_all u
  have D : dZ u1 0 := ⟨g1, b2, b3, b13, b5, b6, b7, b8, b9, b10, b11, fun c hc => by omega⟩
  have cs : CS (tEn (tEp (tEc (tKo (tSo p 0) 0) 0) (-1)) 0) 0 (nI 0) (ldT Y k).1 := ⟨0, (ldT Y k).1.length, ⟨hl, hp⟩, rfl, rfl, rfl, rfl, by omega, fun j hj => by rw [Nat.zero_add]; exact hb j hj⟩
  obtain ⟨p1, e1, q, v, w1, w2, w3⟩ := rd_wl hN hk cs D hc
  obtain ⟨u', g, l1, l2, l3, l4, l5, l6⟩ := dZ_lv hc w3
  refine ⟨q, u', g, ?_, l2, l3, l4, l5, l6⟩
  unfold fX6_readSetup fX6_readSetup_b0 fX6_readFirstToken fX6_readFirstToken_b0
  rw [b1, qa_b, e1, qa_b, qa_b]
  refine Eq.trans w1 ?_
  unfold fX6_readSetup_b52
  rw [l1, qa_b, if_pos w2]
