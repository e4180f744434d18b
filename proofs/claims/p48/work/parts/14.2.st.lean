/-! a set-up's statements -/
def wTide : List Nat := [116, 105, 100, 101]
def wQuay : List Nat := [113, 117, 97, 121]
def wDeck : List Nat := [100, 101, 99, 107]
def wLanes : List Nat := [108, 97, 110, 101, 115]
def wWinch : List Nat := [119, 105, 110, 99, 104]
def wCross : List Nat := [99, 114, 111, 115, 115]
def wKind : List Nat := [107, 105, 110, 100]
def wCar : List Nat := [99, 97, 114]
def wHalf : List Nat := [104, 97, 108, 102]
def wSink : List Nat := [115, 105, 110, 107]
def wLoad : List Nat := [108, 111, 97, 100]
def wList : List Nat := [108, 105, 115, 116]
def wPatience : List Nat := [112, 97, 116, 105, 101, 110, 99, 101]
theorem qk_w {s r : List Nat} (h0 : 0 < s.length) (h : ∀ j, j < s.length → tyB (nI (s.getD j 0)) = 1) : tokk 1 s ([32] ++ r) := Or.inr (Or.inl ⟨Or.inl rfl, h0, h, Or.inr (by show ¬ tyB (nI 32) = 1; decide)⟩)
theorem qk_n32 {v : Nat} (hv : v < 1000) (r : List Nat) : tokk 2 (decL v) ([32] ++ r) := qk_n hv (Or.inr (by show ¬ tyB (nI 32) = 2; decide))
theorem qk_n59 {v : Nat} (hv : v < 1000) (r : List Nat) : tokk 2 (decL v) ([59] ++ r) := qk_n hv (Or.inr (by show ¬ tyB (nI 59) = 2; decide))
theorem qk_59 (r : List Nat) : tokk 4 [59] r := Or.inr (Or.inr ⟨rfl, rfl⟩)
theorem qk_tide (r : List Nat) : tokk 1 wTide ([32] ++ r) := qk_w (by decide) (by decide)
theorem qk_quay (r : List Nat) : tokk 1 wQuay ([32] ++ r) := qk_w (by decide) (by decide)
theorem qk_deck (r : List Nat) : tokk 1 wDeck ([32] ++ r) := qk_w (by decide) (by decide)
theorem qk_lanes (r : List Nat) : tokk 1 wLanes ([32] ++ r) := qk_w (by decide) (by decide)
theorem qk_winch (r : List Nat) : tokk 1 wWinch ([32] ++ r) := qk_w (by decide) (by decide)
theorem qk_cross (r : List Nat) : tokk 1 wCross ([32] ++ r) := qk_w (by decide) (by decide)
theorem qk_kind (r : List Nat) : tokk 1 wKind ([32] ++ r) := qk_w (by decide) (by decide)
theorem qk_car (r : List Nat) : tokk 1 wCar ([32] ++ r) := qk_w (by decide) (by decide)
theorem qk_half (r : List Nat) : tokk 1 wHalf ([32] ++ r) := qk_w (by decide) (by decide)
theorem qk_sink (r : List Nat) : tokk 1 wSink ([32] ++ r) := qk_w (by decide) (by decide)
theorem qk_load (r : List Nat) : tokk 1 wLoad ([32] ++ r) := qk_w (by decide) (by decide)
theorem qk_list (r : List Nat) : tokk 1 wList ([32] ++ r) := qk_w (by decide) (by decide)
theorem qk_patience (r : List Nat) : tokk 1 wPatience ([32] ++ r) := qk_w (by decide) (by decide)
/-- a statement, begun -/
theorem st_go {p : PS} {so ko : Int32} {s r : List Nat} (h : CT p so ko 1 s r) (hs : s.length ≤ 20) {x : Int32} (hst : stO s = some x) (u : KS) (h1 : ¬ x = (-1)) (h7 : x = 7 → sC u 3 < 20) (h6 : 6 ≤ x ∨ ((so >>> (x &&& 31)) &&& 1) = 0)
    {s1 r1 : List Nat} {ty1 : Int32} (hr : r = [32] ++ (s1 ++ r1)) (K : tokk ty1 s1 r1) : ∃ p1, CT p1 (so ||| (1 <<< (x &&& 31))) ko ty1 s1 r1 ∧ fX6_readStatement p u = bnd (fX6_readSettings x p1 u) (fun u87 => bnd (fX6_readSemicolon u87.1) (fun u91 => some (u91, u87.2))) := by
  have h' := h.so (so ||| (1 <<< (x &&& 31)))
  obtain ⟨p1, e1, c1⟩ := ct_next h'.cs hr (Or.inr rfl) K
  have e68 : fX6_readStatement_b68 x p u = bnd (fX6_readSettings x p1 u) (fun u87 => bnd (fX6_readSemicolon u87.1) (fun u91 => some (u91, u87.2))) := by
    unfold fX6_readStatement_b68
    rw [h.eso, e1, qa_b]
  have e43 : fX6_readStatement_b43 x p u = bnd (fX6_readSettings x p1 u) (fun u87 => bnd (fX6_readSemicolon u87.1) (fun u91 => some (u91, u87.2))) := by
    unfold fX6_readStatement_b43
    rw [e68, h.eso]
    rcases h6 with q | q
    · rw [if_pos q]
    · rw [if_pos q]
      split <;> rfl
  refine ⟨p1, c1, ?_⟩
  unfold fX6_readStatement fX6_readStatement_b0
  rw [sh_w h hs, hst, qa_b, if_neg h1, e43]
  by_cases q : x = 7
  · rw [if_pos q, if_pos (h7 q)]
  · rw [if_neg q]
/-- what a draft's ghost holds beside dQ -/
def dP (g : Nat → Int32) (m : Nat) : Prop := g 13 = nI m ∧ g 2 = 0 ∧ g 3 = 0 ∧ g 4 = (-1) ∧ g 5 = 0 ∧ g 6 = 0 ∧ g 9 = 0 ∧ g 10 = 0 ∧ ∀ c, c < m → eC g c 3 = (-1) ∧ eC g c 6 = (-1)
theorem dP.set {g : Nat → Int32} {m : Nat} (h : dP g m) {i : Nat} (h1 : 15 ≤ i) (h2 : i < 41) (x : Int32) : dP (upd g i x) m := by
  obtain ⟨a1, a2, a3, a4, a5, a6, a7, a8, a9⟩ := h
  refine ⟨(uq_o _ _ (by omega)).trans a1, (uq_o _ _ (by omega)).trans a2, (uq_o _ _ (by omega)).trans a3, (uq_o _ _ (by omega)).trans a4, (uq_o _ _ (by omega)).trans a5, (uq_o _ _ (by omega)).trans a6, (uq_o _ _ (by omega)).trans a7, (uq_o _ _ (by omega)).trans a8, fun c hc => ?_⟩
  unfold eC
  rw [uq_o _ _ (by omega), uq_o _ _ (by omega)]
  exact a9 c hc
theorem ad_o (g : Nat → Int32) {n q : Nat} {k w : Int32} {i : Nat} (hi : i < 13) : adG g n q k w i = g i := by
  unfold adG
  rw [uq_o _ _ (by omega), uq_o _ _ (by omega), uq_o _ _ (by omega), uq_o _ _ (by omega), uq_o _ _ (by omega), uq_o _ _ (by omega), uq_o _ _ (by omega), uq_o _ _ (by omega), uq_o _ _ (by omega), uq_o _ _ (by omega)]
theorem dP.car {g : Nat → Int32} {m : Nat} (h : dP g m) (hm : m < 20) (k w : Int32) : dP (adG g m m k w) (m + 1) := by
  obtain ⟨a1, a2, a3, a4, a5, a6, a7, a8, a9⟩ := h
  refine ⟨?_, (ad_o g (by omega)).trans a2, (ad_o g (by omega)).trans a3, (ad_o g (by omega)).trans a4, (ad_o g (by omega)).trans a5, (ad_o g (by omega)).trans a6, (ad_o g (by omega)).trans a7, (ad_o g (by omega)).trans a8, fun c hc => ?_⟩
  · unfold adG
    rw [uq_o _ _ (by omega), uq_o _ _ (by omega), uq_o _ _ (by omega), uq_o _ _ (by omega), uq_o _ _ (by omega), uq_o _ _ (by omega), uq_o _ _ (by omega), uq_o _ _ (by omega), uq_o _ _ (by omega), uq_s]
  · by_cases e : c = m
    · subst e
      unfold eC adG
      refine ⟨?_, ?_⟩
      · rw [uq_o _ _ (by omega), uq_o _ _ (by omega), uq_o _ _ (by omega), uq_o _ _ (by omega), uq_o _ _ (by omega), uq_s]
      · rw [uq_o _ _ (by omega), uq_o _ _ (by omega), uq_s]
    · unfold eC adG
      rw [uq_o _ _ (by omega), uq_o _ _ (by omega), uq_o _ _ (by omega), uq_o _ _ (by omega), uq_o _ _ (by omega), uq_o _ _ (by omega), uq_o _ _ (by omega), uq_o _ _ (by omega), uq_o _ _ (by omega), uq_o _ _ (by omega),
        uq_o _ _ (by omega), uq_o _ _ (by omega), uq_o _ _ (by omega), uq_o _ _ (by omega), uq_o _ _ (by omega), uq_o _ _ (by omega), uq_o _ _ (by omega), uq_o _ _ (by omega), uq_o _ _ (by omega), uq_o _ _ (by omega)]
      exact a9 c (by omega)
/-- a draft with m cars -/
def dZ (u : KS) (m : Nat) : Prop := ∃ g, dQ u g ∧ eS g ∧ dP g m
theorem u3_tide (g : Nat → Int32) (a b c : Int32) : upd (upd (upd g 15 a) 16 b) 17 c = upd (upd (upd g 17 c) 15 a) 16 b := by
  funext i
  unfold upd
  by_cases h : i = 17
  · subst h
    rfl
  · by_cases h5 : i = 15
    · subst h5
      rfl
    · by_cases h6 : i = 16
      · subst h6
        rfl
      · rw [if_neg h, if_neg h6, if_neg h5, if_neg h6, if_neg h5, if_neg h]
theorem st_tide {p : PS} {so ko : Int32} {u : KS} {m : Nat} {s' r' : List Nat} {ty' : Int32} {a b c : Nat} (D : dZ u m) (h : CT p so ko 1 wTide ([32] ++ (decL a ++ ([32] ++ (decL b ++ ([32] ++ (wHalf ++ ([32] ++ (decL c ++ ([59] ++ (s' ++ r'))))))))))) (hso : ((so >>> ((0 : Int32) &&& 31)) &&& 1) = 0) (ha : a < 1000 ∧ a ≤ 500) (hb : b < 1000 ∧ b ≤ 500 ∧ a ≤ b) (hc : c < 1000 ∧ c ≤ 99 ∧ 1 ≤ c) (K : tokk ty' s' r') :
    ∃ p' u', fX6_readStatement p u = some (p', u') ∧ CT p' (so ||| (1 <<< ((0 : Int32) &&& 31))) ko ty' s' r' ∧ dZ u' m := by
  obtain ⟨g, D1, D2, D3⟩ := D
  have Ia := qa_nI (n := a) (by omega)
  have Ib := qa_nI (n := b) (by omega)
  have Ic := qa_nI (n := c) (by omega)
  have t1 : (1 : Int32).toInt = 1 := by decide
  have t99 : (99 : Int32).toInt = 99 := by decide
  have t500 : (500 : Int32).toInt = 500 := by decide
  have tm : (-500 : Int32).toInt = -500 := by decide
  obtain ⟨p0, c0, eS0⟩ := st_go h (by decide) (x := 0) (by decide) u (by decide) (fun q => absurd q (by decide)) (Or.inr hso) rfl (qk_n32 (by omega) _)
  obtain ⟨p1, e1, c1⟩ := rh_v c0 (by omega) (lo := (-500)) (hi := 500) (by rw [tm]; omega) (by rw [t500]; omega) rfl (Or.inr rfl) (qk_n32 (by omega) _)
  obtain ⟨p2, e2, c2⟩ := rh_v c1 (by omega) (lo := nI a) (hi := 500) (by rw [Ia]; omega) (by rw [t500]; omega) rfl (Or.inr rfl) (qk_half _)
  obtain ⟨p3, e3, c3⟩ := rw_v c2 (by decide) (w := 22) (by decide) rfl (Or.inr rfl) (qk_n59 (by omega) _)
  obtain ⟨p4, e4, c4⟩ := rn_e c3 (by omega) (lo := 1) (hi := 99) (by rw [t1]; omega) (by rw [t99]; omega)
  obtain ⟨pz, ez, cz⟩ := rs_e c4 K
  refine ⟨pz, (wT (wT (wT u 0 (nI a)) 1 (nI b)) 2 (nI c)), ?_, cz, (upd (upd (upd g 15 (nI a)) 16 (nI b)) 17 (nI c)), (dQ.set (dQ.set (dQ.set D1 (j := 0) (by omega) (x := nI a) (fun _ => by rw [Ia]; omega)) (j := 1) (by omega) (x := nI b) (fun _ => by rw [Ib]; omega)) (j := 2) (by omega) (x := nI c) (fun _ => by rw [Ic]; omega)), ?_, (dP.set (dP.set (dP.set D3 (i := 15) (by omega) (by omega) (nI a)) (i := 16) (by omega) (by omega) (nI b)) (i := 17) (by omega) (by omega) (nI c))⟩
  · rw [eS0]
    unfold fX6_readSettings fX6_readSettings_b0
    rw [if_pos (rfl : (0 : Int32) = 0), e1, qa_b2, show sT (wT u 0 (nI a)) 0 = nI a from rfl, e2, qa_b2, e3, qa_b, e4, qa_b2, qa_b, ez, qa_b]
  · rw [u3_tide]
    exact eS_tide D2 (by rw [Ia]; omega) (by rw [Ia, Ib]; omega) (by rw [Ib]; omega) (by rw [Ic]; omega) (by rw [Ic]; omega)
theorem st_deck {p : PS} {so ko : Int32} {u : KS} {m : Nat} {s' r' : List Nat} {ty' : Int32} {a b : Nat} (D : dZ u m) (h : CT p so ko 1 wDeck ([32] ++ (decL a ++ ([32] ++ (wSink ++ ([32] ++ (decL b ++ ([59] ++ (s' ++ r'))))))))) (hso : ((so >>> ((2 : Int32) &&& 31)) &&& 1) = 0) (ha : a < 1000 ∧ a ≤ 300) (hb : b < 1000 ∧ b ≤ 999 ∧ 1 ≤ b) (K : tokk ty' s' r') :
    ∃ p' u', fX6_readStatement p u = some (p', u') ∧ CT p' (so ||| (1 <<< ((2 : Int32) &&& 31))) ko ty' s' r' ∧ dZ u' m := by
  obtain ⟨g, D1, D2, D3⟩ := D
  have Ia := qa_nI (n := a) (by omega)
  have Ib := qa_nI (n := b) (by omega)
  have t0 : (0 : Int32).toInt = 0 := by decide
  have t1 : (1 : Int32).toInt = 1 := by decide
  have t300 : (300 : Int32).toInt = 300 := by decide
  have t999 : (999 : Int32).toInt = 999 := by decide
  obtain ⟨p0, c0, eS0⟩ := st_go h (by decide) (x := 2) (by decide) u (by decide) (fun q => absurd q (by decide)) (Or.inr hso) rfl (qk_n32 (by omega) _)
  obtain ⟨p1, e1, c1⟩ := rn_v c0 (by omega) (lo := 0) (hi := 300) (by rw [t0]; omega) (by rw [t300]; omega) rfl (Or.inr rfl) (qk_sink _)
  obtain ⟨p2, e2, c2⟩ := rw_v c1 (by decide) (w := 23) (by decide) rfl (Or.inr rfl) (qk_n59 (by omega) _)
  obtain ⟨p3, e3, c3⟩ := rn_e c2 (by omega) (lo := 1) (hi := 999) (by rw [t1]; omega) (by rw [t999]; omega)
  obtain ⟨pz, ez, cz⟩ := rs_e c3 K
  refine ⟨pz, (wT (wT u 4 (nI a)) 5 (nI b)), ?_, cz, (upd (upd g 19 (nI a)) 20 (nI b)), (dQ.set (dQ.set D1 (j := 4) (by omega) (x := nI a) (fun _ => by rw [Ia]; omega)) (j := 5) (by omega) (x := nI b) (fun _ => by rw [Ib]; omega)), ?_, (dP.set (dP.set D3 (i := 19) (by omega) (by omega) (nI a)) (i := 20) (by omega) (by omega) (nI b))⟩
  · rw [eS0]
    unfold fX6_readSettings fX6_readSettings_b0
    rw [if_neg (by decide : ¬ (2 : Int32) = 0), if_neg (by decide : ¬ (2 : Int32) = 1), if_pos (rfl : (2 : Int32) = 2), e1, qa_b2, e2, qa_b, e3, qa_b2, qa_b, ez, qa_b]
  · exact (eS_20 (eS_19 D2 (x := nI a) (by rw [Ia]; omega) (by rw [Ia]; omega)) (x := nI b) (by rw [Ib]; omega) (by rw [Ib]; omega))
theorem st_lanes {p : PS} {so ko : Int32} {u : KS} {m : Nat} {s' r' : List Nat} {ty' : Int32} {a b c : Nat} (D : dZ u m) (h : CT p so ko 1 wLanes ([32] ++ (decL a ++ ([32] ++ (wLoad ++ ([32] ++ (decL b ++ ([32] ++ (wList ++ ([32] ++ (decL c ++ ([59] ++ (s' ++ r'))))))))))))) (hso : ((so >>> ((3 : Int32) &&& 31)) &&& 1) = 0) (ha : a < 1000 ∧ a ≤ 30 ∧ 1 ≤ a) (hb : b < 1000 ∧ 1 ≤ b) (hc : c < 1000) (K : tokk ty' s' r') :
    ∃ p' u', fX6_readStatement p u = some (p', u') ∧ CT p' (so ||| (1 <<< ((3 : Int32) &&& 31))) ko ty' s' r' ∧ dZ u' m := by
  obtain ⟨g, D1, D2, D3⟩ := D
  have Ia := qa_nI (n := a) (by omega)
  have Ib := qa_nI (n := b) (by omega)
  have Ic := qa_nI (n := c) (by omega)
  have t0 : (0 : Int32).toInt = 0 := by decide
  have t1 : (1 : Int32).toInt = 1 := by decide
  have t30 : (30 : Int32).toInt = 30 := by decide
  have t9999 : (9999 : Int32).toInt = 9999 := by decide
  obtain ⟨p0, c0, eS0⟩ := st_go h (by decide) (x := 3) (by decide) u (by decide) (fun q => absurd q (by decide)) (Or.inr hso) rfl (qk_n32 (by omega) _)
  obtain ⟨p1, e1, c1⟩ := rn_v c0 (by omega) (lo := 1) (hi := 30) (by rw [t1]; omega) (by rw [t30]; omega) rfl (Or.inr rfl) (qk_load _)
  obtain ⟨p2, e2, c2⟩ := rw_v c1 (by decide) (w := 24) (by decide) rfl (Or.inr rfl) (qk_n32 (by omega) _)
  obtain ⟨p3, e3, c3⟩ := rn_v c2 (by omega) (lo := 1) (hi := 9999) (by rw [t1]; omega) (by rw [t9999]; omega) rfl (Or.inr rfl) (qk_list _)
  obtain ⟨p4, e4, c4⟩ := rw_v c3 (by decide) (w := 25) (by decide) rfl (Or.inr rfl) (qk_n59 (by omega) _)
  obtain ⟨p5, e5, c5⟩ := rn_e c4 (by omega) (lo := 0) (hi := 9999) (by rw [t0]; omega) (by rw [t9999]; omega)
  obtain ⟨pz, ez, cz⟩ := rs_e c5 K
  refine ⟨pz, (wT (wT (wT u 6 (nI a)) 7 (nI b)) 8 (nI c)), ?_, cz, (upd (upd (upd g 21 (nI a)) 22 (nI b)) 23 (nI c)), (dQ.set (dQ.set (dQ.set D1 (j := 6) (by omega) (x := nI a) (fun _ => by rw [Ia]; omega)) (j := 7) (by omega) (x := nI b) (fun _ => by rw [Ib]; omega)) (j := 8) (by omega) (x := nI c) (fun _ => by rw [Ic]; omega)), ?_, (dP.set (dP.set (dP.set D3 (i := 21) (by omega) (by omega) (nI a)) (i := 22) (by omega) (by omega) (nI b)) (i := 23) (by omega) (by omega) (nI c))⟩
  · rw [eS0]
    unfold fX6_readSettings fX6_readSettings_b0
    rw [if_neg (by decide : ¬ (3 : Int32) = 0), if_neg (by decide : ¬ (3 : Int32) = 1), if_neg (by decide : ¬ (3 : Int32) = 2), if_pos (rfl : (3 : Int32) = 3), e1, qa_b2, e2, qa_b, e3, qa_b2, e4, qa_b, e5, qa_b2, qa_b, ez, qa_b]
  · exact (eS_23 (eS_22 (eS_21 D2 (x := nI a) (by rw [Ia]; omega) (by rw [Ia]; omega)) (x := nI b) (by rw [Ib]; omega) (by rw [Ib]; omega)) (x := nI c) (by rw [Ic]; omega) (by rw [Ic]; omega))
theorem st_winch {p : PS} {so ko : Int32} {u : KS} {m : Nat} {s' r' : List Nat} {ty' : Int32} {a b c : Nat} (D : dZ u m) (h : CT p so ko 1 wWinch ([32] ++ (decL a ++ ([32] ++ (decL b ++ ([32] ++ (decL c ++ ([59] ++ (s' ++ r'))))))))) (hso : ((so >>> ((4 : Int32) &&& 31)) &&& 1) = 0) (ha : a < 1000 ∧ a ≤ 20 ∧ 1 ≤ a) (hb : b < 1000 ∧ b ≤ 50) (hc : c < 1000 ∧ c ≤ 20) (K : tokk ty' s' r') :
    ∃ p' u', fX6_readStatement p u = some (p', u') ∧ CT p' (so ||| (1 <<< ((4 : Int32) &&& 31))) ko ty' s' r' ∧ dZ u' m := by
  obtain ⟨g, D1, D2, D3⟩ := D
  have Ia := qa_nI (n := a) (by omega)
  have Ib := qa_nI (n := b) (by omega)
  have Ic := qa_nI (n := c) (by omega)
  have t0 : (0 : Int32).toInt = 0 := by decide
  have t1 : (1 : Int32).toInt = 1 := by decide
  have t20 : (20 : Int32).toInt = 20 := by decide
  have t50 : (50 : Int32).toInt = 50 := by decide
  obtain ⟨p0, c0, eS0⟩ := st_go h (by decide) (x := 4) (by decide) u (by decide) (fun q => absurd q (by decide)) (Or.inr hso) rfl (qk_n32 (by omega) _)
  obtain ⟨p1, e1, c1⟩ := rn_v c0 (by omega) (lo := 1) (hi := 20) (by rw [t1]; omega) (by rw [t20]; omega) rfl (Or.inr rfl) (qk_n32 (by omega) _)
  obtain ⟨p2, e2, c2⟩ := rn_v c1 (by omega) (lo := 0) (hi := 50) (by rw [t0]; omega) (by rw [t50]; omega) rfl (Or.inr rfl) (qk_n59 (by omega) _)
  obtain ⟨p3, e3, c3⟩ := rn_e c2 (by omega) (lo := 0) (hi := 20) (by rw [t0]; omega) (by rw [t20]; omega)
  obtain ⟨pz, ez, cz⟩ := rs_e c3 K
  refine ⟨pz, (wT (wT (wT u 9 (nI a)) 10 (nI b)) 11 (nI c)), ?_, cz, (upd (upd (upd g 24 (nI a)) 25 (nI b)) 26 (nI c)), (dQ.set (dQ.set (dQ.set D1 (j := 9) (by omega) (x := nI a) (fun _ => by rw [Ia]; omega)) (j := 10) (by omega) (x := nI b) (fun _ => by rw [Ib]; omega)) (j := 11) (by omega) (x := nI c) (fun _ => by rw [Ic]; omega)), ?_, (dP.set (dP.set (dP.set D3 (i := 24) (by omega) (by omega) (nI a)) (i := 25) (by omega) (by omega) (nI b)) (i := 26) (by omega) (by omega) (nI c))⟩
  · rw [eS0]
    unfold fX6_readSettings fX6_readSettings_b0
    rw [if_neg (by decide : ¬ (4 : Int32) = 0), if_neg (by decide : ¬ (4 : Int32) = 1), if_neg (by decide : ¬ (4 : Int32) = 2), if_neg (by decide : ¬ (4 : Int32) = 3), if_pos (rfl : (4 : Int32) = 4), e1, qa_b2, e2, qa_b2, e3, qa_b2, qa_b, ez, qa_b]
  · exact (eS_26 (eS_25 (eS_24 D2 (x := nI a) (by rw [Ia]; omega) (by rw [Ia]; omega)) (x := nI b) (by rw [Ib]; omega) (by rw [Ib]; omega)) (x := nI c) (by rw [Ic]; omega) (by rw [Ic]; omega))
theorem st_cross {p : PS} {so ko : Int32} {u : KS} {m : Nat} {s' r' : List Nat} {ty' : Int32} {a b : Nat} (D : dZ u m) (h : CT p so ko 1 wCross ([32] ++ (decL a ++ ([32] ++ (wPatience ++ ([32] ++ (decL b ++ ([59] ++ (s' ++ r'))))))))) (hso : ((so >>> ((5 : Int32) &&& 31)) &&& 1) = 0) (ha : a < 1000 ∧ a ≤ 20 ∧ 1 ≤ a) (hb : b < 1000 ∧ b ≤ 50 ∧ 1 ≤ b) (K : tokk ty' s' r') :
    ∃ p' u', fX6_readStatement p u = some (p', u') ∧ CT p' (so ||| (1 <<< ((5 : Int32) &&& 31))) ko ty' s' r' ∧ dZ u' m := by
  obtain ⟨g, D1, D2, D3⟩ := D
  have Ia := qa_nI (n := a) (by omega)
  have Ib := qa_nI (n := b) (by omega)
  have t1 : (1 : Int32).toInt = 1 := by decide
  have t20 : (20 : Int32).toInt = 20 := by decide
  have t50 : (50 : Int32).toInt = 50 := by decide
  obtain ⟨p0, c0, eS0⟩ := st_go h (by decide) (x := 5) (by decide) u (by decide) (fun q => absurd q (by decide)) (Or.inr hso) rfl (qk_n32 (by omega) _)
  obtain ⟨p1, e1, c1⟩ := rn_v c0 (by omega) (lo := 1) (hi := 20) (by rw [t1]; omega) (by rw [t20]; omega) rfl (Or.inr rfl) (qk_patience _)
  obtain ⟨p2, e2, c2⟩ := rw_v c1 (by decide) (w := 26) (by decide) rfl (Or.inr rfl) (qk_n59 (by omega) _)
  obtain ⟨p3, e3, c3⟩ := rn_e c2 (by omega) (lo := 1) (hi := 50) (by rw [t1]; omega) (by rw [t50]; omega)
  obtain ⟨pz, ez, cz⟩ := rs_e c3 K
  refine ⟨pz, (wT (wT u 12 (nI a)) 13 (nI b)), ?_, cz, (upd (upd g 27 (nI a)) 28 (nI b)), (dQ.set (dQ.set D1 (j := 12) (by omega) (x := nI a) (fun _ => by rw [Ia]; omega)) (j := 13) (by omega) (x := nI b) (fun _ => by rw [Ib]; omega)), ?_, (dP.set (dP.set D3 (i := 27) (by omega) (by omega) (nI a)) (i := 28) (by omega) (by omega) (nI b))⟩
  · rw [eS0]
    unfold fX6_readSettings fX6_readSettings_b0
    rw [if_neg (by decide : ¬ (5 : Int32) = 0), if_neg (by decide : ¬ (5 : Int32) = 1), if_neg (by decide : ¬ (5 : Int32) = 2), if_neg (by decide : ¬ (5 : Int32) = 3), if_neg (by decide : ¬ (5 : Int32) = 4), if_pos (rfl : (5 : Int32) = 5), e1, qa_b2, e2, qa_b, e3, qa_b2, qa_b, ez, qa_b]
  · exact (eS_28 (eS_27 D2 (x := nI a) (by rw [Ia]; omega) (by rw [Ia]; omega)) (x := nI b) (by rw [Ib]; omega) (by rw [Ib]; omega))
theorem kb_all : ∀ m : Fin 16, ∀ j : Fin 4, m.val < 2 ^ j.val → ((nI m.val >>> (nI j.val &&& 31)) &&& 1) = 0 ∧ (nI m.val ||| (1 <<< (nI j.val &&& 31))) = nI (m.val + 2 ^ j.val) := by
  decide +kernel
theorem st_kind {p : PS} {so : Int32} {u : KS} {m j q : Nat} {s' r' : List Nat} {ty' : Int32} {a b c : Nat} (D : dZ u m) (hj : j < 4) (hq : q < 2 ^ j)
    (h : CT p so (nI q) 1 wKind ([32] ++ (decL j ++ ([32] ++ (decL a ++ ([32] ++ (decL b ++ ([32] ++ (decL c ++ ([59] ++ (s' ++ r'))))))))))) (ha : a ≤ 500) (hb : b ≤ 99) (hc : 1 ≤ c ∧ c ≤ 9) (K : tokk ty' s' r') :
    ∃ p' u', fX6_readStatement p u = some (p', u') ∧ CT p' (so ||| (1 <<< ((6 : Int32) &&& 31))) (nI (q + 2 ^ j)) ty' s' r' ∧ dZ u' m := by
  obtain ⟨g, D1, D2, D3⟩ := D
  have Ij := qa_nI (n := j) (by omega)
  have Ia := qa_nI (n := a) (by omega)
  have Ib := qa_nI (n := b) (by omega)
  have Ic := qa_nI (n := c) (by omega)
  have t500 : (500 : Int32).toInt = 500 := by decide
  have t99 : (99 : Int32).toInt = 99 := by decide
  have t9 : (9 : Int32).toInt = 9 := by decide
  have h16 : q < 16 := by
    have : j = 0 ∨ j = 1 ∨ j = 2 ∨ j = 3 := by omega
    rcases this with e | e | e | e <;> subst e <;> omega
  obtain ⟨k1, k2⟩ := kb_all ⟨q, h16⟩ ⟨j, hj⟩ hq
  obtain ⟨p0, c0, eS0⟩ := st_go h (by decide) (x := 6) (by decide) u (by decide) (fun q => absurd q (by decide)) (Or.inl (by decide)) rfl (qk_n32 (by omega) _)
  obtain ⟨p1, e1, c1⟩ := rn_v c0 (by omega) (lo := 0) (hi := 3) (by rw [qa_0]; omega) (by rw [qa_3]; omega) rfl (Or.inr rfl) (qk_n32 (by omega) _)
  have c1' := c1.ko (nI (q + 2 ^ j))
  obtain ⟨p2, e2, c2⟩ := rn_v c1' (by omega) (lo := 0) (hi := 500) (by rw [qa_0]; omega) (by rw [t500]; omega) rfl (Or.inr rfl) (qk_n32 (by omega) _)
  obtain ⟨p3, e3, c3⟩ := rn_v c2 (by omega) (lo := 0) (hi := 99) (by rw [qa_0]; omega) (by rw [t99]; omega) rfl (Or.inr rfl) (qk_n59 (by omega) _)
  obtain ⟨p4, e4, c4⟩ := rn_e c3 (by omega) (lo := 1) (hi := 9) (by rw [qa_1]; omega) (by rw [t9]; omega)
  obtain ⟨pz, ez, cz⟩ := rs_e c4 K
  refine ⟨pz, kdU u j (nI a) (nI b) (nI c), ?_, cz, kdG g j (nI a) (nI b) (nI c), D1.kind hj _ _ _, D2.kind hj (by rw [Ia]; omega) (by rw [Ia]; omega) (by rw [Ib]; omega) (by rw [Ib]; omega) (by rw [Ic]; omega) (by rw [Ic]; omega), ?_⟩
  · rw [eS0]
    unfold fX6_readSettings fX6_readSettings_b0 fX6_readKind fX6_readKind_b0
    rw [if_neg (by decide : ¬ (6 : Int32) = 0), if_neg (by decide : ¬ (6 : Int32) = 1), if_neg (by decide : ¬ (6 : Int32) = 2), if_neg (by decide : ¬ (6 : Int32) = 3), if_neg (by decide : ¬ (6 : Int32) = 4), if_neg (by decide : ¬ (6 : Int32) = 5), if_pos (rfl : (6 : Int32) = 6), e1, qa_b2, if_pos c1.ec, c1.eko, if_pos k1]
    unfold fX6_readKind_b36
    rw [c1.eko, show (nI q ||| 1 <<< (nI j &&& 31)) = nI (q + 2 ^ j) from k2, e2, qa_b2, e3, qa_b2, e4, qa_b2, kd_u hj Ij, qa_b, qa_b, qa_b, ez, qa_b]
  · unfold kdG
    exact ((D3.set (by omega) (by omega) _).set (by omega) (by omega) _).set (by omega) (by omega) _
theorem st_car {p : PS} {so ko : Int32} {u : KS} {m : Nat} {s' r' : List Nat} {ty' : Int32} {a b : Nat} (D : dZ u m) (hm : m < 20)
    (h : CT p so ko 1 wCar ([32] ++ (decL a ++ ([32] ++ (decL b ++ ([59] ++ (s' ++ r'))))))) (ha : a ≤ 3) (hb : 1 ≤ b ∧ b ≤ 999) (K : tokk ty' s' r') :
    ∃ p' u', fX6_readStatement p u = some (p', u') ∧ CT p' (so ||| (1 <<< ((7 : Int32) &&& 31))) ko ty' s' r' ∧ dZ u' (m + 1) := by
  obtain ⟨g, D1, D2, D3⟩ := D
  have Ia := qa_nI (n := a) (by omega)
  have Ib := qa_nI (n := b) (by omega)
  have Im := qa_nI (n := m) (by omega)
  have t999 : (999 : Int32).toInt = 999 := by decide
  have t20 : (20 : Int32).toInt = 20 := by decide
  obtain ⟨⟨⟨A0, A1, A3, _⟩, _⟩, _, _, _, _, z0, z1, z2⟩ := id D1
  have g13 : g 13 = nI m := D3.1
  have c3' : sC u 3 = nI m := A3.trans g13
  have c1' : sC u 1 = nI m := A1.trans (z2.symm.trans g13)
  have hN : eN g = m := by
    unfold eN
    rw [g13, qa_ixn (by omega)]
  have hQ : eQ g = m := by
    unfold eQ
    rw [← z2, g13, qa_ixn (by omega)]
  obtain ⟨p0, c0, eS0⟩ := st_go h (by decide) (x := 7) (by decide) u (by decide) (fun _ => by rw [qa_lt, c3', Im, t20]; omega) (Or.inl (by decide)) rfl (qk_n32 (by omega) _)
  obtain ⟨p1, e1, c1⟩ := rn_v c0 (by omega) (lo := 0) (hi := 3) (by rw [qa_0]; omega) (by rw [qa_3]; omega) rfl (Or.inr rfl) (qk_n59 (by omega) _)
  obtain ⟨p2, e2, c2⟩ := rn_e c1 (by omega) (lo := 1) (hi := 999) (by rw [qa_1]; omega) (by rw [t999]; omega)
  obtain ⟨pz, ez, cz⟩ := rs_e c2 K
  have dc := D1.car D2 (by omega) (k := nI a) (w := nI b) (by rw [Ia]; omega) (by rw [Ia]; omega) (by rw [Ib]; omega) (by rw [Ib]; omega)
  rw [hN, hQ] at dc
  refine ⟨pz, adU u m m (nI a) (nI b) (g 0), ?_, cz, adG g m m (nI a) (nI b), dc.1, dc.2, D3.car hm _ _⟩
  rw [eS0]
  unfold fX6_readSettings fX6_readSettings_b0 fX6_readCar fX6_readCar_b0
  rw [if_neg (by decide : ¬ (7 : Int32) = 0), if_neg (by decide : ¬ (7 : Int32) = 1), if_neg (by decide : ¬ (7 : Int32) = 2), if_neg (by decide : ¬ (7 : Int32) = 3), if_neg (by decide : ¬ (7 : Int32) = 4), if_neg (by decide : ¬ (7 : Int32) = 5), if_neg (by decide : ¬ (7 : Int32) = 6), e1, qa_b2, e2, qa_b2, ad_u (n := m) (q := m) (by omega) hm c3' c1', qa_b2, qa_b, qa_b, ez, qa_b, A0]
