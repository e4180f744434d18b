/-! acts on the state: a car waved to the front, a car dismissed, a car that arrives -/
def mdQ (f : Nat → Int32) (a m p : Nat) : Nat → Int32 := fun i => if a + m < i ∧ i ≤ a + p then f (i - 1) else f i
def rtQ (f : Nat → Int32) (a p : Nat) : Nat → Int32 := upd (mdQ f a 0 p) a (f (a + p))
theorem mdQ_0 (f : Nat → Int32) (a p : Nat) : mdQ f a p p = f := by
  funext i
  unfold mdQ
  rw [if_neg (by omega)]
theorem mdQ_s (f : Nat → Int32) {a m p : Nat} (h : m + 1 ≤ p) : upd (mdQ f a (m + 1) p) (a + (m + 1)) (mdQ f a (m + 1) p (a + m)) = mdQ f a m p := by
  funext i
  unfold upd mdQ
  by_cases e : i = a + (m + 1)
  · rw [if_pos e, if_neg (by omega), if_pos (by omega), e]
    rfl
  · rw [if_neg e]
    by_cases e2 : a + (m + 1) < i ∧ i ≤ a + p
    · rw [if_pos e2, if_pos (by omega)]
    · rw [if_neg e2, if_neg (by omega)]
theorem sb_front {u : KS} {p q : Nat} (hq : q ≤ 20) (hp : p < q) (c1 : sC u 1 = nI q) : fX8_bringToFront (nI p) u = some (wQA u (rtQ (sQ u) 0 p)) := by
  have hpI := qa_nI (n := p) (by omega)
  have hqI := qa_nI (n := q) (by omega)
  unfold fX8_bringToFront fX8_bringToFront_b0
  rw [c1, if_neg (by rw [qa_lt, qa_0]; omega), if_neg (by rw [qa_le]; omega), if_pos (by rw [qa_lt, hpI]; simp only [Int32.reduceToInt]; omega), qa_gi (by omega) (by omega), qa_ixn (by omega)]
  have h0 : (sQ u p, nI p, u) = (sQ u p, nI (p - 0), wQA u (mdQ (sQ u) 0 (p - 0) p)) := by
    rw [Nat.sub_zero, mdQ_0, wQA_id]
  rw [h0]
  refine qa_lop0 (fun j => (sQ u p, nI (p - j), wQA u (mdQ (sQ u) 0 (p - j) p))) p (by omega) (fun j hj k => ?_) (fun k => ?_)
  · show fX8_bringToFront_b30 k (sQ u p) (nI (p - j)) (wQA u (mdQ (sQ u) 0 (p - j) p)) = k (sQ u p, nI (p - (j + 1)), wQA u (mdQ (sQ u) 0 (p - (j + 1)) p))
    obtain ⟨m, hm⟩ : ∃ m, p - j = m + 1 := ⟨p - j - 1, by omega⟩
    have hI := qa_nI (n := m + 1) (by omega)
    have hI1 : (nI (m + 1) - 1).toInt = (m : Int) := by rw [nI_pred, qa_nI (by omega)]
    rw [show p - (j + 1) = m by omega, hm]
    unfold fX8_bringToFront_b30
    rw [if_neg (by rw [qa_le, qa_0]; omega), qa_gi (by omega) (by omega), qa_gi (by omega) (by omega), qa_ix hI, qa_ix hI1, pk_m1, wQ_QA]
    show k (_, _, wQA u (upd (mdQ (sQ u) 0 (m + 1) p) (m + 1) (mdQ (sQ u) 0 (m + 1) p m))) = _
    have := mdQ_s (sQ u) (a := 0) (m := m) (p := p) (by omega)
    rw [Nat.zero_add, Nat.zero_add] at this
    rw [this]
  · show fX8_bringToFront_b30 k (sQ u p) (nI (p - p)) (wQA u (mdQ (sQ u) 0 (p - p) p)) = _
    rw [Nat.sub_self]
    unfold fX8_bringToFront_b30
    rw [if_pos (by decide), wQ_QA]
    unfold rtQ
    rw [Nat.zero_add]
theorem rb_front {g : Nat → Int32} {x : Int32} {p : Nat} (hp : p < 20) (e : g (41 + p) = x) (hd : ∀ i, i < p → ¬ g (41 + i) = x) : fX10_moveToFront x g = some (nI p, rtQ g 41 p) := by
  have i41 : ∀ j, j < 30 → (41 + nI j).toInt = ((41 + j : Nat) : Int) := fun j hj => qx_41 (by omega)
  have i40 : ∀ j, j < 30 → (41 + nI (j + 1) - 1).toInt = ((41 + j : Nat) : Int) := fun j hj => qx_40 (by omega)
  unfold fX10_moveToFront fX10_moveToFront_b0
  rw [rb_placeOf hp e hd, qa_b]
  have h0 : (x, nI p, nI p, g) = (x, nI p, nI (p - 0), mdQ g 41 (p - 0) p) := by
    rw [Nat.sub_zero, mdQ_0]
  rw [h0]
  refine qa_lop0 (fun j => (x, nI p, nI (p - j), mdQ g 41 (p - j) p)) p (by omega) (fun j hj k => ?_) (fun k => ?_)
  · show fX10_moveToFront_b8 k x (nI p) (nI (p - j)) (mdQ g 41 (p - j) p) = k (x, nI p, nI (p - (j + 1)), mdQ g 41 (p - (j + 1)) p)
    obtain ⟨m, hm⟩ : ∃ m, p - j = m + 1 := ⟨p - j - 1, by omega⟩
    have hI := qa_nI (n := m + 1) (by omega)
    have a1 := i41 (m + 1) (by omega)
    have a2 := i40 m (by omega)
    rw [show p - (j + 1) = m by omega, hm]
    unfold fX10_moveToFront_b8
    rw [if_neg (by rw [qa_le, qa_0]; omega), qa_gi (by omega) (by omega), qa_gi (by omega) (by omega), qa_ix a1, qa_ix a2, pk_m1, mdQ_s g (by omega)]
  · show fX10_moveToFront_b8 k x (nI p) (nI (p - p)) (mdQ g 41 (p - p) p) = _
    rw [Nat.sub_self]
    unfold fX10_moveToFront_b8
    rw [if_pos (by decide)]
    unfold rtQ
    rw [e]
/-- which old place a place of the queue shows, when the one at p comes to the front -/
def rtI (p i : Nat) : Nat := if i = 0 then p else if i ≤ p then i - 1 else i
theorem rtQ_i (f : Nat → Int32) (a : Nat) {p i : Nat} : rtQ f a p (a + i) = f (a + rtI p i) := by
  unfold rtQ rtI
  by_cases e : i = 0
  · rw [if_pos e, e, Nat.add_zero, pk_us]
  · rw [if_neg e, pk_un (by omega)]
    unfold mdQ
    by_cases e2 : i ≤ p
    · rw [if_pos e2, if_pos (by omega), show a + i - 1 = a + (i - 1) by omega]
    · rw [if_neg e2, if_neg (by omega)]
theorem rtQ_o (f : Nat → Int32) {a p i : Nat} (h : i < a ∨ a + p < i) : rtQ f a p i = f i := by
  unfold rtQ
  rw [pk_un (by omega)]
  unfold mdQ
  rw [if_neg (by omega)]
/-- the same but for the queue -/
def eF4 (g g' : Nat → Int32) : Prop := ∀ i, i < 41 ∨ 61 ≤ i → g' i = g i
theorem eF4.C {g g' : Nat → Int32} (h : eF4 g g') : eC g' = eC g := funext fun c => funext fun k => h _ (by omega)
theorem wv_rel {u : KS} {g : Nat → Int32} {B : Int} (R : eRel u g) (I : eInv B g) {p : Nat} (hp : p < eQ g) : eRel (wQA u (rtQ (sQ u) 0 p)) (rtQ g 41 p) ∧ eInv B (rtQ g 41 p) ∧ eBg (rtQ g 41 p) = eBg g := by
  obtain ⟨RA, RB, RL, RH⟩ := R
  obtain ⟨S, G, Z⟩ := I
  have hn := G.1.n
  have hq := G.q
  obtain ⟨g', hg'⟩ : ∃ g', g' = rtQ g 41 p := ⟨_, rfl⟩
  have hi : ∀ i, g' (41 + i) = g (41 + rtI p i) := fun i => by rw [hg', rtQ_i]
  have F : eF4 g g' := fun i h => by rw [hg']; exact rtQ_o g (by omega)
  have hI1 : ∀ i, i < eQ g → rtI p i < eQ g := by
    intro i h
    unfold rtI
    split
    · omega
    · split <;> omega
  have hI2 : ∀ i j, i < j → rtI p i ≠ rtI p j := by
    intro i j h
    unfold rtI
    split
    · split
      · omega
      · split <;> omega
    · split
      · split
        · omega
        · split <;> omega
      · split
        · omega
        · split <;> omega
  have hI3 : ∀ i, i < eQ g → ∃ i', i' < eQ g ∧ rtI p i' = i := by
    intro i h
    by_cases e : i = p
    · exact ⟨0, by omega, by unfold rtI; rw [if_pos rfl, e]⟩
    · by_cases e2 : i < p
      · exact ⟨i + 1, by omega, by unfold rtI; rw [if_neg (by omega), if_pos (by omega)]; omega⟩
      · exact ⟨i, h, by unfold rtI; rw [if_neg (by omega), if_neg (by omega)]⟩
  rw [← hg']
  have hC := F.C
  have hK : eK g' = eK g ∨ True := Or.inr trivial
  have hN : eN g' = eN g := by unfold eN; rw [F 13 (by omega)]
  have hQ : eQ g' = eQ g := by unfold eQ; rw [F 14 (by omega)]
  have hO : ∀ c, c < eN g → ∀ k, k < 3 → eO g' c k = eO g c k := fun c hc k hk => eO_c (fun i h1 h2 => F i (by omega)) (by rw [hC]) (G.1.2.2 c hc) hk
  have hJ := fun (j : Nat) (hj : j < eN g) => eJ (g := g) (g' := g') (j := j) (fun k _ => by rw [hC]) (hO j hj 2 (by decide))
  have hLd : eLd g' = eLd g := by unfold eLd; rw [hN]; exact sI_congr fun j hj => (hJ j hj).1
  have hW : eW g' = eW g := by funext l; unfold eW; rw [hN]; exact sI_congr fun j hj => (hJ j hj).2.1 l
  have hL : eL g' = eL g := by funext l; unfold eL; rw [hN]; exact sI_congr fun j hj => (hJ j hj).2.2.1 l
  have hD : eD g' = eD g := by unfold eD; rw [hN]; exact sI_congr fun j hj => (hJ j hj).2.2.2.1
  have hM : eM g' = eM g := by funext l; unfold eM; rw [hN]; exact sI_congr fun j hj => (hJ j hj).2.2.2.2.1 l
  have hA : eAf g' = eAf g := by funext l b c; unfold eAf eAt; rw [hC]
  have hBg : eBg g' = eBg g := by unfold eBg; rw [hN]; exact sI_congr fun j hj => (hJ j hj).2.2.2.2.2.2
  have hT : eT g' = eT g := by funext t; unfold eT eTr eTp; rw [F 15 (by omega), F 16 (by omega), F 17 (by omega)]
  have hV : eV g' = eV g := by funext t; unfold eV; rw [hT, hLd, F 19 (by omega), F 20 (by omega)]
  refine ⟨⟨?_, ?_, ?_, ?_⟩, ⟨?_, ?_, ?_⟩, hBg⟩
  · obtain ⟨k0, k1, k2, k3, k4, k5⟩ := RA
    unfold eRA
    rw [hQ, hN, F 0 (by omega), F 1 (by omega), F 2 (by omega), F 3 (by omega), F 4 (by omega), F 5 (by omega), F 6 (by omega), F 7 (by omega), F 8 (by omega), F 9 (by omega), F 10 (by omega), F 11 (by omega), F 12 (by omega), F 13 (by omega), F 14 (by omega)]
    refine ⟨k0, fun i h => ?_, fun i h => ?_, fun i h => ?_, fun i h => ?_, fun i h h2 => ?_⟩
    · rw [F _ (by omega)]
      exact k1 i h
    · rw [F _ (by omega)]
      exact k2 i h
    · rw [hi]
      show rtQ (sQ u) 0 p i = _
      have := rtQ_i (sQ u) 0 (p := p) (i := i)
      rw [Nat.zero_add, Nat.zero_add] at this
      rw [this]
      exact k3 _ (hI1 i h)
    · rw [F _ (by omega)]
      exact k4 i h
    · rw [F _ (by omega)]
      exact k5 i h h2
  · unfold eRB
    rw [hD, hLd, hW, hL]
    exact RB
  · unfold eRL eAt
    rw [hM, hN, hC, hA]
    exact RL
  · unfold eRH eP eI
    rw [hV, F 0 (by omega), F 1 (by omega), F 18 (by omega)]
    exact RH
  · unfold eS
    rw [F 15 (by omega), F 16 (by omega), F 17 (by omega), F 18 (by omega), F 19 (by omega), F 20 (by omega), F 21 (by omega), F 22 (by omega), F 23 (by omega), F 24 (by omega), F 25 (by omega), F 26 (by omega), F 27 (by omega), F 28 (by omega)]
    refine ⟨S.1, fun d hd => ?_⟩
    have s2 := S.2 d hd
    unfold eK at s2 ⊢
    rw [F _ (by omega), F _ (by omega), F _ (by omega)]
    exact s2
  · obtain ⟨g1, g2, g3, g4, g5, g6, g7, g8⟩ := G
    unfold eG eH
    rw [hN, hC, hQ, hL, F 0 (by omega), F 4 (by omega), F 13 (by omega), F 14 (by omega), F 21 (by omega)]
    refine ⟨g1, g2, g3, g4, fun i h => ?_, fun i j h1 h2 => ?_, fun c hc h => ?_, g8⟩
    · rw [hi]
      exact g5 _ (hI1 i h)
    · rw [hi, hi]
      intro e
      rcases Nat.lt_or_gt_of_ne (hI2 i j h1) with h | h
      · exact g6 _ _ h (hI1 j h2) e
      · exact g6 _ _ h (hI1 i (by omega)) e.symm
    · obtain ⟨i, i1, i2⟩ := g7 c hc h
      obtain ⟨i', i3, i4⟩ := hI3 i i1
      exact ⟨i', i3, by rw [hi, i4]; exact i2⟩
  · unfold eZ
    rw [F 0 (by omega), F 1 (by omega), F 2 (by omega), F 3 (by omega), F 4 (by omega), F 5 (by omega), F 8 (by omega), F 12 (by omega)]
    exact Z
