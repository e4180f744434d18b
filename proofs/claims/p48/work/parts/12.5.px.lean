/-! p48, pure: what the law's count asks of a state, and that a tick keeps it -/
def eEf (g : Nat → Int32) (c : Nat) : Int32 := if 0 ≤ (eC g c 6).toInt then 1 else 0
def e3f (g : Nat → Int32) (c : Nat) : Int32 := if eC g c 2 = 3 then 1 else 0
def e0f (g : Nat → Int32) (c : Nat) : Int32 := if eC g c 2 = 0 then 1 else 0
def pCar (g : Nat → Int32) (c : Nat) : Prop :=
  ((eC g c 3).toInt < 0 ↔ (eC g c 5).toInt < 0) ∧ (0 ≤ (eC g c 6).toInt ↔ eC g c 2 = 2 ∨ eC g c 2 = 3) ∧ (0 ≤ (eC g c 6).toInt → (eC g c 5).toInt + 1 ≤ (eC g c 6).toInt)
def PX (g : Nat → Int32) : Prop := (∀ c, c < eN g → pCar g c) ∧ g 9 = sI (eEf g) (eN g) ∧ g 10 = sI (e3f g) (eN g) ∧ g 14 = sI (e0f g) (eN g) ∧ (g 2 = 1 ∨ g 3 = 0) ∧
  (g 4 = (-1) → (eLd g).toInt ≤ (g 22).toInt) ∧ (¬ g 4 = (-1) → (eLd g).toInt + (eC g (ix (g 4)) 1).toInt ≤ (g 22).toInt) ∧
  (0 ≤ (g 5).toInt ∧ (g 5).toInt ≤ (g 27).toInt) ∧ (0 ≤ (g 6).toInt ∧ (g 6).toInt ≤ (g 0).toInt)
theorem pc_c {g g' : Nat → Int32} {c : Nat} (h2 : eC g' c 2 = eC g c 2) (h3 : eC g' c 3 = eC g c 3) (h5 : eC g' c 5 = eC g c 5) (h6 : eC g' c 6 = eC g c 6) (P : pCar g c) : pCar g' c := by
  unfold pCar
  rw [h2, h3, h5, h6]
  exact P
theorem ef_c {g g' : Nat → Int32} {c : Nat} (h2 : eC g' c 2 = eC g c 2) (h6 : eC g' c 6 = eC g c 6) : eEf g' c = eEf g c ∧ e3f g' c = e3f g c ∧ e0f g' c = e0f g c := by
  unfold eEf e3f e0f
  rw [h2, h6]
  exact ⟨rfl, rfl, rfl⟩
/-- nothing of the cars moves -/
theorem PX.F2 {g g' : Nat → Int32} (F : eF2 g g') (G : eG g) (h4 : g' 4 = g 4) (h9 : g' 9 = g 9) (h10 : g' 10 = g 10) (hw : g' 2 = 1 ∨ g' 3 = 0) (h5 : 0 ≤ (g' 5).toInt ∧ (g' 5).toInt ≤ (g 27).toInt) (h6 : 0 ≤ (g' 6).toInt ∧ (g' 6).toInt ≤ (g' 0).toInt) (P : PX g) : PX g' := by
  have hn := G.1.n
  obtain ⟨s1, -⟩ := F.sums G.1
  obtain ⟨p1, p2, p3, p4, p5, p6, p7, p8, p9⟩ := P
  have hC : ∀ c k, c < eN g → k < 7 → eC g' c k = eC g c k := fun c k hc hk => F.C (by omega) hk
  refine ⟨fun c hc => ?_, ?_, ?_, ?_, hw, ?_, ?_, ?_, h6⟩
  · rw [F.N] at hc
    exact pc_c (hC c 2 hc (by omega)) (hC c 3 hc (by omega)) (hC c 5 hc (by omega)) (hC c 6 hc (by omega)) (p1 c hc)
  · rw [h9, F.N, p2]
    exact sI_congr fun j hj => (ef_c (hC j 2 hj (by omega)) (hC j 6 hj (by omega))).1.symm
  · rw [h10, F.N, p3]
    exact sI_congr fun j hj => (ef_c (hC j 2 hj (by omega)) (hC j 6 hj (by omega))).2.1.symm
  · rw [F 14 (by omega) (by omega), F.N, p4]
    exact sI_congr fun j hj => (ef_c (hC j 2 hj (by omega)) (hC j 6 hj (by omega))).2.2.symm
  · rw [h4, s1, F 22 (by omega) (by omega)]
    exact p6
  · rw [h4, s1, F 22 (by omega) (by omega)]
    intro q
    obtain ⟨x0, x1, x2⟩ := G.2.2.1.resolve_left q
    rw [hC _ 1 x1 (by omega)]
    exact p7 q
  · rw [F 27 (by omega) (by omega)]
    exact h5
theorem eF.to2 {g g' : Nat → Int32} (F : eF g g') : eF2 g g' := fun i h _ => F i h
/-- time -/
theorem PX.t0 {g : Nat → Int32} {B : Int} (I : eInv B g) (P : PX g) : PX (tk0 g) ∧ (tk0 g 6).toInt < (tk0 g 0).toInt := by
  have z0 := I.2.2.2.2.1
  have z1 := I.2.2.2.2.2.1
  have z2 := I.2.2.2.1
  have h0 : (tk0 g 0).toInt = (g 0).toInt + 1 := by
    show (upd g 0 (g 0 + 1) 0).toInt = _
    rw [pk_us, qa_add (by rw [qa_1]; omega) (by rw [qa_1]; omega), qa_1]
  have un : ∀ i, i ≠ 0 → tk0 g i = g i := fun i hi => pk_un hi
  have p9 := P.2.2.2.2.2.2.2.2
  refine ⟨PX.F2 (eF_upd g (by omega) _).to2 I.2.1 (un 4 (by omega)) (un 9 (by omega)) (un 10 (by omega)) ?_ ?_ ?_ P, ?_⟩
  · show tk0 g 2 = 1 ∨ tk0 g 3 = 0
    rw [un 2 (by omega), un 3 (by omega)]
    exact P.2.2.2.2.1
  · show 0 ≤ (tk0 g 5).toInt ∧ (tk0 g 5).toInt ≤ _
    rw [un 5 (by omega)]
    exact P.2.2.2.2.2.2.2.1
  · show 0 ≤ (tk0 g 6).toInt ∧ (tk0 g 6).toInt ≤ (tk0 g 0).toInt
    rw [un 6 (by omega), h0]
    omega
  · rw [un 6 (by omega), h0]
    omega
/-- the winch -/
theorem PX.wn {g : Nat → Int32} (G : eG g) (hw : g 2 = 0 ∨ g 2 = 1 ∨ g 2 = 2) (P : PX g) : PX (wnG g) := by
  refine PX.F2 (wnG_F g).to2 G (wnG_fr g (by omega) (by omega) (by omega)) (wnG_fr g (by omega) (by omega) (by omega)) (wnG_fr g (by omega) (by omega) (by omega)) ?_ ?_ ?_ P
  · by_cases h : wnP g
    · obtain ⟨-, -, q⟩ := wn_yes h
      refine Or.inr (q.elim id fun ⟨q1, q2⟩ => ?_)
      rw [q2]
      exact P.2.2.2.2.1.resolve_left (by rw [q1]; decide)
    · rcases (wn_no hw h).2 with ⟨-, q, -⟩ | ⟨-, -, q, -⟩ | ⟨q0, -, -, q⟩
      · exact Or.inl q
      · exact Or.inl q
      · rw [q]
        exact Or.inr (P.2.2.2.2.1.resolve_left (by rw [q0]; decide))
  · rw [wnG_fr g (by omega) (by omega) (by omega)]
    exact P.2.2.2.2.2.2.2.1
  · rw [wnG_fr g (by omega) (by omega) (by omega), wnG_fr g (by omega) (by omega) (by omega)]
    exact P.2.2.2.2.2.2.2.2
/-- the row behind a car's coming on deck -/
theorem bdG_C (g : Nat → Int32) {j k : Nat} (hj : j < 60) (hk : k < 7) : eC (bdG g) j k = if j = ix (g 4) ∧ k = 2 then 2 else if j = ix (g 4) ∧ k = 6 then g 0 else eC g j k := by
  unfold bdG eC
  rw [pk_un (by omega), pk_un (by omega), pk_un (by omega)]
  by_cases h6 : j = ix (g 4) ∧ k = 6
  · rw [if_neg (by omega), if_pos h6, h6.1, h6.2, pk_us]
  · rw [pk_un (by omega), if_neg h6]
    by_cases h2 : j = ix (g 4) ∧ k = 2
    · rw [if_pos h2, h2.1, h2.2, pk_us]
    · rw [pk_un (by omega), if_neg h2]
theorem bdG_fr (g : Nat → Int32) {i : Nat} (hi : i < 61) (h4 : i ≠ 4) (h5 : i ≠ 5) (h9 : i ≠ 9) : bdG g i = g i := by
  unfold bdG
  rw [pk_un h9, pk_un h5, pk_un h4, pk_un (by omega), pk_un (by omega)]
theorem bdG_v (g : Nat → Int32) : bdG g 4 = (-1) ∧ bdG g 5 = 0 ∧ bdG g 9 = g 9 + 1 := by
  unfold bdG
  exact ⟨(pk_un (by omega)).trans ((pk_un (by omega)).trans pk_us), (pk_un (by omega)).trans pk_us, pk_us⟩
theorem PX.bd {g : Nat → Int32} (S : eS g) (G : eG g) (T : eU g) (h4 : ¬ g 4 = (-1)) (h6 : 0 ≤ (g 6).toInt ∧ (g 6).toInt ≤ (g 0).toInt) (P : PX g) : PX (bdG g) := by
  have hn := G.1.n
  obtain ⟨x0, x1, x2⟩ := G.2.2.1.resolve_left h4
  obtain ⟨c, hc⟩ : ∃ c, c = ix (g 4) := ⟨_, rfl⟩
  rw [← hc] at x1 x2
  have hN : eN (bdG g) = eN g := by
    unfold eN
    rw [bdG_fr g (by omega) (by omega) (by omega) (by omega)]
  have C : ∀ j k, j < eN g → k < 7 → eC (bdG g) j k = if j = c ∧ k = 2 then 2 else if j = c ∧ k = 6 then g 0 else eC g j k := by
    intro j k hj hk
    rw [bdG_C g (by omega) hk, ← hc]
  have Co : ∀ j k, j < eN g → j ≠ c → k < 7 → eC (bdG g) j k = eC g j k := by
    intro j k hj hjc hk
    rw [C j k hj hk, if_neg (by omega), if_neg (by omega)]
  have c2 : eC (bdG g) c 2 = 2 := by rw [C c 2 x1 (by omega), if_pos ⟨rfl, rfl⟩]
  have c6 : eC (bdG g) c 6 = g 0 := by rw [C c 6 x1 (by omega), if_neg (by omega), if_pos ⟨rfl, rfl⟩]
  have c1 : eC (bdG g) c 1 = eC g c 1 := by rw [C c 1 x1 (by omega), if_neg (by omega), if_neg (by omega)]
  have c3 : eC (bdG g) c 3 = eC g c 3 := by rw [C c 3 x1 (by omega), if_neg (by omega), if_neg (by omega)]
  have c5 : eC (bdG g) c 5 = eC g c 5 := by rw [C c 5 x1 (by omega), if_neg (by omega), if_neg (by omega)]
  obtain ⟨p1, p2, p3, p4, p5, p6, p7, p8, p9⟩ := P
  have hT := T c x1
  have g5 := (G.2.1 c x1).2.2.2.1 (Or.inl x2)
  have pc := p1 c x1
  have e6 : ¬ 0 ≤ (eC g c 6).toInt := fun q => by
    have := pc.2.1.mp q
    rw [x2] at this
    revert this
    decide
  obtain ⟨v4, v5, v9⟩ := bdG_v g
  have hLd : eLd (bdG g) = eLd g + eC g c 1 := by
    unfold eLd
    have hup := sI_up (f := eWd g) (f' := eWd (bdG g)) x1 (fun j hj hjc => by unfold eWd; rw [Co j 2 hj hjc (by omega), Co j 1 hj hjc (by omega)]) (by unfold eWd; rw [x2, if_neg (by decide)])
    rw [hN, hup]
    congr 1
    unfold eWd
    rw [c2, if_pos rfl, c1]
  have w1 := G.2.1 c x1
  have b22 := S.1.2.2.2.2.2.2.2.2.2.2.2.2.2.1
  have hb : 0 ≤ (eLd g).toInt ∧ (eLd g).toInt ≤ 999 * (eN g : Int) := sI_bnd (by omega) fun j hj => by
    unfold eWd
    split
    · have := G.2.1 j hj
      omega
    · rw [qa_0]
      omega
  refine ⟨fun j hj => ?_, ?_, ?_, ?_, ?_, fun _ => ?_, fun q => absurd v4 q, ?_, ?_⟩
  · rw [hN] at hj
    by_cases hjc : j = c
    · subst hjc
      unfold pCar
      rw [c2, c3, c5, c6]
      refine ⟨pc.1, ⟨fun _ => Or.inl rfl, fun _ => by omega⟩, fun _ => by omega⟩
    · exact pc_c (Co j 2 hj hjc (by omega)) (Co j 3 hj hjc (by omega)) (Co j 5 hj hjc (by omega)) (Co j 6 hj hjc (by omega)) (p1 j hj)
  · rw [v9, hN, sI_up (f := eEf g) x1 (fun j hj hjc => (ef_c (Co j 2 hj hjc (by omega)) (Co j 6 hj hjc (by omega))).1) (by unfold eEf; rw [if_neg e6]), p2]
    congr 1
    unfold eEf
    rw [c6, if_pos (by omega)]
  · rw [bdG_fr g (by omega) (by omega) (by omega) (by omega), hN, p3]
    exact (sI_same x1 (fun j hj hjc => (ef_c (Co j 2 hj hjc (by omega)) (Co j 6 hj hjc (by omega))).2.1) (by unfold e3f; rw [c2, x2, if_neg (by decide), if_neg (by decide)])).symm
  · rw [bdG_fr g (by omega) (by omega) (by omega) (by omega), hN, p4]
    exact (sI_same x1 (fun j hj hjc => (ef_c (Co j 2 hj hjc (by omega)) (Co j 6 hj hjc (by omega))).2.2) (by unfold e0f; rw [c2, x2, if_neg (by decide), if_neg (by decide)])).symm
  · rw [bdG_fr g (by omega) (by omega) (by omega) (by omega), bdG_fr g (by omega) (by omega) (by omega) (by omega)]
    exact p5
  · have p7 := p7 h4
    rw [← hc] at p7
    rw [hLd, bdG_fr g (by omega) (by omega) (by omega) (by omega), qa_add (by omega) (by omega)]
    exact p7
  · rw [v5, qa_0, bdG_fr g (by omega) (by omega) (by omega) (by omega)]
    have := S.1.2.2.2.2.2.2.2.2.2.2.2.2.2.2.2.2.2.2.2.2.2.2.2.1
    omega
  · rw [bdG_fr g (by omega) (by omega) (by omega) (by omega), bdG_fr g (by omega) (by omega) (by omega) (by omega)]
    exact h6
theorem drX_fr (g : Nat → Int32) {i : Nat} (h5 : i ≠ 5) (h11 : i ≠ 11) : drX g i = g i := (pk_un h11).trans (pk_un h5)
theorem drX_F (g : Nat → Int32) : eF g (drX g) := fun i hi => drX_fr g (by omega) (by omega)
theorem drX_5 (g : Nat → Int32) : drX g 5 = g 5 + 1 := (pk_un (by omega)).trans pk_us
/-- the car on the ramp -/
theorem PX.dr {g : Nat → Int32} {B : Int} (I : eInv B g) (T : eU g) (h4 : ¬ g 4 = (-1)) (h6 : (g 6).toInt < (g 0).toInt) (P : PX g) : PX (drG g) := by
  obtain ⟨S, G, Z⟩ := I
  have z2 := Z.2.1
  have z1 := Z.2.2.2.1
  have p8 := P.2.2.2.2.2.2.2.1
  have p9 := P.2.2.2.2.2.2.2.2
  have s27 := S.1.2.2.2.2.2.2.2.2.2.2.2.2.2.2.2.2.2.2.2.2.2.2.2
  have wait : PX (upd g 6 (g 6 + 1)) := by
    refine PX.F2 (eF_upd g (by omega) _).to2 G (pk_un (by omega)) (pk_un (by omega)) (pk_un (by omega)) ?_ ?_ ?_ P
    · rw [pk_un (by omega), pk_un (by omega)]
      exact P.2.2.2.2.1
    · rw [pk_un (by omega)]
      exact p8
    · rw [pk_us, pk_un (by omega), qa_add (by rw [qa_1]; omega) (by rw [qa_1]; omega), qa_1]
      omega
  unfold drG
  by_cases a1 : eO g (ix (g 4)) 0 < eP g
  · rw [if_pos a1]
    exact wait
  · rw [if_neg a1]
    by_cases a2 : eI g ≤ eO g (ix (g 4)) 1
    · rw [if_pos a2]
      have h5' : (g 5 + 1).toInt = (g 5).toInt + 1 := by rw [qa_add (by rw [qa_1]; omega) (by rw [qa_1]; omega), qa_1]
      by_cases a3 : g 5 + 1 < g 27
      · rw [if_pos a3]
        rw [qa_lt, h5'] at a3
        refine PX.F2 (drX_F g).to2 G (drX_fr g (by omega) (by omega)) (drX_fr g (by omega) (by omega)) (drX_fr g (by omega) (by omega)) ?_ ?_ ?_ P
        · rw [drX_fr g (by omega) (by omega), drX_fr g (by omega) (by omega)]
          exact P.2.2.2.2.1
        · rw [drX_5, h5']
          omega
        · rw [drX_fr g (by omega) (by omega), drX_fr g (by omega) (by omega)]
          exact p9
      · rw [if_neg a3]
        have F := drX_F g
        have F2 : eF g (upd (drX g) 5 0) := fun i hi => (pk_un (by omega)).trans (F i hi)
        have hq : PX (upd (drX g) 5 0) := by
          refine PX.F2 F2.to2 G ((pk_un (by omega)).trans (drX_fr g (by omega) (by omega))) ((pk_un (by omega)).trans (drX_fr g (by omega) (by omega))) ((pk_un (by omega)).trans (drX_fr g (by omega) (by omega))) ?_ ?_ ?_ P
          · rw [pk_un (by omega), pk_un (by omega), drX_fr g (by omega) (by omega), drX_fr g (by omega) (by omega)]
            exact P.2.2.2.2.1
          · rw [pk_us, qa_0]
            omega
          · rw [pk_un (by omega), pk_un (by omega), drX_fr g (by omega) (by omega), drX_fr g (by omega) (by omega)]
            exact p9
        have e4 : upd (drX g) 5 0 4 = g 4 := (pk_un (by omega)).trans (drX_fr g (by omega) (by omega))
        have e0 : upd (drX g) 5 0 0 = g 0 := (pk_un (by omega)).trans (drX_fr g (by omega) (by omega))
        have e6 : upd (drX g) 5 0 6 = g 6 := (pk_un (by omega)).trans (drX_fr g (by omega) (by omega))
        have hb := PX.bd (F2.S S) (F2.G e4 (by rw [e0]; exact Int.le_refl _) G) (F2.U e0 T) (by rw [e4]; exact h4) (by rw [e6, e0]; exact p9) hq
        have e : bdG (upd (drX g) 5 0) = bdG (drX g) := by
          have d4 : drX g 4 = g 4 := drX_fr g (by omega) (by omega)
          have d0 : drX g 0 = g 0 := drX_fr g (by omega) (by omega)
          unfold bdG
          rw [e4, e0, d4, d0, pk_un (show (9 : Nat) ≠ 5 by omega)]
          funext i
          by_cases i9 : i = 9
          · subst i9
            rw [pk_us, pk_us]
          · rw [pk_un i9, pk_un i9]
            by_cases i5 : i = 5
            · subst i5
              rw [pk_us, pk_us]
            · rw [pk_un i5, pk_un i5]
              simp only [upd, if_neg i5]
        rw [← e]
        exact hb
    · rw [if_neg a2]
      exact wait
/-- the row behind a car's beginning -/
theorem bgG_C (g : Nat → Int32) {p q c : Nat} (hq : q ≤ 20) (hp : p < q) (l : Int32) {j k : Nat} (hj : j < 60) (hk : k < 7) : eC (bgG g p q c l) j k = if j = c ∧ k = 2 then 1 else if j = c ∧ k = 3 then l else if j = c ∧ k = 5 then g 0 else eC g j k := by
  unfold bgG eC
  rw [pk_un (by omega), pk_un (by omega), pk_un (by omega)]
  by_cases h5 : j = c ∧ k = 5
  · rw [if_neg (by omega), if_neg (by omega), if_pos h5, h5.1, h5.2, pk_us]
  · rw [pk_un (by omega), if_neg h5]
    by_cases h3 : j = c ∧ k = 3
    · rw [if_neg (by omega), if_pos h3, h3.1, h3.2, pk_us]
    · rw [pk_un (by omega), if_neg h3]
      by_cases h2 : j = c ∧ k = 2
      · rw [if_pos h2, h2.1, h2.2, pk_us]
      · rw [pk_un (by omega), if_neg h2]
        exact lvG_oth g (by omega) (by omega) hq hp
theorem bgG_fr (g : Nat → Int32) {p q c : Nat} (hq : q ≤ 20) (hp : p < q) (l : Int32) {i : Nat} (hi : i < 41) (h4 : i ≠ 4) (h5 : i ≠ 5) (h7 : i ≠ 7) (h14 : i ≠ 14) : bgG g p q c l i = g i := by
  unfold bgG
  rw [pk_un h7, pk_un h5, pk_un h4, pk_un (by omega), pk_un (by omega), pk_un (by omega)]
  exact lvG_oth g (by omega) h14 hq hp
theorem bgG_v (g : Nat → Int32) {p q c : Nat} (hq : q ≤ 20) (hp : p < q) (l : Int32) : bgG g p q c l 4 = nI c ∧ bgG g p q c l 5 = 0 ∧ bgG g p q c l 7 = 0 ∧ bgG g p q c l 14 = nI (q - 1) := by
  unfold bgG
  refine ⟨(pk_un (by omega)).trans ((pk_un (by omega)).trans pk_us), (pk_un (by omega)).trans pk_us, pk_us, ?_⟩
  rw [pk_un (by omega), pk_un (by omega), pk_un (by omega), pk_un (by omega), pk_un (by omega), pk_un (by omega)]
  exact lvG_14 g hq hp
theorem ld_b {g : Nat → Int32} (G : eG g) : 0 ≤ (eLd g).toInt ∧ (eLd g).toInt ≤ 999 * (eN g : Int) := by
  have hn := G.1.n
  exact sI_bnd (by omega) fun j hj => by
    unfold eWd
    split
    · have := G.2.1 j hj
      omega
    · rw [qa_0]
      omega
theorem PX.bg0 {g : Nat → Int32} (S : eS g) (G : eG g) (z0 : 0 ≤ (g 0).toInt) (h4 : g 4 = (-1)) {p c l : Nat} (hp : p < eQ g) (hc : c < eN g) (e : g (41 + p) = nI c) (hl : l < 3) (hw : eLd g + eC g c 1 ≤ g 22) (P : PX g) : PX (bgG g p (eQ g) c (nI l)) := by
  have hn := G.1.n
  have hq := G.q
  have hq20 : eQ g ≤ 20 := by omega
  have x1 := hc
  have x2 : eC g c 2 = 0 := by
    have := (G.2.2.2.2.1 p hp).2.2
    rw [e, qa_ixn (by omega)] at this
    exact this
  have F0 : ∀ {i : Nat}, i < 41 → i ≠ 4 → i ≠ 5 → i ≠ 7 → i ≠ 14 → bgG g p (eQ g) c (nI l) i = g i := fun h1 h2 h3 h4 h5 => bgG_fr g hq20 hp (nI l) h1 h2 h3 h4 h5
  obtain ⟨v4, v5, v7, v14⟩ := bgG_v g (c := c) hq20 hp (nI l)
  have hN : eN (bgG g p (eQ g) c (nI l)) = eN g := by
    unfold eN
    rw [F0 (by omega) (by omega) (by omega) (by omega) (by omega)]
  have C : ∀ j k, j < eN g → k < 7 → eC (bgG g p (eQ g) c (nI l)) j k = if j = c ∧ k = 2 then 1 else if j = c ∧ k = 3 then nI l else if j = c ∧ k = 5 then g 0 else eC g j k := fun j k hj hk => bgG_C g hq20 hp (nI l) (by omega) hk
  have Co : ∀ j k, j < eN g → j ≠ c → k < 7 → eC (bgG g p (eQ g) c (nI l)) j k = eC g j k := by
    intro j k hj hjc hk
    rw [C j k hj hk, if_neg (by omega), if_neg (by omega), if_neg (by omega)]
  have c2 : eC (bgG g p (eQ g) c (nI l)) c 2 = 1 := by rw [C c 2 x1 (by omega), if_pos ⟨rfl, rfl⟩]
  have c3 : eC (bgG g p (eQ g) c (nI l)) c 3 = nI l := by rw [C c 3 x1 (by omega), if_neg (by omega), if_pos ⟨rfl, rfl⟩]
  have c5 : eC (bgG g p (eQ g) c (nI l)) c 5 = g 0 := by rw [C c 5 x1 (by omega), if_neg (by omega), if_neg (by omega), if_pos ⟨rfl, rfl⟩]
  have c6 : eC (bgG g p (eQ g) c (nI l)) c 6 = eC g c 6 := by rw [C c 6 x1 (by omega), if_neg (by omega), if_neg (by omega), if_neg (by omega)]
  have c1 : eC (bgG g p (eQ g) c (nI l)) c 1 = eC g c 1 := by rw [C c 1 x1 (by omega), if_neg (by omega), if_neg (by omega), if_neg (by omega)]
  obtain ⟨p1, p2, p3, p4, p5, p6, p7, p8, p9⟩ := P
  have pc := p1 c x1
  have e6 : ¬ 0 ≤ (eC g c 6).toInt := fun q => by
    have := pc.2.1.mp q
    rw [x2] at this
    revert this
    decide
  have hLd : eLd (bgG g p (eQ g) c (nI l)) = eLd g := by
    unfold eLd
    rw [hN]
    refine sI_same x1 (fun j hj hjc => ?_) ?_
    · unfold eWd
      rw [Co j 2 hj hjc (by omega), Co j 1 hj hjc (by omega)]
    · unfold eWd
      rw [c2, x2, if_neg (by decide), if_neg (by decide)]
  have w1 := G.2.1 c x1
  have hb := ld_b G
  have hl3 : (nI l).toInt = (l : Int) := qa_nI (by omega)
  refine ⟨fun j hj => ?_, ?_, ?_, ?_, ?_, fun q => ?_, fun _ => ?_, ?_, ?_⟩
  · rw [hN] at hj
    by_cases hjc : j = c
    · subst hjc
      unfold pCar
      rw [c2, c3, c5, c6]
      refine ⟨⟨fun q => by omega, fun q => by omega⟩, ⟨fun q => absurd q e6, fun q => ?_⟩, fun q => absurd q e6⟩
      exact absurd q (by decide)
    · exact pc_c (Co j 2 hj hjc (by omega)) (Co j 3 hj hjc (by omega)) (Co j 5 hj hjc (by omega)) (Co j 6 hj hjc (by omega)) (p1 j hj)
  · rw [F0 (by omega) (by omega) (by omega) (by omega) (by omega), hN, p2]
    exact (sI_same x1 (fun j hj hjc => (ef_c (Co j 2 hj hjc (by omega)) (Co j 6 hj hjc (by omega))).1) (by unfold eEf; rw [c6])).symm
  · rw [F0 (by omega) (by omega) (by omega) (by omega) (by omega), hN, p3]
    exact (sI_same x1 (fun j hj hjc => (ef_c (Co j 2 hj hjc (by omega)) (Co j 6 hj hjc (by omega))).2.1) (by unfold e3f; rw [c2, x2, if_neg (by decide), if_neg (by decide)])).symm
  · rw [v14, hN, sI_dn (f := e0f g) x1 (fun j hj hjc => (ef_c (Co j 2 hj hjc (by omega)) (Co j 6 hj hjc (by omega))).2.2) (by unfold e0f; rw [c2, if_neg (by decide)]), ← p4]
    have e0 : e0f g c = 1 := by unfold e0f; rw [x2, if_pos rfl]
    rw [e0, ← qa_nIx (i := g 14) (by omega)]
    show nI (eQ g - 1) = nI (eQ g) - nI 1
    exact (pk_sub (by omega)).symm
  · rw [F0 (by omega) (by omega) (by omega) (by omega) (by omega), F0 (by omega) (by omega) (by omega) (by omega) (by omega)]
    exact p5
  · rw [v4] at q
    have q := congrArg Int32.toInt q
    rw [qa_nI (by omega), qa_m1] at q
    omega
  · rw [v4, qa_ixn (by omega), hLd, c1, F0 (by omega) (by omega) (by omega) (by omega) (by omega)]
    rw [qa_le, qa_add (by omega) (by omega)] at hw
    exact hw
  · rw [v5, qa_0, F0 (by omega) (by omega) (by omega) (by omega) (by omega)]
    have := S.1.2.2.2.2.2.2.2.2.2.2.2.2.2.2.2.2.2.2.2.2.2.2.2.1
    omega
  · rw [F0 (by omega) (by omega) (by omega) (by omega) (by omega), F0 (by omega) (by omega) (by omega) (by omega) (by omega)]
    exact p9
theorem PX.bg {g : Nat → Int32} (S : eS g) (G : eG g) {B : Int} (Z : eZ B g) (h4 : g 4 = (-1)) {p c l : Nat} (hp : p < eQ g) (hc : c < eN g) (e : g (41 + p) = nI c) (hl : l < 3) (hw : eLd g + eC g c 1 ≤ g 22) (P : PX g) : PX (bgG g p (eQ g) c (nI l)) := PX.bg0 S G Z.2.2.1 h4 hp hc e hl hw P
theorem eY_w {g : Nat → Int32} {c : Nat} (h : eY g c = 0) : eLd g + eC g c 1 ≤ g 22 := by
  unfold eY at h
  by_cases a1 : g 12 = 0
  · rw [if_pos a1] at h
    exact absurd h (by decide)
  rw [if_neg a1] at h
  by_cases a2 : g 4 = (-1)
  · rw [if_pos a2] at h
    by_cases a3 : eFs g (eO g c 2)
    · rw [if_pos a3] at h
      by_cases a4 : eLd g + eC g c 1 ≤ g 22
      · exact a4
      · rw [if_neg a4] at h
        exact absurd h (by decide)
    · rw [if_neg a3] at h
      exact absurd h (by decide)
  · rw [if_neg a2] at h
    exact absurd h (by decide)
/-- the queue's step -/
theorem PX.ad {g g' : Nat → Int32} {B : Int} (I : eInv B g) (hA : tkA g g') (P : PX g) : PX g' := by
  obtain ⟨S, G, Z⟩ := I
  rcases hA with ⟨e, -⟩ | ⟨h4, c, l, q0, hc, e, l3, hl, y0, e'⟩ | ⟨h4, q0, y0, y1, w, e'⟩ | ⟨h4, q0, y0, y1, w, s, s1, s3, hx⟩
  · rw [e]
    exact P
  · rw [e']
    exact PX.bg S G Z h4 q0 hc e l3 (eY_w y0) P
  · rw [e']
    refine PX.F2 (eF_upd g (by omega) _).to2 G (pk_un (by omega)) (pk_un (by omega)) (pk_un (by omega)) ?_ ?_ ?_ P
    · rw [pk_un (by omega), pk_un (by omega)]
      exact P.2.2.2.2.1
    · rw [pk_un (by omega)]
      exact P.2.2.2.2.2.2.2.1
    · rw [pk_un (by omega), pk_un (by omega)]
      exact P.2.2.2.2.2.2.2.2
  · have K : ∀ x3, eF2 g (kcG (upd g 7 (g 7 + 1)) s (g 41) (eY g (ix (g 41))) x3) := fun x3 i h1 h2 => ((kcG_F _ s1 (g 41) (eY g (ix (g 41))) x3) i h1 h2).trans (pk_un (by omega))
    have kf : ∀ x3 {i : Nat}, i < 481 → i ≠ 7 → i ≠ 8 → kcG (upd g 7 (g 7 + 1)) s (g 41) (eY g (ix (g 41))) x3 i = g i := fun x3 i h1 h2 h3 => (kcG_fr _ s1 _ _ _ h1 h2 h3).trans (pk_un h2)
    have PK : ∀ x3, PX (kcG (upd g 7 (g 7 + 1)) s (g 41) (eY g (ix (g 41))) x3) := by
      intro x3
      refine PX.F2 (K x3) G (kf x3 (by omega) (by omega) (by omega)) (kf x3 (by omega) (by omega) (by omega)) (kf x3 (by omega) (by omega) (by omega)) ?_ ?_ ?_ P
      · rw [kf x3 (by omega) (by omega) (by omega), kf x3 (by omega) (by omega) (by omega)]
        exact P.2.2.2.2.1
      · rw [kf x3 (by omega) (by omega) (by omega)]
        exact P.2.2.2.2.2.2.2.1
      · rw [kf x3 (by omega) (by omega) (by omega), kf x3 (by omega) (by omega) (by omega)]
        exact P.2.2.2.2.2.2.2.2
    rcases hx with e' | ⟨p, c, l, p1, p2, hc, e, l3, hl, y9, e'⟩
    · rw [e']
      exact PK _
    · rw [e']
      have hn := G.1.n
      have Gk : eG (kcG (upd g 7 (g 7 + 1)) s (g 41) (eY g (ix (g 41))) (nI c)) := (K (nI c)).G (kf _ (by omega) (by omega) (by omega)) (by rw [kf _ (by omega) (by omega) (by omega)]; exact Int.le_refl _) G
      have hq := G.q
      have hQ := (K (nI c)).Q
      have hN := (K (nI c)).N
      obtain ⟨hs, -⟩ := (K (nI c)).sums G.1
      have hb := PX.bg0 ((K (nI c)).S S) Gk (by rw [kf _ (by omega) (by omega) (by omega)]; exact Z.2.2.1) (by rw [kf _ (by omega) (by omega) (by omega)]; exact h4) (p := p) (c := c) (l := l) (by rw [hQ]; exact p2) (by rw [hN]; exact hc) ((K (nI c) (41 + p) (by omega) (by omega)).trans e) l3 (by rw [hs, (K (nI c)).C (by omega) (by omega), K (nI c) 22 (by omega) (by omega)]; exact eY_w y9) (PK _)
      rw [hQ] at hb
      exact hb
/-- a whole tick -/
theorem PX.tk {u : KS} {g : Nat → Int32} {B : Int} (R : eRel u g) (I : eInv B g) (hB : B + 2 ≤ 100000000) (P : PX g) : PX (tkG g) := by
  obtain ⟨hA, ⟨u2, R2, I2, T2⟩, ⟨u3, R3, I3, T3⟩⟩ := tk_dec R I hB
  obtain ⟨P0, h6⟩ := PX.t0 I P
  obtain ⟨u1, a1, a2, a3, a4⟩ := tk_time R I (by omega)
  have P1 : PX (tk1 g) := PX.wn a3.2.1 a3.2.2.2.2.2.2.2.2.1 P0
  refine PX.ad I3 hA ?_
  unfold tk2
  by_cases e4 : tk1 g 4 = (-1)
  · rw [if_pos e4]
    exact P1
  · rw [if_neg e4]
    refine PX.dr I2 T2 e4 ?_ P1
    show (wnG (tk0 g) 6).toInt < (wnG (tk0 g) 0).toInt
    rw [wnG_fr _ (by omega) (by omega) (by omega), wnG_fr _ (by omega) (by omega) (by omega)]
    exact h6
theorem PX.it {g : Nat → Int32} : ∀ (n : Nat) {u : KS} {B : Int}, eRel u g → eInv B g → B + 2 * n ≤ 100000000 → PX g → (∃ u', eRel u' (itG n g)) ∧ eInv (B + 2 * n) (itG n g) ∧ PX (itG n g)
  | 0, u, B, R, I, _, P => ⟨⟨u, R⟩, I.z, P⟩
  | n + 1, u, B, R, I, hB, P => by
    obtain ⟨⟨v, Rv⟩, Iv, Pv⟩ := PX.it n R I (by omega) P
    obtain ⟨u1, u2, u3, u', -, -, -, -, r1, r2⟩ := tk_one Rv Iv (by omega)
    rw [itG_s]
    refine ⟨⟨u', r1⟩, ?_, PX.tk Rv Iv (by omega) Pv⟩
    have : B + 2 * ((n + 1 : Nat) : Int) = B + 2 * (n : Int) + 2 := by omega
    rw [this]
    exact r2
