/-! p48, pure: the acts keep what the law's count asks -/
theorem PX.wv {g : Nat → Int32} (G : eG g) {p : Nat} (hp : p < eQ g) (P : PX g) : PX (rtQ g 41 p) := by
  have hq := G.q
  have F : ∀ i, i < 41 ∨ 61 ≤ i → rtQ g 41 p i = g i := fun i hi => rtQ_o g (by omega)
  have eCe : eC (rtQ g 41 p) = eC g := funext fun c => funext fun k => F _ (Or.inr (by omega))
  have hN : eN (rtQ g 41 p) = eN g := by
    unfold eN
    rw [F 13 (by omega)]
  have e1 : eEf (rtQ g 41 p) = eEf g := funext fun c => by
    unfold eEf
    rw [eCe]
  have e2 : e3f (rtQ g 41 p) = e3f g := funext fun c => by
    unfold e3f
    rw [eCe]
  have e3 : e0f (rtQ g 41 p) = e0f g := funext fun c => by
    unfold e0f
    rw [eCe]
  have e4 : eLd (rtQ g 41 p) = eLd g := by
    have e5 : eWd (rtQ g 41 p) = eWd g := funext fun c => by
      unfold eWd
      rw [eCe]
    unfold eLd
    rw [e5, hN]
  unfold PX
  rw [hN, e1, e2, e3, e4, eCe, F 9 (by omega), F 10 (by omega), F 14 (by omega), F 2 (by omega), F 3 (by omega), F 4 (by omega), F 22 (by omega), F 5 (by omega), F 27 (by omega), F 6 (by omega), F 0 (by omega)]
  refine ⟨fun c hc => ?_, P.2⟩
  have := P.1 c hc
  unfold pCar at this ⊢
  rw [eCe]
  exact this
theorem PX.cr {g : Nat → Int32} (G : eG g) (x : Int32) (P : PX g) : PX (upd g 1 x) := by
  refine PX.F2 (eF_upd g (by omega) _).to2 G (pk_un (by omega)) (pk_un (by omega)) (pk_un (by omega)) ?_ ?_ ?_ P
  · rw [pk_un (by omega), pk_un (by omega)]
    exact P.2.2.2.2.1
  · rw [pk_un (by omega)]
    exact P.2.2.2.2.2.2.2.1
  · rw [pk_un (by omega), pk_un (by omega)]
    exact P.2.2.2.2.2.2.2.2
theorem PX.ar {g : Nat → Int32} (G : eG g) (hn : eN g < 60) (hq : eQ g < 20) (k w : Int32) (P : PX g) : PX (adG g (eN g) (eQ g) k w) := by
  have hn13 := G.1.n
  have hq14 := G.q
  have F : ∀ i, i < 41 → i ≠ 13 → i ≠ 14 → adG g (eN g) (eQ g) k w i = g i := by
    intro i h1 h2 h3
    unfold adG
    rw [pk_un h3, pk_un (by omega), pk_un (by omega), pk_un (by omega), pk_un (by omega), pk_un (by omega), pk_un (by omega), pk_un (by omega), pk_un (by omega), pk_un h2]
  have hN : eN (adG g (eN g) (eQ g) k w) = eN g + 1 := by
    unfold eN
    have : adG g (ix (g 13)) (eQ g) k w 13 = nI (ix (g 13) + 1) := by
      unfold adG
      rw [pk_un (by omega), pk_un (by omega), pk_un (by omega), pk_un (by omega), pk_un (by omega), pk_un (by omega), pk_un (by omega), pk_un (by omega), pk_un (by omega), pk_us]
    rw [this, qa_ixn]
    have : ix (g 13) = eN g := rfl
    omega
  have C : ∀ j i, j < eN g → i < 7 → eC (adG g (eN g) (eQ g) k w) j i = eC g j i := by
    intro j i hj hi
    unfold adG eC
    rw [pk_un (by omega), pk_un (by omega), pk_un (by omega), pk_un (by omega), pk_un (by omega), pk_un (by omega), pk_un (by omega), pk_un (by omega), pk_un (by omega), pk_un (by omega)]
  have n2 : eC (adG g (eN g) (eQ g) k w) (eN g) 2 = 0 := by
    unfold adG eC
    rw [pk_un (by omega), pk_un (by omega), pk_un (by omega), pk_un (by omega), pk_un (by omega), pk_un (by omega), pk_us]
  have n3 : eC (adG g (eN g) (eQ g) k w) (eN g) 3 = -1 := by
    unfold adG eC
    rw [pk_un (by omega), pk_un (by omega), pk_un (by omega), pk_un (by omega), pk_un (by omega), pk_us]
  have n5 : eC (adG g (eN g) (eQ g) k w) (eN g) 5 = -1 := by
    unfold adG eC
    rw [pk_un (by omega), pk_un (by omega), pk_un (by omega), pk_us]
  have n6 : eC (adG g (eN g) (eQ g) k w) (eN g) 6 = -1 := by
    unfold adG eC
    rw [pk_un (by omega), pk_un (by omega), pk_us]
  have v14 : adG g (eN g) (eQ g) k w 14 = g 14 + 1 := by
    have e : g 14 = nI (eQ g) := (qa_nIx (by omega)).symm
    have h : adG g (eN g) (eQ g) k w 14 = nI (eQ g + 1) := by
      unfold adG
      exact pk_us
    rw [h, e, nI_1]
  obtain ⟨p1, p2, p3, p4, p5, p6, p7, p8, p9⟩ := P
  have hLd : eLd (adG g (eN g) (eQ g) k w) = eLd g := by
    unfold eLd
    rw [hN]
    show sI (eWd (adG g (eN g) (eQ g) k w)) (eN g) + eWd (adG g (eN g) (eQ g) k w) (eN g) = _
    have : eWd (adG g (eN g) (eQ g) k w) (eN g) = 0 := by
      unfold eWd
      rw [n2, if_neg (by decide)]
    rw [this, Int32.add_zero]
    exact sI_congr fun j hj => by
      unfold eWd
      rw [C j 2 hj (by omega), C j 1 hj (by omega)]
  have S : ∀ (f : (Nat → Int32) → Nat → Int32), (∀ j, j < eN g → f (adG g (eN g) (eQ g) k w) j = f g j) → sI (f (adG g (eN g) (eQ g) k w)) (eN g + 1) = sI (f g) (eN g) + f (adG g (eN g) (eQ g) k w) (eN g) := by
    intro f hf
    show sI (f (adG g (eN g) (eQ g) k w)) (eN g) + _ = _
    rw [sI_congr hf]
  have F' := fun j (hj : j < eN g) => ef_c (C j 2 hj (by omega)) (C j 6 hj (by omega))
  refine ⟨fun j hj => ?_, ?_, ?_, ?_, ?_, ?_, ?_, ?_, ?_⟩
  · rw [hN] at hj
    by_cases hjn : j = eN g
    · subst hjn
      unfold pCar
      rw [n2, n3, n5, n6]
      decide
    · exact pc_c (C j 2 (by omega) (by omega)) (C j 3 (by omega) (by omega)) (C j 5 (by omega) (by omega)) (C j 6 (by omega) (by omega)) (p1 j (by omega))
  · rw [F 9 (by omega) (by omega) (by omega), hN, S eEf fun j hj => (F' j hj).1, p2]
    have : eEf (adG g (eN g) (eQ g) k w) (eN g) = 0 := by
      unfold eEf
      rw [n6]
      rfl
    rw [this, Int32.add_zero]
  · rw [F 10 (by omega) (by omega) (by omega), hN, S e3f fun j hj => (F' j hj).2.1, p3]
    have : e3f (adG g (eN g) (eQ g) k w) (eN g) = 0 := by
      unfold e3f
      rw [n2]
      rfl
    rw [this, Int32.add_zero]
  · rw [v14, hN, S e0f fun j hj => (F' j hj).2.2, p4]
    have : e0f (adG g (eN g) (eQ g) k w) (eN g) = 1 := by
      unfold e0f
      rw [n2]
      rfl
    rw [this]
  · rw [F 2 (by omega) (by omega) (by omega), F 3 (by omega) (by omega) (by omega)]
    exact p5
  · rw [hLd, F 4 (by omega) (by omega) (by omega), F 22 (by omega) (by omega) (by omega)]
    exact p6
  · rw [hLd, F 4 (by omega) (by omega) (by omega), F 22 (by omega) (by omega) (by omega)]
    intro q
    obtain ⟨x0, x1, x2⟩ := G.2.2.1.resolve_left q
    rw [C _ 1 x1 (by omega)]
    exact p7 q
  · rw [F 5 (by omega) (by omega) (by omega), F 27 (by omega) (by omega) (by omega)]
    exact p8
  · rw [F 6 (by omega) (by omega) (by omega), F 0 (by omega) (by omega) (by omega)]
    exact p9
theorem PX.ds {g : Nat → Int32} (G : eG g) {p c : Nat} (hp : p < eQ g) (hc : c < eN g) (e : g (41 + p) = nI c) (P : PX g) : PX (dsG g p (eQ g) c) := by
  have hn := G.1.n
  have hq := G.q
  have hq20 : eQ g ≤ 20 := by omega
  have x1 := hc
  have x2 : eC g c 2 = 0 := by
    have := (G.2.2.2.2.1 p hp).2.2
    rw [e, qa_ixn (by omega)] at this
    exact this
  have F0 : ∀ {i : Nat}, i < 41 → i ≠ 14 → dsG g p (eQ g) c i = g i := fun h1 h2 => (pk_un (by omega)).trans (lvG_oth g (Or.inl h1) h2 hq20 hp)
  have v14 : dsG g p (eQ g) c 14 = nI (eQ g - 1) := (pk_un (by omega)).trans (lvG_14 g hq20 hp)
  have hN : eN (dsG g p (eQ g) c) = eN g := by
    unfold eN
    rw [F0 (by omega) (by omega)]
  have Co : ∀ j k, j < eN g → (j ≠ c ∨ k ≠ 2) → k < 7 → eC (dsG g p (eQ g) c) j k = eC g j k := fun j k hj hjc hk => (pk_un (by omega)).trans (lvG_oth g (Or.inr (by omega)) (by omega) hq20 hp)
  have c2 : eC (dsG g p (eQ g) c) c 2 = 4 := pk_us
  obtain ⟨p1, p2, p3, p4, p5, p6, p7, p8, p9⟩ := P
  have pc := p1 c x1
  have e6 : ¬ 0 ≤ (eC g c 6).toInt := fun q => by
    have := pc.2.1.mp q
    rw [x2] at this
    revert this
    decide
  have hLd : eLd (dsG g p (eQ g) c) = eLd g := by
    unfold eLd
    rw [hN]
    refine sI_same x1 (fun j hj hjc => ?_) ?_
    · unfold eWd
      rw [Co j 2 hj (Or.inl hjc) (by omega), Co j 1 hj (Or.inl hjc) (by omega)]
    · unfold eWd
      rw [c2, x2, if_neg (by decide), if_neg (by decide)]
  refine ⟨fun j hj => ?_, ?_, ?_, ?_, ?_, ?_, fun q => ?_, ?_, ?_⟩
  · rw [hN] at hj
    by_cases hjc : j = c
    · subst hjc
      unfold pCar
      rw [c2, Co j 3 hj (Or.inr (by omega)) (by omega), Co j 5 hj (Or.inr (by omega)) (by omega), Co j 6 hj (Or.inr (by omega)) (by omega)]
      refine ⟨pc.1, ⟨fun q => absurd q e6, fun q => ?_⟩, fun q => absurd q e6⟩
      exact absurd q (by decide)
    · exact pc_c (Co j 2 hj (Or.inl hjc) (by omega)) (Co j 3 hj (Or.inl hjc) (by omega)) (Co j 5 hj (Or.inl hjc) (by omega)) (Co j 6 hj (Or.inl hjc) (by omega)) (p1 j hj)
  · rw [F0 (by omega) (by omega), hN, p2]
    exact (sI_same x1 (fun j hj hjc => (ef_c (Co j 2 hj (Or.inl hjc) (by omega)) (Co j 6 hj (Or.inl hjc) (by omega))).1) (by unfold eEf; rw [Co c 6 hc (Or.inr (by omega)) (by omega)])).symm
  · rw [F0 (by omega) (by omega), hN, p3]
    exact (sI_same x1 (fun j hj hjc => (ef_c (Co j 2 hj (Or.inl hjc) (by omega)) (Co j 6 hj (Or.inl hjc) (by omega))).2.1) (by unfold e3f; rw [c2, x2, if_neg (by decide), if_neg (by decide)])).symm
  · rw [v14, hN, sI_dn (f := e0f g) x1 (fun j hj hjc => (ef_c (Co j 2 hj (Or.inl hjc) (by omega)) (Co j 6 hj (Or.inl hjc) (by omega))).2.2) (by unfold e0f; rw [c2, if_neg (by decide)]), ← p4]
    have e0 : e0f g c = 1 := by unfold e0f; rw [x2, if_pos rfl]
    rw [e0, ← qa_nIx (i := g 14) (by omega)]
    show nI (eQ g - 1) = nI (eQ g) - nI 1
    exact (pk_sub (by omega)).symm
  · rw [F0 (by omega) (by omega), F0 (by omega) (by omega)]
    exact p5
  · rw [hLd, F0 (by omega) (by omega), F0 (by omega) (by omega)]
    exact p6
  · rw [F0 (by omega) (by omega)] at q ⊢
    obtain ⟨y0, y1, y2⟩ := G.2.2.1.resolve_left q
    rw [hLd, F0 (by omega) (by omega), Co _ 1 y1 (Or.inr (by omega)) (by omega)]
    exact p7 q
  · rw [F0 (by omega) (by omega), F0 (by omega) (by omega)]
    exact p8
  · rw [F0 (by omega) (by omega), F0 (by omega) (by omega)]
    exact p9
theorem PX.ul {g : Nat → Int32} (G : eG g) (h4 : g 4 = (-1)) {c : Nat} (hc : c < eN g) (x2 : eC g c 2 = 2) (P : PX g) : PX (ulG g c) := by
  have hn := G.1.n
  have x1 := hc
  have F0 : ∀ {i : Nat}, i < 41 → i ≠ 10 → ulG g c i = g i := fun h1 h2 => (pk_un h2).trans (pk_un (by omega))
  have v10 : ulG g c 10 = g 10 + 1 := pk_us
  have hN : eN (ulG g c) = eN g := by
    unfold eN
    rw [F0 (by omega) (by omega)]
  have Co : ∀ j k, j < eN g → (j ≠ c ∨ k ≠ 2) → k < 7 → eC (ulG g c) j k = eC g j k := fun j k hj hjc hk => (pk_un (by omega)).trans (pk_un (by omega))
  have c2 : eC (ulG g c) c 2 = 3 := (pk_un (by omega)).trans pk_us
  obtain ⟨p1, p2, p3, p4, p5, p6, p7, p8, p9⟩ := P
  have pc := p1 c x1
  have e6 : 0 ≤ (eC g c 6).toInt := pc.2.1.mpr (Or.inl x2)
  have w1 := G.2.1 c x1
  have hb := ld_b G
  have hLd : eLd (ulG g c) = eLd g - eC g c 1 := by
    unfold eLd
    have hdn := sI_dn (f := eWd g) (f' := eWd (ulG g c)) x1 (fun j hj hjc => by unfold eWd; rw [Co j 2 hj (Or.inl hjc) (by omega), Co j 1 hj (Or.inl hjc) (by omega)]) (by unfold eWd; rw [c2, if_neg (by decide)])
    rw [hN, hdn]
    congr 1
    unfold eWd
    rw [x2, if_pos rfl]
  refine ⟨fun j hj => ?_, ?_, ?_, ?_, ?_, fun _ => ?_, fun q => ?_, ?_, ?_⟩
  · rw [hN] at hj
    by_cases hjc : j = c
    · subst hjc
      unfold pCar
      rw [c2, Co j 3 hj (Or.inr (by omega)) (by omega), Co j 5 hj (Or.inr (by omega)) (by omega), Co j 6 hj (Or.inr (by omega)) (by omega)]
      exact ⟨pc.1, ⟨fun _ => Or.inr rfl, fun _ => e6⟩, pc.2.2⟩
    · exact pc_c (Co j 2 hj (Or.inl hjc) (by omega)) (Co j 3 hj (Or.inl hjc) (by omega)) (Co j 5 hj (Or.inl hjc) (by omega)) (Co j 6 hj (Or.inl hjc) (by omega)) (p1 j hj)
  · rw [F0 (by omega) (by omega), hN, p2]
    exact (sI_same x1 (fun j hj hjc => (ef_c (Co j 2 hj (Or.inl hjc) (by omega)) (Co j 6 hj (Or.inl hjc) (by omega))).1) (by unfold eEf; rw [Co c 6 hc (Or.inr (by omega)) (by omega)])).symm
  · rw [v10, hN, sI_up (f := e3f g) x1 (fun j hj hjc => (ef_c (Co j 2 hj (Or.inl hjc) (by omega)) (Co j 6 hj (Or.inl hjc) (by omega))).2.1) (by unfold e3f; rw [x2, if_neg (by decide)]), p3]
    congr 1
    unfold e3f
    rw [c2, if_pos rfl]
  · rw [F0 (by omega) (by omega), hN, p4]
    exact (sI_same x1 (fun j hj hjc => (ef_c (Co j 2 hj (Or.inl hjc) (by omega)) (Co j 6 hj (Or.inl hjc) (by omega))).2.2) (by unfold e0f; rw [c2, x2, if_neg (by decide), if_neg (by decide)])).symm
  · rw [F0 (by omega) (by omega), F0 (by omega) (by omega)]
    exact p5
  · have p6 := p6 h4
    rw [hLd, F0 (by omega) (by omega), qa_sub (by omega) (by omega)]
    omega
  · exact absurd ((F0 (i := 4) (by omega) (by omega)).trans h4) q
  · rw [F0 (by omega) (by omega), F0 (by omega) (by omega)]
    exact p8
  · rw [F0 (by omega) (by omega), F0 (by omega) (by omega)]
    exact p9
