/-! a new object -/
theorem c_new : ∃ u' g, bnd (fX8_becomeNew KS0) (fun u => bnd (fX8_becomeLevel u) some) = some u' ∧ fX10_begin (fun _ => 0) = some g ∧ eAll 61000 (gN FS0 u') (nStA RS0 g) ∧ mTh (nStA RS0 g) = 0 := by
  obtain ⟨u, g, h1, h2, ⟨h3, h4⟩, g15, g16, g17, g19, g20⟩ := bn_all KS0 (fun _ => 0)
  obtain ⟨u', l1, _, l3, l4⟩ := lv_good h3 h4
  have ld : eLd g = 0 := (w_0 h3.2.2.2.2.1).2.1
  have v : eV g 0 = 0 := by
    unfold eV eT
    rw [g15, g16, g17, g19, g20, ld]
    rw [show ((0 : Int32) - 0) = 0 by decide, Int32.zero_mul]
    decide
  have g1 : g 1 = 0 := h3.2.2.2.2.2.2.1
  have eg : upd g 1 (eV g 0) = g := by
    rw [v]
    funext i
    by_cases e : i = 1
    · rw [uq_e _ _ e, e, g1]
    · rw [uq_o _ _ e]
  rw [eg] at l3 l4
  refine ⟨u', g, by rw [h1, qa_b, l1]; rfl, h2, ⟨l3, l4, ⟨0, 0, by omega, by omega, rfl, rfl, rfl, fun j hj => by omega⟩, ⟨fun s hs => ⟨Or.inl rfl, rfl⟩, fun h => absurd (show (0 : Int32) = 1 from h) (by decide), fun h => absurd (show (0 : Int32) = 1 from h) (by decide)⟩, fun i hi => rfl, ⟨0, by omega, rfl, rfl, fun i hi => by omega⟩, ⟨⟨0, by omega, rfl, rfl, fun i hi => by omega⟩, rfl, rfl⟩⟩, rfl⟩
