/-! p48, pure: the law's count adds up -/
theorem cn_0 {F : FS} {g : Nat → Int32} {B : Int} (h : FG B F g) : fL_count 0 F = some (g 0) := by
  have e := ct_G F (x := 0) (k := 0) (by decide) (by decide)
  rw [show sC (fN F) 0 = g 0 from h.1.1.1.1] at e
  exact e
theorem cn_1 {F : FS} {g : Nat → Int32} {B : Int} (h : FG B F g) : fL_count 1 F = some (g 14) := by
  have e := ct_G F (x := 1) (k := 1) (by decide) (by decide)
  rw [show sC (fN F) 1 = g 14 from h.1.1.1.2.1] at e
  exact e
theorem cn_3 {F : FS} {g : Nat → Int32} {B : Int} (h : FG B F g) : fL_count 3 F = some (g 13) := by
  have e := ct_G F (x := 3) (k := 3) (by decide) (by decide)
  rw [show sC (fN F) 3 = g 13 from h.1.1.1.2.2.1] at e
  exact e
theorem cn_4 {F : FS} {g : Nat → Int32} {B : Int} (h : FG B F g) : fL_count 4 F = some (g 1) := by
  have e := ct_G F (x := 4) (k := 4) (by decide) (by decide)
  rw [show sC (fN F) 4 = g 1 from h.1.1.1.2.2.2.1] at e
  exact e
theorem cn_5 {F : FS} {g : Nat → Int32} {B : Int} (h : FG B F g) : fL_count 5 F = some (g 2) := by
  have e := ct_G F (x := 5) (k := 5) (by decide) (by decide)
  rw [show sC (fN F) 5 = g 2 from h.1.1.1.2.2.2.2.1] at e
  exact e
theorem cn_6 {F : FS} {g : Nat → Int32} {B : Int} (h : FG B F g) : fL_count 6 F = some (g 3) := by
  have e := ct_G F (x := 6) (k := 6) (by decide) (by decide)
  rw [show sC (fN F) 6 = g 3 from h.1.1.1.2.2.2.2.2.1] at e
  exact e
theorem cn_8 {F : FS} {g : Nat → Int32} {B : Int} (h : FG B F g) : fL_count 8 F = some (g 4) := by
  have e := ct_G F (x := 8) (k := 8) (by decide) (by decide)
  rw [show sC (fN F) 8 = g 4 from h.1.1.1.2.2.2.2.2.2.1] at e
  exact e
theorem cn_9 {F : FS} {g : Nat → Int32} {B : Int} (h : FG B F g) : fL_count 9 F = some (g 5) := by
  have e := ct_G F (x := 9) (k := 9) (by decide) (by decide)
  rw [show sC (fN F) 9 = g 5 from h.1.1.1.2.2.2.2.2.2.2.1] at e
  exact e
theorem cn_10 {F : FS} {g : Nat → Int32} {B : Int} (h : FG B F g) : fL_count 10 F = some (g 6) := by
  have e := ct_G F (x := 10) (k := 10) (by decide) (by decide)
  rw [show sC (fN F) 10 = g 6 from h.1.1.1.2.2.2.2.2.2.2.2.1] at e
  exact e
theorem cn_11 {F : FS} {g : Nat → Int32} {B : Int} (h : FG B F g) : fL_count 11 F = some (g 7) := by
  have e := ct_G F (x := 11) (k := 11) (by decide) (by decide)
  rw [show sC (fN F) 11 = g 7 from h.1.1.1.2.2.2.2.2.2.2.2.2.1] at e
  exact e
theorem cn_12 {F : FS} {g : Nat → Int32} {B : Int} (h : FG B F g) : fL_count 12 F = some (g 8) := by
  have e := ct_G F (x := 12) (k := 12) (by decide) (by decide)
  rw [show sC (fN F) 12 = g 8 from h.1.1.1.2.2.2.2.2.2.2.2.2.2.1] at e
  exact e
theorem cn_13 {F : FS} {g : Nat → Int32} {B : Int} (h : FG B F g) : fL_count 13 F = some (g 9) := by
  have e := ct_G F (x := 13) (k := 13) (by decide) (by decide)
  rw [show sC (fN F) 13 = g 9 from h.1.1.1.2.2.2.2.2.2.2.2.2.2.2.1] at e
  exact e
theorem cn_14 {F : FS} {g : Nat → Int32} {B : Int} (h : FG B F g) : fL_count 14 F = some (g 10) := by
  have e := ct_G F (x := 14) (k := 14) (by decide) (by decide)
  rw [show sC (fN F) 14 = g 10 from h.1.1.1.2.2.2.2.2.2.2.2.2.2.2.2.1] at e
  exact e
theorem cn_15 {F : FS} {g : Nat → Int32} {B : Int} (h : FG B F g) : fL_count 15 F = some (g 11) := by
  have e := ct_G F (x := 15) (k := 15) (by decide) (by decide)
  rw [show sC (fN F) 15 = g 11 from h.1.1.1.2.2.2.2.2.2.2.2.2.2.2.2.2.1] at e
  exact e
theorem cn_16 {F : FS} {g : Nat → Int32} {B : Int} (h : FG B F g) : fL_count 16 F = some (g 12) := by
  have e := ct_G F (x := 16) (k := 16) (by decide) (by decide)
  rw [show sC (fN F) 16 = g 12 from h.1.1.1.2.2.2.2.2.2.2.2.2.2.2.2.2.2] at e
  exact e
theorem cn_7 {F : FS} {g : Nat → Int32} {B : Int} (h : FG B F g) : fL_count 7 F = some (eLd g) := by
  have e := ct_G F (x := 7) (k := 7) (by decide) (by decide)
  rw [show sC (fN F) 7 = eLd g from h.1.2.1.2.1] at e
  exact e
theorem sg_0 {F : FS} {g : Nat → Int32} {B : Int} (h : FG B F g) : fL_setting 0 F = some (g 15) := stg_G h (x := 0) (k := 0) (by decide) (by decide)
theorem sg_1 {F : FS} {g : Nat → Int32} {B : Int} (h : FG B F g) : fL_setting 1 F = some (g 16) := stg_G h (x := 1) (k := 1) (by decide) (by decide)
theorem sg_2 {F : FS} {g : Nat → Int32} {B : Int} (h : FG B F g) : fL_setting 2 F = some (g 17) := stg_G h (x := 2) (k := 2) (by decide) (by decide)
theorem sg_3 {F : FS} {g : Nat → Int32} {B : Int} (h : FG B F g) : fL_setting 3 F = some (g 18) := stg_G h (x := 3) (k := 3) (by decide) (by decide)
theorem sg_4 {F : FS} {g : Nat → Int32} {B : Int} (h : FG B F g) : fL_setting 4 F = some (g 19) := stg_G h (x := 4) (k := 4) (by decide) (by decide)
theorem sg_5 {F : FS} {g : Nat → Int32} {B : Int} (h : FG B F g) : fL_setting 5 F = some (g 20) := stg_G h (x := 5) (k := 5) (by decide) (by decide)
theorem sg_6 {F : FS} {g : Nat → Int32} {B : Int} (h : FG B F g) : fL_setting 6 F = some (g 21) := stg_G h (x := 6) (k := 6) (by decide) (by decide)
theorem sg_7 {F : FS} {g : Nat → Int32} {B : Int} (h : FG B F g) : fL_setting 7 F = some (g 22) := stg_G h (x := 7) (k := 7) (by decide) (by decide)
theorem sg_8 {F : FS} {g : Nat → Int32} {B : Int} (h : FG B F g) : fL_setting 8 F = some (g 23) := stg_G h (x := 8) (k := 8) (by decide) (by decide)
theorem sg_9 {F : FS} {g : Nat → Int32} {B : Int} (h : FG B F g) : fL_setting 9 F = some (g 24) := stg_G h (x := 9) (k := 9) (by decide) (by decide)
theorem sg_10 {F : FS} {g : Nat → Int32} {B : Int} (h : FG B F g) : fL_setting 10 F = some (g 25) := stg_G h (x := 10) (k := 10) (by decide) (by decide)
theorem sg_11 {F : FS} {g : Nat → Int32} {B : Int} (h : FG B F g) : fL_setting 11 F = some (g 26) := stg_G h (x := 11) (k := 11) (by decide) (by decide)
theorem sg_12 {F : FS} {g : Nat → Int32} {B : Int} (h : FG B F g) : fL_setting 12 F = some (g 27) := stg_G h (x := 12) (k := 12) (by decide) (by decide)
theorem sg_13 {F : FS} {g : Nat → Int32} {B : Int} (h : FG B F g) : fL_setting 13 F = some (g 28) := stg_G h (x := 13) (k := 13) (by decide) (by decide)
theorem au_155 (k77 : Int32 × Int32 × Int32 × Int32 × Int32 × Int32 × Int32 × Int32 × Int32 × (Nat → Int32) × (Nat → Int32) → Option (Int32)) (x1 : Int32) (x2 : Int32) (x4 : Int32) (x5 : Int32) (x6 : Int32) (x7 : Int32) (x8 : Int32) (x11 : Int32) (x12 : Int32) (x13 : Int32) (x14 : Int32) (x15 : Int32) (x16 : Int32) (s0 : Int32) (s1 : Int32) (Y : YB) (un : Int32) (uw : Nat → Int32) (uf : Nat → Int32) (u : FS) : fL_addsUp_b155 k77 x1 x2 x4 x5 x6 x7 x8 x11 x12 x13 x14 x15 x16 s0 s1 Y un uw uf u = fL_addsUp_b170 k77 x1 x2 (s0 + s1) x5 x6 x7 x8 x11 x12 x13 x14 x15 x16 x4 (if x12 = 2 then 1 else 0) Y un uw uf u := by
  unfold fL_addsUp_b155
  split <;> rfl
theorem au_170 (k77 : Int32 × Int32 × Int32 × Int32 × Int32 × Int32 × Int32 × Int32 × Int32 × (Nat → Int32) × (Nat → Int32) → Option (Int32)) (x1 : Int32) (x2 : Int32) (x3 : Int32) (x5 : Int32) (x6 : Int32) (x7 : Int32) (x8 : Int32) (x11 : Int32) (x12 : Int32) (x13 : Int32) (x14 : Int32) (x15 : Int32) (x16 : Int32) (s0 : Int32) (s1 : Int32) (Y : YB) (un : Int32) (uw : Nat → Int32) (uf : Nat → Int32) (u : FS) : fL_addsUp_b170 k77 x1 x2 x3 x5 x6 x7 x8 x11 x12 x13 x14 x15 x16 s0 s1 Y un uw uf u = fL_addsUp_b186 k77 x1 x2 x3 (s0 + s1) x6 x7 x8 x11 x12 x13 x14 x15 x16 x5 (if x12 = 3 then 1 else 0) Y un uw uf u := by
  unfold fL_addsUp_b170
  split <;> rfl
theorem au_186 (k77 : Int32 × Int32 × Int32 × Int32 × Int32 × Int32 × Int32 × Int32 × Int32 × (Nat → Int32) × (Nat → Int32) → Option (Int32)) (x1 : Int32) (x2 : Int32) (x3 : Int32) (x4 : Int32) (x6 : Int32) (x7 : Int32) (x8 : Int32) (x11 : Int32) (x12 : Int32) (x13 : Int32) (x14 : Int32) (x15 : Int32) (x16 : Int32) (s0 : Int32) (s1 : Int32) (Y : YB) (un : Int32) (uw : Nat → Int32) (uf : Nat → Int32) (u : FS) : fL_addsUp_b186 k77 x1 x2 x3 x4 x6 x7 x8 x11 x12 x13 x14 x15 x16 s0 s1 Y un uw uf u = fL_addsUp_b201 k77 x1 x2 x3 x4 (s0 + s1) x7 x8 x11 x12 x13 x14 x15 x16 x6 (if x16 < 0 then 0 else 1) Y un uw uf u := by
  unfold fL_addsUp_b186
  split <;> rfl
theorem au_201 (k77 : Int32 × Int32 × Int32 × Int32 × Int32 × Int32 × Int32 × Int32 × Int32 × (Nat → Int32) × (Nat → Int32) → Option (Int32)) (x1 : Int32) (x2 : Int32) (x3 : Int32) (x4 : Int32) (x5 : Int32) (x7 : Int32) (x8 : Int32) (x11 : Int32) (x12 : Int32) (x13 : Int32) (x14 : Int32) (x15 : Int32) (x16 : Int32) (s0 : Int32) (s1 : Int32) (Y : YB) (un : Int32) (uw : Nat → Int32) (uf : Nat → Int32) (u : FS) : fL_addsUp_b201 k77 x1 x2 x3 x4 x5 x7 x8 x11 x12 x13 x14 x15 x16 s0 s1 Y un uw uf u = fL_addsUp_b217 k77 x1 x3 x4 x5 (s0 + s1) x7 x8 x11 x12 x13 x14 x15 x16 x2 (if x12 = 2 then x13 else 0) Y un uw uf u := by
  unfold fL_addsUp_b201
  split <;> rfl
theorem au_217 (k77 : Int32 × Int32 × Int32 × Int32 × Int32 × Int32 × Int32 × Int32 × Int32 × (Nat → Int32) × (Nat → Int32) → Option (Int32)) (x1 : Int32) (x3 : Int32) (x4 : Int32) (x5 : Int32) (x6 : Int32) (x7 : Int32) (x8 : Int32) (x11 : Int32) (x12 : Int32) (x13 : Int32) (x14 : Int32) (x15 : Int32) (x16 : Int32) (s0 : Int32) (s1 : Int32) (Y : YB) (un : Int32) (uw : Nat → Int32) (uf : Nat → Int32) (u : FS) : fL_addsUp_b217 k77 x1 x3 x4 x5 x6 x7 x8 x11 x12 x13 x14 x15 x16 s0 s1 Y un uw uf u = fL_addsUp_b232 k77 x1 (s0 + s1) x3 x4 x5 x6 x8 x11 x12 x13 x14 x15 x16 (if x12 = 1 then x11 else x7) Y un uw uf u := by
  unfold fL_addsUp_b217
  split <;> rfl
theorem au_232 (k77 : Int32 × Int32 × Int32 × Int32 × Int32 × Int32 × Int32 × Int32 × Int32 × (Nat → Int32) × (Nat → Int32) → Option (Int32)) (x1 : Int32) (x2 : Int32) (x3 : Int32) (x4 : Int32) (x5 : Int32) (x6 : Int32) (x8 : Int32) (x11 : Int32) (x12 : Int32) (x13 : Int32) (x14 : Int32) (x15 : Int32) (x16 : Int32) (s0 : Int32) (Y : YB) (un : Int32) (uw : Nat → Int32) (uf : Nat → Int32) (u : FS) : fL_addsUp_b232 k77 x1 x2 x3 x4 x5 x6 x8 x11 x12 x13 x14 x15 x16 s0 Y un uw uf u = fL_addsUp_b244 k77 x1 x2 x3 x4 x5 x6 s0 x8 x11 x12 x13 x14 x15 x16 (if 0 ≤ x14 then 0 else 1) Y un uw uf u := by
  unfold fL_addsUp_b232
  split <;> rfl
theorem au_244 (k77 : Int32 × Int32 × Int32 × Int32 × Int32 × Int32 × Int32 × Int32 × Int32 × (Nat → Int32) × (Nat → Int32) → Option (Int32)) (x1 : Int32) (x2 : Int32) (x3 : Int32) (x4 : Int32) (x5 : Int32) (x6 : Int32) (x7 : Int32) (x8 : Int32) (x11 : Int32) (x12 : Int32) (x13 : Int32) (x14 : Int32) (x15 : Int32) (x16 : Int32) (s0 : Int32) (Y : YB) (un : Int32) (uw : Nat → Int32) (uf : Nat → Int32) (u : FS) : fL_addsUp_b244 k77 x1 x2 x3 x4 x5 x6 x7 x8 x11 x12 x13 x14 x15 x16 s0 Y un uw uf u = fL_addsUp_b254 k77 x1 x2 x3 x4 x5 x6 x7 x8 x11 x12 x13 x14 x15 x16 s0 (if 0 ≤ x15 then 0 else 1) Y un uw uf u := by
  unfold fL_addsUp_b244
  split <;> rfl
theorem au_267 (k77 : Int32 × Int32 × Int32 × Int32 × Int32 × Int32 × Int32 × Int32 × Int32 × (Nat → Int32) × (Nat → Int32) → Option (Int32)) (x1 : Int32) (x2 : Int32) (x3 : Int32) (x4 : Int32) (x5 : Int32) (x6 : Int32) (x7 : Int32) (x8 : Int32) (x11 : Int32) (x12 : Int32) (x13 : Int32) (x14 : Int32) (x15 : Int32) (x16 : Int32) (s0 : Int32) (Y : YB) (un : Int32) (uw : Nat → Int32) (uf : Nat → Int32) (u : FS) : fL_addsUp_b267 k77 x1 x2 x3 x4 x5 x6 x7 x8 x11 x12 x13 x14 x15 x16 s0 Y un uw uf u = fL_addsUp_b284 k77 x1 x2 x3 x4 x5 x6 x7 x8 x11 x12 x13 x14 x15 x16 s0 (if x12 = 2 ∨ x12 = 3 then 1 else 0) Y un uw uf u := by
  unfold fL_addsUp_b267 fL_addsUp_b279
  by_cases h2 : x12 = 2
  · rw [if_pos h2, if_pos (Or.inl h2)]
  · rw [if_neg h2]
    by_cases h3 : x12 = 3
    · rw [if_pos h3, if_pos (Or.inr h3)]
    · rw [if_neg h3, if_neg (fun q => q.elim h2 h3)]
/-- the end of the count -/
theorem au_976 {F : FS} {g : Nat → Int32} {B : Int} (h : FG B F g) (P : PX g) (Y : YB) (un : Int32) (uw uf : Nat → Int32) : fL_addsUp_b976 (eLd g) Y un uw uf F = some 1 := by
  have S := h.2.1.1.1
  have p8 := P.2.2.2.2.2.2.2.1
  obtain ⟨f1, f2, f3⟩ := fu_G h
  have e20 : (g 27 + 20).toInt = (g 27).toInt + 20 := by rw [qa_add (by rw [show (20 : Int32).toInt = 20 by decide]; omega) (by rw [show (20 : Int32).toInt = 20 by decide]; omega)]; rfl
  have hn : ¬ (if 2 < g 27 + 20 then g 27 + 20 else 2) ≤ g 5 := by
    rw [if_pos (by rw [qa_lt, qa_2, e20]; omega), qa_le, e20]
    omega
  unfold fL_addsUp_b976
  rw [cn_9 h, qa_b, sg_12 h, qa_b, if_neg hn, f1, qa_b, sg_7 h, qa_b, qa_g f2, if_pos f3]
theorem au_fin {F : FS} {g : Nat → Int32} {B : Int} (h : FG B F g) (P : PX g) (Y : YB) (un : Int32) (uw uf : Nat → Int32) (hw0 : uw 0 = eW g 0) (hw2 : uw 2 = eW g 2) {k561 : Int32 × Int32 × Int32 × Int32 × Int32 × Int32 × Int32 × Int32 × (Nat → Int32) × (Nat → Int32) → Option (Int32)} {x11 : Int32} (hx : g 14 ≤ x11) : fL_addsUp_b561 k561 (eLd g) (g 14) 0 (g 10) (g 9) (g 4) (g 0) x11 Y un uw uf F = some 1 := by
  have S := h.2.1.1
  have hS := S.1
  have G := h.2.1.2.1
  have Z := h.2.1.2.2
  have z0 := Z.2.2.1
  have z1 := Z.2.2.2.1
  have z2 := Z.2.1
  have hq := G.q
  have hz20 : ¬ g 20 = 0 := fun q => by
    rw [q, qa_0] at hS
    omega
  obtain ⟨w1, a1, a2, a3, a4⟩ := wt_G h (x := 1) (Or.inr rfl)
  obtain ⟨w0, b1, b2, b3, b4⟩ := wt_G h (x := 0) (Or.inl rfl)
  rw [if_neg (by decide)] at a4
  rw [if_pos rfl] at b4
  have t0 : ∀ w : Int32, 0 ≤ w.toInt → w.toInt ≤ 200 → 0 ≤ (g 0 + w).toInt := fun w w0 w1 => by rw [qa_add (by omega) (by omega)]; omega
  have e2 := e2T S
  have tp : 0 ≤ (g 0 + 2 * g 17).toInt := t0 _ (by omega) (by omega)
  have td : ∀ t : Int32, 0 ≤ t.toInt → fL_tide t F = some (eT g t) := fun t ht => ti_G h ht
  have en := eT_ends S z0
  have hb := ld_b G
  have p6 := P.2.2.2.2.2.1
  have p7 := P.2.2.2.2.2.2.1
  have hld : ¬ g 22 < eLd g := by
    rw [qa_lt]
    by_cases h4 : g 4 = (-1)
    · have := p6 h4
      omega
    · have := p7 h4
      have := (G.2.1 _ (G.2.2.1.resolve_left h4).2.1).1
      omega
  have q9 : fX9_queued (g 14) F = some (-1) := qu_out h (Or.inr (by omega))
  have e959 : fL_addsUp_b959 (eLd g) (g 4) Y un uw uf F = some 1 := by
    unfold fL_addsUp_b959
    by_cases h4 : 0 ≤ g 4
    · rw [if_pos h4, au_976 h P]
    · rw [if_neg h4, cn_9 h, qa_b]
      have h4' : g 4 = (-1) := by
        rcases G.2.2.1 with q | q
        · exact q
        · exact absurd (by rw [qa_le, qa_0]; exact q.1) h4
      rw [if_pos (Z.2.2.2.2.2.2.2.2.2.2.2.2.2 h4'), au_976 h P]
  unfold fL_addsUp_b561
  rw [if_pos hx, cn_4 h, qa_b, show fL_deck (g 0) F = some (eV g (g 0)) from de_G h z0, qa_b, td _ z0, qa_b, sg_4 h, qa_b, sg_5 h, qa_b, qa_gn hz20, if_pos (show eV g (g 0) = (eT g (g 0) + g 19) - (eLd g / g 20) from rfl)]
  rw [lp_G h, qa_b, if_pos (show eI g = (if 0 ≤ (g 1 - eV g (g 0)) then (g 1 - eV g (g 0)) else 0 - (g 1 - eV g (g 0))) from rfl), sl_G h, qa_b, sg_3 h, qa_b, if_pos (show eP g = (if 0 ≤ (g 1 - g 18) then (g 1 - g 18) else 0 - (g 1 - g 18)) from rfl)]
  rw [sg_0 h, qa_b, if_neg (by rw [qa_lt]; omega), sg_1 h, qa_b, if_neg (by rw [qa_lt]; omega), a1, qa_b, td _ (t0 w1 a2 a3), qa_b, qa_b, if_pos a4, b1, qa_b, td _ (t0 w0 b2 b3), qa_b, qa_b, if_pos b4, sg_2 h, qa_b, td _ tp, qa_b, if_pos (eT_per S z0 (by omega)), if_pos rfl]
  rw [cn_1 h, qa_b, if_pos rfl, cn_7 h, qa_b, if_pos rfl, sg_7 h, qa_b, if_neg hld, cn_8 h, qa_b, if_pos rfl, cn_13 h, qa_b, if_pos rfl, cn_14 h, qa_b, if_pos rfl, li_G h, qa_b, if_pos (by rw [hw0, hw2]), q9, qa_b, if_pos rfl, cn_6 h, qa_b, e959]
  by_cases h3 : g 3 = 0
  · rw [if_pos h3]
  · rw [if_neg h3, cn_5 h, qa_b, if_pos (P.2.2.2.2.1.resolve_right h3)]
/-- the queue -/
theorem au_q {F : FS} {g : Nat → Int32} {B : Int} (h : FG B F g) (P : PX g) (Y : YB) (un : Int32) (uw uf : Nat → Int32) (hw0 : uw 0 = eW g 0) (hw2 : uw 2 = eW g 2) : ∀ (k j m : Nat), j + k = eQ g → k < m → lop (fun y (z : Int32 × Int32 × Int32 × Int32 × Int32 × Int32 × Int32 × Int32 × (Nat → Int32) × (Nat → Int32)) => fL_addsUp_b561 y z.1 z.2.1 z.2.2.1 z.2.2.2.1 z.2.2.2.2.1 z.2.2.2.2.2.1 z.2.2.2.2.2.2.1 z.2.2.2.2.2.2.2.1 Y un z.2.2.2.2.2.2.2.2.1 z.2.2.2.2.2.2.2.2.2 F) m (eLd g, g 14, 0, g 10, g 9, g 4, g 0, nI j, uw, uf) = some 1 := by
  have G := h.2.1.2.1
  have hq := G.q
  have hn := G.1.n
  intro k
  induction k with
  | zero =>
    intro j m hj hm
    obtain ⟨m, rfl⟩ : ∃ q, m = q + 1 := ⟨m - 1, by omega⟩
    show fL_addsUp_b561 _ (eLd g) (g 14) 0 (g 10) (g 9) (g 4) (g 0) (nI j) Y un uw uf F = some 1
    exact au_fin h P Y un uw uf hw0 hw2 (by rw [qa_le, qa_nI (by omega)]; omega)
  | succ k ih =>
    intro j m hj hm
    obtain ⟨m, rfl⟩ : ∃ q, m = q + 1 := ⟨m - 1, by omega⟩
    have hjq : j < eQ g := by omega
    obtain ⟨v1, v2, v3⟩ := G.2.2.2.2.1 j hjq
    have q1 := qu_in h (x := nI j) (qa_nI (by omega)) hjq
    have c2 : fL_car (g (41 + j)) 2 F = some (eC g (ix (g (41 + j))) 2) := ca_G h (qa_ixI v1) v2 (y := 2) (k := 2) (by decide) (by decide)
    show fL_addsUp_b561 _ (eLd g) (g 14) 0 (g 10) (g 9) (g 4) (g 0) (nI j) Y un uw uf F = some 1
    unfold fL_addsUp_b561
    rw [if_neg (by rw [qa_le, qa_nI (by omega)]; omega), q1, qa_b, if_neg (by rw [qa_lt, qa_0]; omega), qa_b, c2, qa_b, if_pos v3, nI_1]
    exact ih (j + 1) m (by omega) (by omega)
/-- the cars on deck, lane by lane -/
def dS (g : Nat → Int32) : Nat → Int32
  | 0 => 0
  | l + 1 => dS g l + eM g (nI l)
theorem dS_3 {g : Nat → Int32} (G : eG g) : eD g = dS g 3 := by
  show eD g = 0 + eM g (nI 0) + eM g (nI 1) + eM g (nI 2)
  rw [Int32.zero_add]
  unfold eD eM
  have a1 : sI (fun c => eMf g (nI 0) c + eMf g (nI 1) c) (eN g) = sI (eMf g (nI 0)) (eN g) + sI (eMf g (nI 1)) (eN g) := sI_add fun j _ => rfl
  rw [← a1]
  refine sI_add fun c hc => ?_
  have w := G.2.1 c hc
  unfold eDf eMf
  by_cases h2 : eC g c 2 = 2
  · have w3 := w.2.2.2.1 (Or.inr h2)
    have e := qa_ixI w3.1
    have e3 : eC g c 3 = nI (ix (eC g c 3)) := (qa_nIx w3.1).symm
    have hL : ix (eC g c 3) < 3 := by omega
    rw [if_pos h2]
    obtain ⟨l, hl⟩ : ∃ l, l = ix (eC g c 3) := ⟨_, rfl⟩
    rw [← hl] at e3 hL
    have hA : ∀ j, j < 3 → (eAt g (nI j) c ↔ l = j) := by
      intro j hj
      unfold eAt
      rw [e3]
      exact ⟨fun q => (nI_eq (by omega) (by omega)).mp q.2, fun q => ⟨h2, by rw [q]⟩⟩
    rcases (show l = 0 ∨ l = 1 ∨ l = 2 by omega) with q | q | q
    · rw [if_pos ((hA 0 (by decide)).mpr q), if_neg (fun z => by have := (hA 1 (by decide)).mp z; omega), if_neg (fun z => by have := (hA 2 (by decide)).mp z; omega)]
      rfl
    · rw [if_neg (fun z => by have := (hA 0 (by decide)).mp z; omega), if_pos ((hA 1 (by decide)).mpr q), if_neg (fun z => by have := (hA 2 (by decide)).mp z; omega)]
      rfl
    · rw [if_neg (fun z => by have := (hA 0 (by decide)).mp z; omega), if_neg (fun z => by have := (hA 1 (by decide)).mp z; omega), if_pos ((hA 2 (by decide)).mpr q)]
      rfl
  · rw [if_neg h2, if_neg (fun z => h2 z.1), if_neg (fun z => h2 z.1), if_neg (fun z => h2 z.1)]
    rfl
theorem i_sae (a b c : Int32) : a - (b + c) = a - b - c := by
  have h : a - b - c + (b + c) = a := by rw [Int32.add_comm b c, ← Int32.add_assoc, Int32.sub_add_cancel, Int32.sub_add_cancel]
  calc a - (b + c) = (a - b - c + (b + c)) - (b + c) := by rw [h]
    _ = a - b - c := Int32.add_sub_cancel _ _
theorem sb_nI (x : Int32) (n : Nat) : x - nI n + (-1) = x - nI (n + 1) := by
  rw [← nI_1, i_sae, Int32.sub_eq_add_neg (x - nI n) 1]
/-- a lane's standing cars -/
theorem au_s {F : FS} {g : Nat → Int32} {B : Int} (h : FG B F g) (Y : YB) (un : Int32) (uw uf : Nat → Int32) {x2 x3 x4 x5 x6 x7 x8 : Int32} {k400 : Int32 × Int32 × Int32 × Int32 × Int32 × Int32 × Int32 × Int32 × (Nat → Int32) × (Nat → Int32) → Option (Int32)} {l d : Nat} (hl : l < 3) (hd : sD (fN F) l = nI d) (d1 : d ≤ 30)
    (d4 : ∀ i, i < d → sO (fN F) (30 * l + i) = nI (eX (fN F) l i) ∧ eX (fN F) l i < eN g ∧ eAt g (nI l) (eX (fN F) l i)) (d5 : ∀ i j, i < j → j < d → eC g (eX (fN F) l i) 5 < eC g (eX (fN F) l j) 5) : ∀ (k i m : Nat) (x12 : Int32), i + k = d → k < m → (i = 0 ∧ x12 = (-1) ∨ 0 < i ∧ x12 = eC g (eX (fN F) l (i - 1)) 5) →
    lop (fun y (z : Int32 × Int32 × Int32 × Int32 × Int32 × Int32 × Int32 × Int32 × Int32 × Int32 × (Nat → Int32) × (Nat → Int32)) => fL_addsUp_b458 k400 y z.1 z.2.1 z.2.2.1 z.2.2.2.1 z.2.2.2.2.1 z.2.2.2.2.2.1 z.2.2.2.2.2.2.1 z.2.2.2.2.2.2.2.1 z.2.2.2.2.2.2.2.2.1 z.2.2.2.2.2.2.2.2.2.1 Y un z.2.2.2.2.2.2.2.2.2.2.1 z.2.2.2.2.2.2.2.2.2.2.2 F) m (x2, x3, x4 - nI i, x5, x6, x7, x8, nI l, x12, nI i, uw, uf) = k400 (x2, x3, x4 - nI d, x5, x6, x7, x8, nI (l + 1), uw, uf) := by
  have G := h.2.1.2.1
  have hn := G.1.n
  intro k
  induction k with
  | zero =>
    intro i m x12 hi hm hx
    obtain ⟨m, rfl⟩ : ∃ q, m = q + 1 := ⟨m - 1, by omega⟩
    have hid : i = d := by omega
    subst hid
    have s1 : fL_standing (nI l) (nI i) F = some (-1) := sn_out h (qa_nI (by omega)) hl hd d1 (Or.inr (by rw [qa_nI (by omega)]; omega))
    show fL_addsUp_b458 k400 _ x2 x3 (x4 - nI i) x5 x6 x7 x8 (nI l) x12 (nI i) Y un uw uf F = _
    unfold fL_addsUp_b458
    rw [s1, qa_b, if_pos (by decide), nI_1]
  | succ k ih =>
    intro i m x12 hi hm hx
    obtain ⟨m, rfl⟩ : ∃ q, m = q + 1 := ⟨m - 1, by omega⟩
    have hid : i < d := by omega
    obtain ⟨o1, o2, o3⟩ := d4 i hid
    have s1 : fL_standing (nI l) (nI i) F = some (nI (eX (fN F) l i)) := by
      have := sn_in h (x := nI l) (y := nI i) (qa_nI (by omega)) hl hd d1 (qa_nI (by omega)) hid
      rw [o1] at this
      exact this
    have hc := qa_nI (n := eX (fN F) l i) (by omega)
    have c : ∀ j : Nat, j < 7 → ∀ y : Int32, y.toInt = (j : Int) → fL_car (nI (eX (fN F) l i)) y F = some (eC g (eX (fN F) l i) j) := fun j hj y hy => ca_G h hc o2 hy hj
    have hlt : x12 < eC g (eX (fN F) l i) 5 := by
      rcases hx with ⟨-, q⟩ | ⟨q0, q⟩
      · rw [q, qa_lt, qa_m1]
        have := ((G.2.1 _ o2).2.2.2.1 (Or.inr o3.1)).2.2
        omega
      · rw [q]
        exact d5 (i - 1) i (by omega) hid
    show fL_addsUp_b458 k400 _ x2 x3 (x4 - nI i) x5 x6 x7 x8 (nI l) x12 (nI i) Y un uw uf F = _
    unfold fL_addsUp_b458
    rw [s1, qa_b, if_neg (by rw [qa_lt, hc, qa_0]; omega), qa_b, c 2 (by decide) 2 (by decide), qa_b, if_pos o3.1, c 3 (by decide) 3 (by decide), qa_b, if_pos o3.2, c 5 (by decide) 5 (by decide), qa_b, if_pos hlt, qa_b, sb_nI, nI_1]
    exact ih (i + 1) m _ (by omega) (by omega) (Or.inr ⟨by omega, rfl⟩)
theorem au_l {F : FS} {g : Nat → Int32} {B : Int} (h : FG B F g) (P : PX g) (Y : YB) (un : Int32) (uw uf : Nat → Int32) (hw : ∀ l, l < 3 → uw l = eW g (nI l)) (hf : ∀ l, l < 3 → uf l = g 21 - eL g (nI l)) : ∀ (k l m : Nat), l + k = 3 → k < m → lop (fun y (z : Int32 × Int32 × Int32 × Int32 × Int32 × Int32 × Int32 × Int32 × (Nat → Int32) × (Nat → Int32)) => fL_addsUp_b400 y z.1 z.2.1 z.2.2.1 z.2.2.2.1 z.2.2.2.2.1 z.2.2.2.2.2.1 z.2.2.2.2.2.2.1 z.2.2.2.2.2.2.2.1 Y un z.2.2.2.2.2.2.2.2.1 z.2.2.2.2.2.2.2.2.2 F) m (eLd g, g 14, eD g - dS g l, g 10, g 9, g 4, g 0, nI l, uw, uf) = some 1 := by
  have G := h.2.1.2.1
  have hq := G.q
  intro k
  induction k with
  | zero =>
    intro l m hl hm
    obtain ⟨m, rfl⟩ : ∃ q, m = q + 1 := ⟨m - 1, by omega⟩
    obtain rfl : l = 3 := by omega
    have e0 : eD g - dS g 3 = 0 := by rw [dS_3 G, Int32.sub_self]
    show fL_addsUp_b400 _ (eLd g) (g 14) (eD g - dS g 3) (g 10) (g 9) (g 4) (g 0) (nI 3) Y un uw uf F = some 1
    unfold fL_addsUp_b400
    rw [if_pos (by decide), e0]
    exact au_q h P Y un uw uf (hw 0 (by decide)) (hw 2 (by decide)) (eQ g) 0 LF (by omega) (by show _ < 5000; omega)
  | succ k ih =>
    intro l m hl hm
    obtain ⟨m, rfl⟩ : ∃ q, m = q + 1 := ⟨m - 1, by omega⟩
    have hl3 : l < 3 := by omega
    have hlI := qa_nI (n := l) (by omega)
    have hi : inb (nI l) 3 = true := inb_n hlI hl3
    have hix : ix (nI l) = l := qa_ixn (by omega)
    obtain ⟨d, d1, d2, d3, d4, d5, d6⟩ := h.1.2.2.1 l hl3
    have hlen := G.2.2.2.2.2.2.2 l hl3
    have hL0 : 0 ≤ (eL g (nI l)).toInt := (sI_bnd (f := eLf g (nI l)) (n := eN g) (by have := G.1.n; omega) fun j hj => by
      unfold eLf
      split
      · have hk := G.1.2.2 j hj
        have := (h.2.1.1.2 (ix (eC g j 0)) (by have := qa_ixI hk.1; omega)).2.2.2.2
        unfold eO
        omega
      · rw [qa_0]
        omega).1
    have S := h.2.1.1.1
    have hpos : 0 ≤ uf l := by
      rw [hf l hl3, qa_le, qa_0, qa_sub (by omega) (by omega)]
      omega
    show fL_addsUp_b400 _ (eLd g) (g 14) (eD g - dS g l) (g 10) (g 9) (g 4) (g 0) (nI l) Y un uw uf F = some 1
    unfold fL_addsUp_b400
    rw [if_neg (by rw [qa_le, hlI, qa_3]; omega), show fL_lane (nI l) 0 F = some (eW g (nI l)) from lnw_G h hlI hl3, qa_b, qa_g hi, hix, if_pos (hw l hl3).symm, show fL_lane (nI l) 1 F = some (g 21 - eL g (nI l)) from lnf_G h hlI hl3, qa_b, qa_g hi, if_pos (hf l hl3).symm, qa_g hi, if_pos hpos]
    have := au_s h Y un uw uf (x2 := eLd g) (x3 := g 14) (x4 := eD g - dS g l) (x5 := g 10) (x6 := g 9) (x7 := g 4) (x8 := g 0) (k400 := lop (fun y (z : Int32 × Int32 × Int32 × Int32 × Int32 × Int32 × Int32 × Int32 × (Nat → Int32) × (Nat → Int32)) => fL_addsUp_b400 y z.1 z.2.1 z.2.2.1 z.2.2.2.1 z.2.2.2.2.1 z.2.2.2.2.2.1 z.2.2.2.2.2.2.1 z.2.2.2.2.2.2.2.1 Y un z.2.2.2.2.2.2.2.2.1 z.2.2.2.2.2.2.2.2.2 F) m) hl3 d2 d1 (fun i hi => ⟨(d4 i hi).1, (d4 i hi).2.1, (d4 i hi).2.2.1⟩) d5 d 0 LF (-1) (by omega) (by show _ < 5000; omega) (Or.inl ⟨rfl, rfl⟩)
    rw [show nI 0 = 0 from rfl, Int32.sub_zero] at this
    refine Eq.trans this ?_
    rw [← d3, ← i_sae]
    exact ih (l + 1) m (by omega) (by omega)
/-- one car -/
def r7 (g : Nat → Int32) (c : Nat) : Int32 := if ¬ g 4 = (-1) ∧ ix (g 4) < c then g 4 else (-1)
theorem au_car {F : FS} {g : Nat → Int32} {B : Int} (h : FG B F g) (P : PX g) (Y : YB) (un : Int32) (uw uf : Nat → Int32) {x1 x2 x3 x4 x5 x6 x7 : Int32} {k77 : Int32 × Int32 × Int32 × Int32 × Int32 × Int32 × Int32 × Int32 × Int32 × (Nat → Int32) × (Nat → Int32) → Option (Int32)} {c : Nat} (hc : c < eN g) (hx1 : x1 = g 13) : ∃ uw' uf', (∀ l, l < 3 → uw' l = uw l + eWf g (nI l) c ∧ uf' l = uf l - eLf g (nI l) c) ∧
    fL_addsUp_b77 k77 x1 x2 x3 x4 x5 x6 x7 (g 0) (nI c) Y un uw uf F = k77 (x1, x2 + eWd g c, x3 + e0f g c, x4 + eDf g c, x5 + e3f g c, x6 + eEf g c, if eC g c 2 = 1 then nI c else x7, g 0, nI (c + 1), uw', uf') := by
  have G := h.2.1.2.1
  have Z := h.2.1.2.2
  have hn := G.1.n
  have hcI := qa_nI (n := c) (by omega)
  have ca : ∀ j : Nat, j < 7 → ∀ y : Int32, y.toInt = (j : Int) → fL_car (nI c) y F = some (eC g c j) := fun j hj y hy => ca_G h hcI hc hy hj
  obtain ⟨w1, w2, w3, w4, w5, w6, w7, w8, w9, w10⟩ := G.2.1 c hc
  obtain ⟨p1, p2, p3⟩ := P.1 c hc
  have z1 := Z.2.2.2.1
  have z2 := Z.2.1
  have eE : (if eC g c 6 < 0 then (0 : Int32) else 1) = eEf g c := by
    unfold eEf
    by_cases q : 0 ≤ (eC g c 6).toInt
    · rw [if_pos q, if_neg (by rw [qa_lt, qa_0]; omega)]
    · rw [if_neg q, if_pos (by rw [qa_lt, qa_0]; omega)]
  have e34 : (if 0 ≤ eC g c 3 then (0 : Int32) else 1) = (if 0 ≤ eC g c 5 then 0 else 1) := by
    by_cases q : 0 ≤ eC g c 3
    · rw [if_pos q, if_pos (by rw [qa_le, qa_0] at q ⊢; omega)]
    · rw [if_neg q, if_neg (by rw [qa_le, qa_0] at q ⊢; omega)]
  have e62 : (if eC g c 6 < 0 then (0 : Int32) else 1) = (if eC g c 2 = 2 ∨ eC g c 2 = 3 then 1 else 0) := by
    by_cases q : eC g c 2 = 2 ∨ eC g c 2 = 3
    · rw [if_pos q, if_neg (by have := p2.mpr q; rw [qa_lt, qa_0]; omega)]
    · rw [if_neg q, if_pos (by rw [qa_lt, qa_0]; have : ¬ 0 ≤ (eC g c 6).toInt := fun z => q (p2.mp z); omega)]
  have e5 : (eC g c 5 + 1).toInt = (eC g c 5).toInt + 1 := by
    have := qa_rng (eC g c 5)
    rw [qa_add (by rw [qa_1]; omega) (by rw [qa_1]; omega), qa_1]
  have key : ∀ (X2 X3 X4 X5 X6 X7 : Int32), fL_addsUp_b232 k77 x1 X2 X3 X4 X5 X6 (g 0) (nI c) (eC g c 2) (eC g c 1) (eC g c 3) (eC g c 5) (eC g c 6) X7 Y un uw uf F = fL_addsUp_b340 k77 x1 X2 X3 X4 X5 X6 X7 (g 0) (nI c) (eC g c 2) (eC g c 1) (eC g c 3) Y un uw uf F := by
    intro X2 X3 X4 X5 X6 X7
    rw [au_232, au_244]
    unfold fL_addsUp_b254
    rw [if_pos e34]
    have e267 : (if eC g c 6 < 0 then fL_addsUp_b267 k77 x1 X2 X3 X4 X5 X6 X7 (g 0) (nI c) (eC g c 2) (eC g c 1) (eC g c 3) (eC g c 5) (eC g c 6) 0 Y un uw uf F else fL_addsUp_b267 k77 x1 X2 X3 X4 X5 X6 X7 (g 0) (nI c) (eC g c 2) (eC g c 1) (eC g c 3) (eC g c 5) (eC g c 6) 1 Y un uw uf F) = fL_addsUp_b267 k77 x1 X2 X3 X4 X5 X6 X7 (g 0) (nI c) (eC g c 2) (eC g c 1) (eC g c 3) (eC g c 5) (eC g c 6) (if eC g c 6 < 0 then 0 else 1) Y un uw uf F := by
      split <;> rfl
    rw [e267, au_267]
    unfold fL_addsUp_b284
    rw [if_pos e62]
    have e301 : fL_addsUp_b301 k77 x1 X2 X3 X4 X5 X6 X7 (g 0) (nI c) (eC g c 2) (eC g c 1) (eC g c 3) (eC g c 5) Y un uw uf F = fL_addsUp_b340 k77 x1 X2 X3 X4 X5 X6 X7 (g 0) (nI c) (eC g c 2) (eC g c 1) (eC g c 3) Y un uw uf F := by
      have e328 : fL_addsUp_b328 k77 x1 X2 X3 X4 X5 X6 X7 (g 0) (nI c) (eC g c 2) (eC g c 1) (eC g c 3) (eC g c 5) Y un uw uf F = fL_addsUp_b340 k77 x1 X2 X3 X4 X5 X6 X7 (g 0) (nI c) (eC g c 2) (eC g c 1) (eC g c 3) Y un uw uf F := by
        unfold fL_addsUp_b328
        by_cases q : eC g c 2 = 0
        · rw [if_pos q, if_pos (by rw [w9 q]; decide)]
        · rw [if_neg q]
      unfold fL_addsUp_b301
      rw [if_neg (by rw [qa_lt]; omega)]
      by_cases q : eC g c 5 < 0
      · rw [if_pos q, e328]
      · rw [if_neg q, ca 4 (by decide) 4 (by decide), qa_b, if_neg ?_, e328]
        rw [qa_lt]
        rcases w8 with z | z
        · rw [z] at q
          exact absurd (by decide) q
        · omega
    by_cases q : eC g c 6 < 0
    · rw [if_pos q, e301]
    · rw [if_neg q, if_neg ?_, e301]
      rw [qa_lt, qa_0] at q
      rw [qa_lt, e5]
      have := p3 (by omega)
      omega
  have mid : fL_addsUp_b77 k77 x1 x2 x3 x4 x5 x6 x7 (g 0) (nI c) Y un uw uf F = fL_addsUp_b340 k77 x1 (x2 + eWd g c) (x3 + e0f g c) (x4 + eDf g c) (x5 + e3f g c) (x6 + eEf g c) (if eC g c 2 = 1 then nI c else x7) (g 0) (nI c) (eC g c 2) (eC g c 1) (eC g c 3) Y un uw uf F := by
    unfold fL_addsUp_b77
    rw [if_neg (by rw [hx1, qa_le, hcI]; omega), ca 2 (by decide) 2 (by decide), qa_b, ca 1 (by decide) 1 (by decide), qa_b, ca 3 (by decide) 3 (by decide), qa_b, ca 5 (by decide) 5 (by decide), qa_b, ca 6 (by decide) 6 (by decide), qa_b]
    have e155 : (if eC g c 2 = 0 then fL_addsUp_b155 k77 x1 x2 x4 x5 x6 x7 (g 0) (nI c) (eC g c 2) (eC g c 1) (eC g c 3) (eC g c 5) (eC g c 6) x3 1 Y un uw uf F else fL_addsUp_b155 k77 x1 x2 x4 x5 x6 x7 (g 0) (nI c) (eC g c 2) (eC g c 1) (eC g c 3) (eC g c 5) (eC g c 6) x3 0 Y un uw uf F) = fL_addsUp_b155 k77 x1 x2 x4 x5 x6 x7 (g 0) (nI c) (eC g c 2) (eC g c 1) (eC g c 3) (eC g c 5) (eC g c 6) x3 (if eC g c 2 = 0 then 1 else 0) Y un uw uf F := by
      split <;> rfl
    rw [e155, au_155, au_170, au_186, au_201, au_217, key, eE]
    rfl
  rw [mid]
  have fin : ∀ uw' uf', fL_addsUp_b391 k77 x1 (x2 + eWd g c) (x3 + e0f g c) (x4 + eDf g c) (x5 + e3f g c) (x6 + eEf g c) (if eC g c 2 = 1 then nI c else x7) (g 0) (nI c) Y un uw' uf' F = k77 (x1, x2 + eWd g c, x3 + e0f g c, x4 + eDf g c, x5 + e3f g c, x6 + eEf g c, if eC g c 2 = 1 then nI c else x7, g 0, nI (c + 1), uw', uf') := by
    intro uw' uf'
    unfold fL_addsUp_b391
    rw [nI_1]
  by_cases h12 : eC g c 2 = 2 ∨ eC g c 2 = 1
  · have w4 := w4 (h12.symm)
    have hL : ix (eC g c 3) < 3 := by have := qa_ixI w4.1; omega
    have hin : inb (eC g c 3) 3 = true := qa_inb w4.1 (by omega)
    have hk := G.1.2.2 c hc
    have hkd : ix (eC g c 0) < 4 := by have := qa_ixI hk.1; omega
    have k2 : fL_kind (eC g c 0) 2 F = some (eO g c 2) := kd_G h (qa_ixI hk.1) hkd (y := 2) (k := 2) (by decide) (by decide)
    have e355 : fL_addsUp_b355 k77 x1 (x2 + eWd g c) (x3 + e0f g c) (x4 + eDf g c) (x5 + e3f g c) (x6 + eEf g c) (if eC g c 2 = 1 then nI c else x7) (g 0) (nI c) (eC g c 1) (eC g c 3) Y un uw uf F = fL_addsUp_b391 k77 x1 (x2 + eWd g c) (x3 + e0f g c) (x4 + eDf g c) (x5 + e3f g c) (x6 + eEf g c) (if eC g c 2 = 1 then nI c else x7) (g 0) (nI c) Y un (upd uw (ix (eC g c 3)) (uw (ix (eC g c 3)) + eC g c 1)) (upd uf (ix (eC g c 3)) (uf (ix (eC g c 3)) - eO g c 2)) F := by
      unfold fL_addsUp_b355
      rw [qa_g hin, qa_g hin, qa_g hin, ca 0 (by decide) 0 (by decide), qa_b, k2, qa_b, qa_g hin]
    refine ⟨upd uw (ix (eC g c 3)) (uw (ix (eC g c 3)) + eC g c 1), upd uf (ix (eC g c 3)) (uf (ix (eC g c 3)) - eO g c 2), fun l hl => ?_, ?_⟩
    · have e3 : eC g c 3 = nI (ix (eC g c 3)) := (qa_nIx w4.1).symm
      unfold eWf eLf
      by_cases q : l = ix (eC g c 3)
      · rw [q, pk_us, pk_us, if_pos ⟨h12, e3⟩, if_pos ⟨h12, e3⟩]
        exact ⟨rfl, rfl⟩
      · have nf : ¬ eFr g (nI l) c := fun z => q (by
          have := z.2
          rw [e3] at this
          exact ((nI_eq (by omega) (by omega)).mp this).symm)
        rw [pk_un q, pk_un q, if_neg nf, if_neg nf, Int32.add_zero, Int32.sub_zero]
        exact ⟨rfl, rfl⟩
    · rw [← fin, ← e355]
      unfold fL_addsUp_b340
      by_cases q1 : eC g c 2 = 1
      · rw [if_pos q1]
      · rw [if_neg q1, if_pos (h12.resolve_right q1)]
  · refine ⟨uw, uf, fun l hl => ?_, ?_⟩
    · have nf : ¬ eFr g (nI l) c := fun z => h12 z.1
      unfold eWf eLf
      rw [if_neg nf, if_neg nf, Int32.add_zero, Int32.sub_zero]
      exact ⟨rfl, rfl⟩
    · rw [← fin]
      conv => lhs; unfold fL_addsUp_b340
      rw [if_neg (fun q => h12 (Or.inr q)), if_neg (fun q => h12 (Or.inl q))]
theorem r7_s {g : Nat → Int32} (G : eG g) {c : Nat} (hc : c < eN g) : (if eC g c 2 = 1 then nI c else r7 g c) = r7 g (c + 1) := by
  have hn := G.1.n
  by_cases q : eC g c 2 = 1
  · have h4 := (G.2.1 c hc).2.2.1 q
    have e : ix (g 4) = c := by rw [h4]; exact qa_ixn (by omega)
    unfold r7
    rw [if_pos q, if_pos ⟨fun z => by rw [z] at h4; have := congrArg Int32.toInt h4; rw [qa_m1, qa_nI (by omega)] at this; omega, by omega⟩, h4]
  · rw [if_neg q]
    unfold r7
    by_cases z : ¬ g 4 = (-1) ∧ ix (g 4) < c
    · rw [if_pos z, if_pos ⟨z.1, by omega⟩]
    · rw [if_neg z, if_neg]
      rintro ⟨z1, z2⟩
      have : ix (g 4) = c := by
        have : ¬ ix (g 4) < c := fun y => z ⟨z1, y⟩
        omega
      have h2 := (G.2.2.1.resolve_left z1).2.2
      rw [this] at h2
      exact q h2
theorem au_c {F : FS} {g : Nat → Int32} {B : Int} (h : FG B F g) (P : PX g) (Y : YB) (un : Int32) : ∀ (k c m : Nat) (uw uf : Nat → Int32), c + k = eN g → k < m → (∀ l, l < 3 → uw l = sI (eWf g (nI l)) c ∧ uf l = g 21 - sI (eLf g (nI l)) c) → lop (fun y (z : Int32 × Int32 × Int32 × Int32 × Int32 × Int32 × Int32 × Int32 × Int32 × (Nat → Int32) × (Nat → Int32)) => fL_addsUp_b77 y z.1 z.2.1 z.2.2.1 z.2.2.2.1 z.2.2.2.2.1 z.2.2.2.2.2.1 z.2.2.2.2.2.2.1 z.2.2.2.2.2.2.2.1 z.2.2.2.2.2.2.2.2.1 Y un z.2.2.2.2.2.2.2.2.2.1 z.2.2.2.2.2.2.2.2.2.2 F) m (g 13, sI (eWd g) c, sI (e0f g) c, sI (eDf g) c, sI (e3f g) c, sI (eEf g) c, r7 g c, g 0, nI c, uw, uf) = some 1 := by
  have G := h.2.1.2.1
  have hn := G.1.n
  intro k
  induction k with
  | zero =>
    intro c m uw uf hc hm hu
    obtain ⟨m, rfl⟩ : ∃ q, m = q + 1 := ⟨m - 1, by omega⟩
    have hcn : c = eN g := by omega
    subst hcn
    have e7 : r7 g (eN g) = g 4 := by
      unfold r7
      by_cases q : g 4 = (-1)
      · rw [if_neg (fun z => z.1 q), q]
      · rw [if_pos ⟨q, (G.2.2.1.resolve_left q).2.1⟩]
    show fL_addsUp_b77 _ (g 13) (sI (eWd g) (eN g)) (sI (e0f g) (eN g)) (sI (eDf g) (eN g)) (sI (e3f g) (eN g)) (sI (eEf g) (eN g)) (r7 g (eN g)) (g 0) (nI (eN g)) Y un uw uf F = some 1
    unfold fL_addsUp_b77
    rw [if_pos (by rw [qa_le, qa_nI (by omega)]; omega), e7, ← P.2.1, ← P.2.2.1, ← P.2.2.2.1]
    have := au_l h P Y un uw uf (fun l hl => (hu l hl).1) (fun l hl => (hu l hl).2) 3 0 LF (by omega) (by show _ < 5000; omega)
    rw [show dS g 0 = 0 from rfl, Int32.sub_zero] at this
    exact this
  | succ k ih =>
    intro c m uw uf hc hm hu
    obtain ⟨m, rfl⟩ : ∃ q, m = q + 1 := ⟨m - 1, by omega⟩
    show fL_addsUp_b77 _ (g 13) (sI (eWd g) c) (sI (e0f g) c) (sI (eDf g) c) (sI (e3f g) c) (sI (eEf g) c) (r7 g c) (g 0) (nI c) Y un uw uf F = some 1
    obtain ⟨uw', uf', h1, h2⟩ := au_car h P Y un uw uf (x1 := g 13) (x2 := sI (eWd g) c) (x3 := sI (e0f g) c) (x4 := sI (eDf g) c) (x5 := sI (e3f g) c) (x6 := sI (eEf g) c) (x7 := r7 g c) (k77 := lop (fun y (z : Int32 × Int32 × Int32 × Int32 × Int32 × Int32 × Int32 × Int32 × Int32 × (Nat → Int32) × (Nat → Int32)) => fL_addsUp_b77 y z.1 z.2.1 z.2.2.1 z.2.2.2.1 z.2.2.2.2.1 z.2.2.2.2.2.1 z.2.2.2.2.2.2.1 z.2.2.2.2.2.2.2.1 z.2.2.2.2.2.2.2.2.1 Y un z.2.2.2.2.2.2.2.2.2.1 z.2.2.2.2.2.2.2.2.2.2 F) m) (c := c) (by omega) rfl
    rw [h2, r7_s G (by omega)]
    refine ih (c + 1) m uw' uf' (by omega) (by omega) fun l hl => ?_
    obtain ⟨b1, b2⟩ := h1 l hl
    rw [b1, b2, (hu l hl).1, (hu l hl).2]
    refine ⟨rfl, ?_⟩
    show g 21 - sI (eLf g (nI l)) c - eLf g (nI l) c = g 21 - (sI (eLf g (nI l)) c + eLf g (nI l) c)
    exact (i_sae _ _ _).symm
theorem au_G {F : FS} {g : Nat → Int32} {B : Int} (h : FG B F g) (P : PX g) (Y : YB) (un : Int32) : fL_addsUp Y un F = some 1 := by
  have G := h.2.1.2.1
  have hn := G.1.n
  have st : ∀ (k j m : Nat) (uf : Nat → Int32), j + k = 3 → k < m → (∀ l, l < j → uf l = g 21) → lop (fun y (z : Int32 × Int32 × Int32 × Int32 × Int32 × Int32 × Int32 × Int32 × Int32 × (Nat → Int32) × (Nat → Int32)) => fL_addsUp_b48 y z.1 z.2.1 z.2.2.1 z.2.2.2.1 z.2.2.2.2.1 z.2.2.2.2.2.1 z.2.2.2.2.2.2.1 z.2.2.2.2.2.2.2.1 z.2.2.2.2.2.2.2.2.1 Y un z.2.2.2.2.2.2.2.2.2.1 z.2.2.2.2.2.2.2.2.2.2 F) m (g 13, 0, 0, 0, 0, 0, (-1), g 0, nI j, (fun _ => 0), uf) = some 1 := by
    intro k
    induction k with
    | zero =>
      intro j m uf hj hm hu
      obtain ⟨m, rfl⟩ : ∃ q, m = q + 1 := ⟨m - 1, by omega⟩
      obtain rfl : j = 3 := by omega
      show fL_addsUp_b48 _ (g 13) 0 0 0 0 0 (-1) (g 0) (nI 3) Y un (fun _ => 0) uf F = some 1
      unfold fL_addsUp_b48
      rw [if_pos (by decide)]
      have e7 : r7 g 0 = (-1) := by
        unfold r7
        rw [if_neg (fun z => absurd z.2 (Nat.not_lt_zero _))]
      have := au_c h P Y un (eN g) 0 LF (fun _ => 0) uf (by omega) (by show _ < 5000; omega) (fun l hl => ⟨rfl, by rw [hu l hl]; exact (Int32.sub_zero _).symm⟩)
      rw [e7] at this
      exact this
    | succ k ih =>
      intro j m uf hj hm hu
      obtain ⟨m, rfl⟩ : ∃ q, m = q + 1 := ⟨m - 1, by omega⟩
      have hjI := qa_nI (n := j) (by omega)
      have step : ∀ K : Int32 × Int32 × Int32 × Int32 × Int32 × Int32 × Int32 × Int32 × Int32 × (Nat → Int32) × (Nat → Int32) → Option Int32, fL_addsUp_b48 K (g 13) 0 0 0 0 0 (-1) (g 0) (nI j) Y un (fun _ => 0) uf F = K (g 13, 0, 0, 0, 0, 0, (-1), g 0, nI (j + 1), (fun _ => 0), upd uf j (g 21)) := by
        intro K
        unfold fL_addsUp_b48
        rw [if_neg (by rw [qa_le, hjI, qa_3]; omega), sg_6 h, qa_b, qa_g (inb_n hjI (by omega)), nI_1, qa_ix hjI]
      show fL_addsUp_b48 _ (g 13) 0 0 0 0 0 (-1) (g 0) (nI j) Y un (fun _ => 0) uf F = some 1
      rw [step]
      refine ih (j + 1) m _ (by omega) (by omega) fun l hl => ?_
      by_cases q : l = j
      · rw [q, pk_us]
      · rw [pk_un q]
        exact hu l (by omega)
  unfold fL_addsUp
  rw [cn_3 h, qa_b, cn_0 h, qa_b]
  unfold fL_addsUp_b45
  exact st 3 0 LF (fun _ => 0) (by omega) (by show _ < 5000; omega) (fun l hl => absurd hl (Nat.not_lt_zero _))
