/-! p48, pure: the tide between its ends, its turns, its return -/
theorem wm_mod {T t s : Int} : (t + (s + 2 * T - t % (2 * T)) % (2 * T)) % (2 * T) = s % (2 * T) := by
  rw [Int.add_emod_emod]
  have e := Int.emod_add_mul_ediv t (2 * T)
  have e2 : t + (s + 2 * T - t % (2 * T)) = s + 2 * T * (t / (2 * T) + 1) := by
    rw [Int.mul_add]
    omega
  rw [e2, Int.add_mul_emod_self_left]
theorem e2T {g : Nat → Int32} (S : eS g) : (2 * g 17).toInt = 2 * (g 17).toInt := by
  have h := S.1
  rw [qa_mul (by rw [qa_2]; omega) (by rw [qa_2]; omega), qa_2]
theorem eTp_i {g : Nat → Int32} (S : eS g) {t : Int32} (ht : 0 ≤ t.toInt) : (eTp g t).toInt = t.toInt % (2 * (g 17).toInt) := by
  have h := S.1
  unfold eTp
  rw [qa_rem ht (by rw [e2T S]; omega), e2T S]
theorem eT_ends {g : Nat → Int32} (S : eS g) {t : Int32} (ht : 0 ≤ t.toInt) : (g 15).toInt ≤ (eT g t).toInt ∧ (eT g t).toInt ≤ (g 16).toInt ∧ ((eTp g t).toInt = 0 → eT g t = g 15) ∧ ((eTp g t).toInt = (g 17).toInt → eT g t = g 16) := by
  obtain ⟨h, -⟩ := S
  have e2 : (2 * g 17).toInt = 2 * (g 17).toInt := by rw [qa_mul (by rw [qa_2]; omega) (by rw [qa_2]; omega), qa_2]
  have hp := qa_remb (y := 2 * g 17) ht (by omega)
  have hr : 0 ≤ (eTr g t).toInt ∧ (eTr g t).toInt ≤ (g 17).toInt ∧ ((eTp g t).toInt ≤ (g 17).toInt → eTr g t = eTp g t) := by
    unfold eTr eTp
    split
    · rename_i h'
      rw [qa_lt] at h'
      rw [qa_sub (by omega) (by omega)]
      exact ⟨by omega, by omega, fun q => absurd q (by omega)⟩
    · rename_i h'
      rw [qa_lt] at h'
      exact ⟨by omega, by omega, fun _ => rfl⟩
  have hd : (g 16 - g 15).toInt = (g 16).toInt - (g 15).toInt := qa_sub (by omega) (by omega)
  have hm0 : 0 ≤ ((g 16).toInt - (g 15).toInt) * (eTr g t).toInt := Int.mul_nonneg (by omega) hr.1
  have hm1 : ((g 16).toInt - (g 15).toInt) * (eTr g t).toInt ≤ ((g 16).toInt - (g 15).toInt) * (g 17).toInt := Int.mul_le_mul_of_nonneg_left hr.2.1 (by omega)
  have hm2 : ((g 16).toInt - (g 15).toInt) * (g 17).toInt ≤ 1000 * (g 17).toInt := Int.mul_le_mul_of_nonneg_right (by omega) (by omega)
  have hmul : ((g 16 - g 15) * eTr g t).toInt = ((g 16).toInt - (g 15).toInt) * (eTr g t).toInt := by
    rw [qa_mul (by rw [hd]; omega) (by rw [hd]; omega), hd]
  have hdiv : ((g 16 - g 15) * eTr g t / g 17).toInt = ((g 16).toInt - (g 15).toInt) * (eTr g t).toInt / (g 17).toInt := by
    rw [qa_divp (by rw [hmul]; exact hm0) (by omega), hmul]
  have hq0 : 0 ≤ ((g 16).toInt - (g 15).toInt) * (eTr g t).toInt / (g 17).toInt := Int.ediv_nonneg hm0 (by omega)
  have hq1 : ((g 16).toInt - (g 15).toInt) * (eTr g t).toInt / (g 17).toInt ≤ (g 16).toInt - (g 15).toInt := by
    have := Int.ediv_le_ediv (c := (g 17).toInt) (by omega) hm1
    rw [Int.mul_ediv_cancel _ (by omega)] at this
    exact this
  have hv : (eT g t).toInt = (g 15).toInt + ((g 16).toInt - (g 15).toInt) * (eTr g t).toInt / (g 17).toInt := by
    unfold eT
    rw [qa_add (by rw [hdiv]; omega) (by rw [hdiv]; omega), hdiv]
  refine ⟨by omega, by omega, fun q => ?_, fun q => ?_⟩
  · rw [qa_eq, hv, hr.2.2 (by omega), q, Int.mul_zero, Int.zero_ediv]
    omega
  · rw [qa_eq, hv, hr.2.2 (by omega), q, Int.mul_ediv_cancel _ (by omega)]
    omega
theorem eT_per {g : Nat → Int32} (S : eS g) {t : Int32} (ht : 0 ≤ t.toInt) (ht2 : t.toInt ≤ 200000000) : eT g (t + 2 * g 17) = eT g t := by
  have h := S.1
  have e2 := e2T S
  have ea : (t + 2 * g 17).toInt = t.toInt + 2 * (g 17).toInt := by rw [qa_add (by rw [e2]; omega) (by rw [e2]; omega), e2]
  have e : eTp g (t + 2 * g 17) = eTp g t := by
    rw [qa_eq, eTp_i S (by omega), eTp_i S ht, ea, Int.add_emod_right]
  unfold eT eTr
  rw [e]
/-- waterIn: how long to the next high, the next low water -/
theorem wt_G {F : FS} {g : Nat → Int32} {B : Int} (h : FG B F g) {x : Int32} (hx : x = 0 ∨ x = 1) : ∃ w, fX9_waterIn x F = some w ∧ 0 ≤ w.toInt ∧ w.toInt ≤ 200 ∧ eT g (g 0 + w) = if x = 0 then g 15 else g 16 := by
  have S := h.2.1.1
  have hS := S.1
  have Z := h.2.1.2.2
  have e2 := e2T S
  have t2 : sT (fN F) 2 = g 17 := h.1.1.2.1 2 (by decide)
  have c0 : sC (fN F) 0 = g 0 := h.1.1.1.1
  have h1 : ¬ 2 * g 17 = 0 := fun q => by
    rw [q, qa_0] at e2
    omega
  have z0 := Z.2.2.1
  have z1 := Z.2.2.2.1
  have z2 := Z.2.1
  have hr := qa_remb (x := g 0) (y := 2 * g 17) z0 (by omega)
  have hrv := qa_rem (x := g 0) (y := 2 * g 17) z0 (by omega)
  -- from s ahead of the turn
  have key : ∀ s : Int32, 0 ≤ s.toInt → s.toInt ≤ (g 17).toInt → ∃ w, fX9_waterIn_b30 (2 * g 17) s F = some w ∧ 0 ≤ w.toInt ∧ w.toInt ≤ 200 ∧ (eTp g (g 0 + w)).toInt = s.toInt := by
    intro s s0 s1
    have ea : (s + 2 * g 17).toInt = s.toInt + 2 * (g 17).toInt := by rw [qa_add (by omega) (by omega), e2]
    have eb : ((s + 2 * g 17) - (g 0 - g 0 / (2 * g 17) * (2 * g 17))).toInt = s.toInt + 2 * (g 17).toInt - (g 0).toInt % (2 * (g 17).toInt) := by
      rw [qa_sub (by omega) (by omega), ea, hrv, e2]
    have hb := qa_remb (x := (s + 2 * g 17) - (g 0 - g 0 / (2 * g 17) * (2 * g 17))) (y := 2 * g 17) (by rw [eb]; rw [hrv, e2] at hr; omega) (by omega)
    have hv := qa_rem (x := (s + 2 * g 17) - (g 0 - g 0 / (2 * g 17) * (2 * g 17))) (y := 2 * g 17) (by rw [eb]; rw [hrv, e2] at hr; omega) (by omega)
    refine ⟨_, ?_, hb.1, by omega, ?_⟩
    · unfold fX9_waterIn_b30
      rw [qa_gn h1, qa_gn h1, c0]
    · have ec : ∀ w : Int32, 0 ≤ w.toInt → w.toInt ≤ 200 → (g 0 + w).toInt = (g 0).toInt + w.toInt := fun w w0 w1 => qa_add (by omega) (by omega)
      rw [eTp_i S (by rw [ec _ hb.1 (by omega)]; omega), ec _ hb.1 (by omega), hv, eb, e2, wm_mod]
      exact Int.emod_eq_of_lt s0 (by omega)
  have hge : (1 : Int32) ≤ g 17 := by
    rw [qa_le, qa_1]
    omega
  have ez : ∀ w : Int32, 0 ≤ w.toInt → w.toInt ≤ 200 → 0 ≤ (g 0 + w).toInt := fun w w0 w1 => by rw [qa_add (by omega) (by omega)]; omega
  unfold fX9_waterIn fX9_waterIn_b0
  rw [t2, if_pos hge]
  rcases hx with hx | hx
  · obtain ⟨w, a1, a2, a3, a4⟩ := key 0 (by decide) (by rw [qa_0]; omega)
    rw [if_pos hx]
    refine ⟨w, a1, a2, a3, ?_⟩
    rw [if_pos hx]
    exact (eT_ends S (ez w a2 a3)).2.2.1 (a4.trans qa_0)
  · obtain ⟨w, a1, a2, a3, a4⟩ := key (g 17) (by omega) (by omega)
    have hn : ¬ x = 0 := by rw [hx]; decide
    rw [if_neg hn]
    refine ⟨w, a1, a2, a3, ?_⟩
    rw [if_neg hn]
    exact (eT_ends S (ez w a2 a3)).2.2.2 a4
/-- fullness: a number, and it equals itself -/
theorem fu_G {F : FS} {g : Nat → Int32} {B : Int} (h : FG B F g) : fX9_fullness F = some (FP.fdiv (FP.i2f (eLd g)) (FP.i2f (g 22))) ∧ (decide (FP.fdiv (FP.i2f (eLd g)) (FP.i2f (g 22)) &&& 0x7fffffff ≤ 0x7f800000)) = true ∧ Op.cmpValue (FP.fcmp (FP.fdiv (FP.i2f (eLd g)) (FP.i2f (g 22))) (FP.fdiv (FP.i2f (eLd g)) (FP.i2f (g 22)))) .l = 0 := by
  have S := h.2.1.1.1
  have G := h.2.1.2.1
  have hb := ld_b G
  have hn := G.1.n
  have t7 : sT (fN F) 7 = g 22 := h.1.1.2.1 7 (by decide)
  have c7 : sC (fN F) 7 = eLd g := h.1.2.1.2.1
  obtain ⟨d1, d2⟩ := fd_div (x := eLd g) (y := g 22) hb.1 (by omega) (by omega) (by omega)
  refine ⟨?_, decide_eq_true d1, by rw [d2]; rfl⟩
  unfold fX9_fullness fX9_fullness_b0
  rw [t7, c7, if_pos (by rw [qa_le, qa_1]; omega), qa_g (decide_eq_true d1)]
