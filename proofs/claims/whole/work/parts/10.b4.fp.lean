/-! doubles: NaNs, comparisons of what is alike -/
theorem fp_d64 {x : UInt64} (h : isNaN64 x = true) : FP.Core.decode FP.Core.b64 x.toNat = .nan := by
  have h1 := isNaN64_iff.mp h
  have e : x.toNat &&& 0x7fffffffffffffff = x.toNat % 9223372036854775808 := Nat.and_two_pow_sub_one_eq_mod x.toNat 63
  rw [e] at h1
  have hE : FP.Core.fieldE FP.Core.b64 x.toNat = FP.Core.Fmt.exps FP.Core.b64 - 1 := by
    show x.toNat / 4503599627370496 % 2048 = 2047
    omega
  have hT : ¬ FP.Core.fieldT FP.Core.b64 x.toNat = 0 := by
    show ¬ x.toNat % 4503599627370496 = 0
    omega
  unfold FP.Core.decode
  rw [if_pos hE, if_neg hT]
theorem fp_d32 {x : UInt32} (h : isNaN32 x = true) : FP.Core.decode FP.Core.b32 x.toNat = .nan := by
  have h1 := isNaN32_iff.mp h
  have e : x.toNat &&& 0x7fffffff = x.toNat % 2147483648 := Nat.and_two_pow_sub_one_eq_mod x.toNat 31
  rw [e] at h1
  have hE : FP.Core.fieldE FP.Core.b32 x.toNat = FP.Core.Fmt.exps FP.Core.b32 - 1 := by
    show x.toNat / 8388608 % 256 = 255
    omega
  have hT : ¬ FP.Core.fieldT FP.Core.b32 x.toNat = 0 := by
    show ¬ x.toNat % 8388608 = 0
    omega
  unfold FP.Core.decode
  rw [if_pos hE, if_neg hT]
theorem fp_cn1 {x : UInt64} (y : UInt64) (h : isNaN64 x = true) : FP.dcmp x y = none := by
  show FP.Core.order (FP.Core.decode FP.Core.b64 x.toNat) (FP.Core.decode FP.Core.b64 y.toNat) = none
  rw [fp_d64 h]
  cases FP.Core.decode FP.Core.b64 y.toNat <;> rfl
theorem fp_law {p q D : UInt64} {op : CmpOp} (hp : alike64 p D = true) (hq : alike64 q D = true) (c : ¬ Op.cmpValue (FP.dcmp p q) op = 0) : ¬ Op.cmpValue (FP.dcmp p p) op = 0 ∧ ¬ Op.cmpValue (FP.dcmp q q) op = 0 := by
  have h0 : ¬ Op.cmpValue none op = 0 := by cases op <;> decide
  have hn : ∀ x : UInt64, isNaN64 x = true → ¬ Op.cmpValue (FP.dcmp x x) op = 0 := fun x hx => by
    rw [fp_cn1 x hx]
    exact h0
  simp only [alike64, Bool.or_eq_true, decide_eq_true_eq, Bool.and_eq_true] at hp hq
  rcases hp with hp | ⟨np, nD⟩
  · rcases hq with hq | ⟨nq, nD⟩
    · rw [← hq] at hp
      rw [hp] at c ⊢
      exact ⟨c, c⟩
    · exact ⟨hn p (by rw [hp]; exact nD), hn q nq⟩
  · rcases hq with hq | ⟨nq, nE⟩
    · exact ⟨hn p np, hn q (by rw [hq]; exact nD)⟩
    · exact ⟨hn p np, hn q nq⟩
theorem fp_tr {x y z : UInt64} (h1 : alike64 x y = true) (h2 : alike64 y z = true) : alike64 x z = true := by
  simp only [alike64, Bool.or_eq_true, decide_eq_true_eq, Bool.and_eq_true] at h1 h2 ⊢
  rcases h1 with h1 | ⟨a1, a2⟩
  · rw [h1]
    exact h2
  · rcases h2 with h2 | ⟨b1, b2⟩
    · exact Or.inr ⟨a1, by rw [← h2]; exact a2⟩
    · exact Or.inr ⟨a1, b2⟩
theorem fp_nf {a : UInt32} (h : isNaN32 a = true) : isNaN64 (FP.f2d a) = true := by
  have h1 : FP.Core.fIsNaN a = true := by
    show decide (FP.Core.decode FP.Core.b32 a.toNat = .nan) = true
    rw [fp_d32 h]
    rfl
  unfold FP.f2d
  rw [if_pos h1]
  unfold FP.nanF2D
  exact isNaN64_or_left (isNaN64_or_right (by decide))
theorem fp_f2d {a b : UInt32} (h : alike32 a b = true) : alike64 (FP.f2d a) (FP.f2d b) = true := by
  simp only [alike32, Bool.or_eq_true, decide_eq_true_eq, Bool.and_eq_true] at h
  rcases h with h | ⟨h1, h2⟩
  · rw [h]
    exact alike64_refl _
  · simp only [alike64, Bool.or_eq_true, decide_eq_true_eq, Bool.and_eq_true]
    exact Or.inr ⟨fp_nf h1, fp_nf h2⟩
theorem fp_l2d {x : Int64} {y : Int32} (h : x.toInt = y.toInt) : FP.l2d x = FP.i2d y := by
  show UInt64.ofNat (FP.Core.fromInt FP.Core.b64 x.toInt) = UInt64.ofNat (FP.Core.fromInt FP.Core.b64 y.toInt)
  rw [h]
/-- what both mean waits are alike to; both fullnesses -/
def mwQ (g : Nat → Int32) : UInt64 := if sI (eBf g) (eN g) = 0 then FP.dconst0 else FP.ddiv (FP.i2d (sI (eWt g) (eN g))) (FP.i2d (sI (eBf g) (eN g)))
def fuQ (g : Nat → Int32) : UInt32 := FP.fdiv (FP.i2f (eLd g)) (FP.i2f (g 22))
