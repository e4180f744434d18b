/-! p48, pure: the quotient of two small whole numbers, as a float, is a number -/
def fdOk : FP.Core.Datum → Prop
  | .nan => False
  | .inf _ => True
  | .fin _ c q => c < 16777216 ∧ -149 ≤ q ∧ q ≤ 104
theorem fd_b32 : FP.Core.b32.tails = 8388608 ∧ FP.Core.b32.exps = 256 ∧ FP.Core.b32.qmin = -149 ∧ FP.Core.b32.qmax = 104 ∧ 2 ^ FP.Core.b32.p = 16777216 := by decide +kernel
theorem fd_bound (s : Bool) {c : Nat} {q : Int} (hc : c < 16777216) (hq : -149 ≤ q) : fdOk (FP.Core.bound FP.Core.b32 s c q) := by
  unfold FP.Core.bound
  rw [fd_b32.2.2.2.1]
  split
  · exact ⟨hc, hq, by assumption⟩
  · trivial
theorem fd_settle (s : Bool) {c : Nat} {q : Int} (hq : -149 ≤ q) : fdOk (FP.Core.settle FP.Core.b32 s c q) := by
  unfold FP.Core.settle
  rw [fd_b32.2.2.2.2, fd_b32.1]
  split
  · exact fd_bound s (by assumption) hq
  · exact fd_bound s (by decide) (by omega)
theorem fd_ratio (s : Bool) (n d : Nat) (e : Int) : fdOk (FP.Core.roundRatio FP.Core.b32 s n d e) := by
  unfold FP.Core.roundRatio
  rw [fd_b32.2.2.1]
  split
  · exact ⟨by decide, by decide, by decide⟩
  · unfold FP.Core.roundAt
    refine fd_settle s ?_
    unfold FP.Core.quantum
    rw [fd_b32.2.2.1]
    omega
theorem fd_asm (s : Bool) {e t : Nat} (he : e ≤ 254) (ht : t < 8388608) : FP.Core.assemble FP.Core.b32 s e t < 4294967296 ∧ FP.Core.assemble FP.Core.b32 s e t % 2147483648 = e * 8388608 + t ∧ FP.Core.fieldE FP.Core.b32 (FP.Core.assemble FP.Core.b32 s e t) = e ∧ FP.Core.fieldT FP.Core.b32 (FP.Core.assemble FP.Core.b32 s e t) = t := by
  unfold FP.Core.fieldE FP.Core.fieldT FP.Core.assemble
  rw [fd_b32.1, fd_b32.2.1]
  cases s
  · rw [show (false.toNat * 256 + e) = e by simp]
    omega
  · rw [show (true.toNat * 256 + e) = 256 + e by simp]
    omega
theorem fd_inf (s : Bool) : FP.Core.assemble FP.Core.b32 s 255 0 < 4294967296 ∧ FP.Core.assemble FP.Core.b32 s 255 0 % 2147483648 = 2139095040 := by
  unfold FP.Core.assemble
  rw [fd_b32.1, fd_b32.2.1]
  cases s
  · decide
  · decide
theorem fd_enc {d : FP.Core.Datum} (h : fdOk d) : FP.Core.encode FP.Core.b32 d < 4294967296 ∧ FP.Core.encode FP.Core.b32 d % 2147483648 ≤ 2139095040 := by
  cases d with
  | nan => exact h.elim
  | inf s =>
    unfold FP.Core.encode
    rw [fd_b32.2.1]
    have := fd_inf s
    exact ⟨this.1, by rw [this.2]; exact Nat.le_refl _⟩
  | fin s c q =>
    obtain ⟨h1, h2, h3⟩ := h
    unfold FP.Core.encode
    rw [fd_b32.1, fd_b32.2.2.1]
    dsimp only
    split
    · have := fd_asm s (e := 0) (t := c) (by decide) (by assumption)
      exact ⟨this.1, by rw [this.2.1]; omega⟩
    · have := fd_asm s (e := (q - -149).toNat + 1) (t := c - 8388608) (by omega) (by omega)
      exact ⟨this.1, by rw [this.2.1]; omega⟩
theorem fd_dec {E : Nat} (h : E % 2147483648 ≤ 2139095040) : FP.Core.order (FP.Core.decode FP.Core.b32 E) (FP.Core.decode FP.Core.b32 E) = some .eq := by
  have hc : ∀ v : Int, compare v v = Ordering.eq := by
    intro v
    show compareOfLessAndEq v v = Ordering.eq
    unfold compareOfLessAndEq
    rw [if_neg (Int.lt_irrefl v), if_pos rfl]
  unfold FP.Core.decode FP.Core.fieldE FP.Core.fieldT
  rw [fd_b32.1, fd_b32.2.1]
  split
  · rename_i h1
    rw [if_pos (by omega)]
    exact congrArg some (hc _)
  · split
    · exact congrArg some (hc _)
    · exact congrArg some (hc _)
/-- a small whole number as a float -/
theorem fd_i2f {n : Nat} (h0 : 0 < n) (hn : n < 65536) : ∃ c q, 0 < c ∧ FP.Core.decode FP.Core.b32 (FP.Core.fromInt FP.Core.b32 (n : Int)) = .fin (FP.Core.fieldS FP.Core.b32 (FP.Core.fromInt FP.Core.b32 (n : Int))) c q ∧ FP.Core.fromInt FP.Core.b32 (n : Int) < 4294967296 := by
  have l1 := Nat.log2_self_le (n := n) (by omega)
  have l2 := Nat.lt_log2_self (n := n)
  have l3 : n.log2 < 16 := (Nat.log2_lt (by omega)).mpr hn
  obtain ⟨k, hk⟩ : ∃ k, k = n.log2 := ⟨_, rfl⟩
  rw [← hk] at l1 l2 l3
  have hlead : FP.Core.leading n 1 = (k : Int) := by
    unfold FP.Core.leading
    rw [← hk, show Nat.log2 1 = 0 by decide]
    dsimp only
    rw [if_pos (by rw [show ((k : Int) - ((0 : Nat) : Int)).toNat = k by omega, show (-((k : Int) - ((0 : Nat) : Int))).toNat = 0 by omega]; omega)]
    omega
  have hq : FP.Core.quantum FP.Core.b32 n 1 0 = (k : Int) - 23 := by
    unfold FP.Core.quantum
    rw [hlead, fd_b32.2.2.1, show ((FP.Core.b32.p : Int)) = 24 from rfl]
    omega
  have hN : FP.Core.nearest (FP.Core.unitsNum n 0 ((k : Int) - 23)) (FP.Core.unitsDen 1 0 ((k : Int) - 23)) = n * 2 ^ (23 - k) := by
    unfold FP.Core.unitsNum FP.Core.unitsDen FP.Core.nearest
    rw [show ((k : Int) - 23 - 0).toNat = 0 by omega, show (0 - ((k : Int) - 23)).toNat = 23 - k by omega, show 1 * 2 ^ 0 = 1 by decide, Nat.mod_one, if_pos (by decide), Nat.div_one]
  have p1 : 2 ^ k * 2 ^ (23 - k) = 8388608 := by rw [← Nat.pow_add, show k + (23 - k) = 23 by omega]
  have p2 : 2 ^ (k + 1) * 2 ^ (23 - k) = 16777216 := by rw [← Nat.pow_add, show k + 1 + (23 - k) = 24 by omega]
  have c1 : 8388608 ≤ n * 2 ^ (23 - k) := by
    rw [← p1]
    exact Nat.mul_le_mul_right _ l1
  have c2 : n * 2 ^ (23 - k) < 16777216 := by
    rw [← p2]
    exact Nat.mul_lt_mul_of_pos_right l2 (Nat.two_pow_pos _)
  have hr : FP.Core.roundRatio FP.Core.b32 false n 1 0 = .fin false (n * 2 ^ (23 - k)) ((k : Int) - 23) := by
    unfold FP.Core.roundRatio FP.Core.roundAt
    rw [if_neg (by omega), hq, hN]
    unfold FP.Core.settle FP.Core.bound
    rw [fd_b32.2.2.2.2, if_pos c2, fd_b32.2.2.2.1, if_pos (by omega)]
  have hf : FP.Core.fromInt FP.Core.b32 (n : Int) = FP.Core.assemble FP.Core.b32 false (((k : Int) - 23 - -149).toNat + 1) (n * 2 ^ (23 - k) - 8388608) := by
    unfold FP.Core.fromInt FP.Core.ofInt FP.Core.round
    rw [show decide ((n : Int) < 0) = false from decide_eq_false (by omega), Int.natAbs_natCast]
    dsimp only
    rw [hr]
    unfold FP.Core.encode
    rw [fd_b32.1, fd_b32.2.2.1]
    dsimp only
    rw [if_neg (by omega)]
  have ha := fd_asm false (e := ((k : Int) - 23 - -149).toNat + 1) (t := n * 2 ^ (23 - k) - 8388608) (by omega) (by omega)
  rw [hf]
  obtain ⟨E, hE⟩ : ∃ E, E = FP.Core.assemble FP.Core.b32 false (((k : Int) - 23 - -149).toNat + 1) (n * 2 ^ (23 - k) - 8388608) := ⟨_, rfl⟩
  rw [← hE] at ha ⊢
  have hdec : FP.Core.decode FP.Core.b32 E = .fin (FP.Core.fieldS FP.Core.b32 E) (FP.Core.b32.tails + FP.Core.fieldT FP.Core.b32 E) (FP.Core.b32.qmin + ((FP.Core.fieldE FP.Core.b32 E : Int) - 1)) := by
    unfold FP.Core.decode
    rw [if_neg (by rw [ha.2.2.1, fd_b32.2.1]; omega), if_neg (by rw [ha.2.2.1]; omega)]
  exact ⟨_, _, by rw [fd_b32.1]; omega, hdec, ha.1⟩
theorem fd_i0 : FP.Core.decode FP.Core.b32 (FP.Core.fromInt FP.Core.b32 ((0 : Nat) : Int)) = .fin false 0 (-149) ∧ FP.Core.fromInt FP.Core.b32 ((0 : Nat) : Int) < 4294967296 := by decide +kernel
theorem fd_any {n : Nat} (hn : n < 65536) : (∃ s c q, FP.Core.decode FP.Core.b32 (FP.Core.fromInt FP.Core.b32 (n : Int)) = .fin s c q) ∧ FP.Core.fromInt FP.Core.b32 (n : Int) < 4294967296 := by
  rcases Nat.eq_zero_or_pos n with h | h
  · subst h
    exact ⟨⟨_, _, _, fd_i0.1⟩, fd_i0.2⟩
  · obtain ⟨c, q, -, h2, h3⟩ := fd_i2f h hn
    exact ⟨⟨_, c, q, h2⟩, h3⟩
/-- the quotient -/
theorem fd_div0 {x y : Int32} (x0 : 0 ≤ x.toInt) (x1 : x.toInt < 65536) (y0 : 0 < y.toInt) (y1 : y.toInt < 65536) :
    FP.Core.fdiv (FP.Core.i2f x) (FP.Core.i2f y) &&& 0x7fffffff ≤ 0x7f800000 ∧ FP.Core.fcmp (FP.Core.fdiv (FP.Core.i2f x) (FP.Core.i2f y)) (FP.Core.fdiv (FP.Core.i2f x) (FP.Core.i2f y)) = some .eq := by
  obtain ⟨a, ha⟩ : ∃ a : Nat, x.toInt = (a : Int) := ⟨x.toInt.toNat, by omega⟩
  obtain ⟨b, hb⟩ : ∃ b : Nat, y.toInt = (b : Int) := ⟨y.toInt.toNat, by omega⟩
  obtain ⟨⟨s, c, q, e1⟩, l1⟩ := fd_any (n := a) (by omega)
  obtain ⟨c', q', hc', e2, l2⟩ := fd_i2f (n := b) (by omega) (by omega)
  have t : ∀ {n : Nat}, n < 4294967296 → (UInt32.ofNat n).toNat = n := fun h => by
    rw [UInt32.toNat_ofNat']
    exact Nat.mod_eq_of_lt h
  have hd : fdOk (FP.Core.quotient FP.Core.b32 (FP.Core.decode FP.Core.b32 (FP.Core.i2f x).toNat) (FP.Core.decode FP.Core.b32 (FP.Core.i2f y).toNat)) := by
    unfold FP.Core.i2f
    rw [ha, hb, t l1, t l2, e1, e2]
    unfold FP.Core.quotient
    dsimp only
    rw [if_neg (by omega)]
    exact fd_ratio _ _ _ _
  have he := fd_enc hd
  have hx : (FP.Core.fdiv (FP.Core.i2f x) (FP.Core.i2f y)).toNat = FP.Core.encode FP.Core.b32 (FP.Core.quotient FP.Core.b32 (FP.Core.decode FP.Core.b32 (FP.Core.i2f x).toNat) (FP.Core.decode FP.Core.b32 (FP.Core.i2f y).toNat)) := by
    unfold FP.Core.fdiv FP.Core.div
    exact t he.1
  constructor
  · rw [UInt32.le_iff_toNat_le, UInt32.toNat_and, hx]
    show _ &&& (2 ^ 31 - 1) ≤ 2139095040
    rw [Nat.and_two_pow_sub_one_eq_mod]
    exact he.2
  · unfold FP.Core.fcmp FP.Core.cmp
    rw [hx]
    exact fd_dec he.2
theorem fd_div {x y : Int32} (x0 : 0 ≤ x.toInt) (x1 : x.toInt < 65536) (y0 : 0 < y.toInt) (y1 : y.toInt < 65536) :
    FP.fdiv (FP.i2f x) (FP.i2f y) &&& 0x7fffffff ≤ 0x7f800000 ∧ FP.fcmp (FP.fdiv (FP.i2f x) (FP.i2f y)) (FP.fdiv (FP.i2f x) (FP.i2f y)) = some .eq := fd_div0 x0 x1 y0 y1
