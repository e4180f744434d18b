/-! p48, pure: the quotient of two small whole numbers, as a float, is a number -/
def fdOk : FP.Datum → Prop
  | .nan => False
  | .inf _ => True
  | .fin _ c q => c < 16777216 ∧ -149 ≤ q ∧ q ≤ 104
theorem fd_b32 : FP.b32.tails = 8388608 ∧ FP.b32.exps = 256 ∧ FP.b32.qmin = -149 ∧ FP.b32.qmax = 104 ∧ 2 ^ FP.b32.p = 16777216 := by decide +kernel
theorem fd_bound (s : Bool) {c : Nat} {q : Int} (hc : c < 16777216) (hq : -149 ≤ q) : fdOk (FP.bound FP.b32 s c q) := by
  unfold FP.bound
  rw [fd_b32.2.2.2.1]
  split
  · exact ⟨hc, hq, by assumption⟩
  · trivial
theorem fd_settle (s : Bool) {c : Nat} {q : Int} (hq : -149 ≤ q) : fdOk (FP.settle FP.b32 s c q) := by
  unfold FP.settle
  rw [fd_b32.2.2.2.2, fd_b32.1]
  split
  · exact fd_bound s (by assumption) hq
  · exact fd_bound s (by decide) (by omega)
theorem fd_ratio (s : Bool) (n d : Nat) (e : Int) : fdOk (FP.roundRatio FP.b32 s n d e) := by
  unfold FP.roundRatio
  rw [fd_b32.2.2.1]
  split
  · exact ⟨by decide, by decide, by decide⟩
  · unfold FP.roundAt
    refine fd_settle s ?_
    unfold FP.quantum
    rw [fd_b32.2.2.1]
    omega
theorem fd_asm (s : Bool) {e t : Nat} (he : e ≤ 254) (ht : t < 8388608) : FP.assemble FP.b32 s e t < 4294967296 ∧ FP.assemble FP.b32 s e t % 2147483648 = e * 8388608 + t ∧ FP.fieldE FP.b32 (FP.assemble FP.b32 s e t) = e ∧ FP.fieldT FP.b32 (FP.assemble FP.b32 s e t) = t := by
  unfold FP.fieldE FP.fieldT FP.assemble
  rw [fd_b32.1, fd_b32.2.1]
  cases s
  · rw [show (false.toNat * 256 + e) = e by simp]
    omega
  · rw [show (true.toNat * 256 + e) = 256 + e by simp]
    omega
theorem fd_inf (s : Bool) : FP.assemble FP.b32 s 255 0 < 4294967296 ∧ FP.assemble FP.b32 s 255 0 % 2147483648 = 2139095040 := by
  unfold FP.assemble
  rw [fd_b32.1, fd_b32.2.1]
  cases s
  · decide
  · decide
theorem fd_enc {d : FP.Datum} (h : fdOk d) : FP.encode FP.b32 d < 4294967296 ∧ FP.encode FP.b32 d % 2147483648 ≤ 2139095040 := by
  cases d with
  | nan => exact h.elim
  | inf s =>
    unfold FP.encode
    rw [fd_b32.2.1]
    have := fd_inf s
    exact ⟨this.1, by rw [this.2]; exact Nat.le_refl _⟩
  | fin s c q =>
    obtain ⟨h1, h2, h3⟩ := h
    unfold FP.encode
    rw [fd_b32.1, fd_b32.2.2.1]
    dsimp only
    split
    · have := fd_asm s (e := 0) (t := c) (by decide) (by assumption)
      exact ⟨this.1, by rw [this.2.1]; omega⟩
    · have := fd_asm s (e := (q - -149).toNat + 1) (t := c - 8388608) (by omega) (by omega)
      exact ⟨this.1, by rw [this.2.1]; omega⟩
theorem fd_dec {E : Nat} (h : E % 2147483648 ≤ 2139095040) : FP.order (FP.decode FP.b32 E) (FP.decode FP.b32 E) = some .eq := by
  have hc : ∀ v : Int, compare v v = Ordering.eq := by
    intro v
    show compareOfLessAndEq v v = Ordering.eq
    unfold compareOfLessAndEq
    rw [if_neg (Int.lt_irrefl v), if_pos rfl]
  unfold FP.decode FP.fieldE FP.fieldT
  rw [fd_b32.1, fd_b32.2.1]
  split
  · rename_i h1
    rw [if_pos (by omega)]
    unfold FP.order
    rw [hc]
  · split
    · unfold FP.order
      rw [hc]
    · unfold FP.order
      rw [hc]
/-- a small whole number as a float -/
theorem fd_i2f {n : Nat} (h0 : 0 < n) (hn : n < 65536) : ∃ c q, 0 < c ∧ FP.decode FP.b32 (FP.fromInt FP.b32 (n : Int)) = .fin (FP.fieldS FP.b32 (FP.fromInt FP.b32 (n : Int))) c q ∧ FP.fromInt FP.b32 (n : Int) < 4294967296 := by
  have l1 := Nat.log2_self_le (n := n) (by omega)
  have l2 := Nat.lt_log2_self (n := n)
  have l3 : n.log2 < 16 := (Nat.log2_lt (by omega)).mpr hn
  obtain ⟨k, hk⟩ : ∃ k, k = n.log2 := ⟨_, rfl⟩
  rw [← hk] at l1 l2 l3
  have hlead : FP.leading n 1 = (k : Int) := by
    unfold FP.leading
    rw [← hk, show Nat.log2 1 = 0 by decide]
    dsimp only
    rw [if_pos (by rw [show ((k : Int) - ((0 : Nat) : Int)).toNat = k by omega, show (-((k : Int) - ((0 : Nat) : Int))).toNat = 0 by omega]; omega)]
    omega
  have hq : FP.quantum FP.b32 n 1 0 = (k : Int) - 23 := by
    unfold FP.quantum
    rw [hlead, fd_b32.2.2.1, show ((FP.b32.p : Int)) = 24 from rfl]
    omega
  have hN : FP.nearest (FP.unitsNum n 0 ((k : Int) - 23)) (FP.unitsDen 1 0 ((k : Int) - 23)) = n * 2 ^ (23 - k) := by
    unfold FP.unitsNum FP.unitsDen FP.nearest
    rw [show ((k : Int) - 23 - 0).toNat = 0 by omega, show (0 - ((k : Int) - 23)).toNat = 23 - k by omega, show 1 * 2 ^ 0 = 1 by decide, Nat.mod_one, if_pos (by decide), Nat.div_one]
  have p1 : 2 ^ k * 2 ^ (23 - k) = 8388608 := by rw [← Nat.pow_add, show k + (23 - k) = 23 by omega]
  have p2 : 2 ^ (k + 1) * 2 ^ (23 - k) = 16777216 := by rw [← Nat.pow_add, show k + 1 + (23 - k) = 24 by omega]
  have c1 : 8388608 ≤ n * 2 ^ (23 - k) := by
    rw [← p1]
    exact Nat.mul_le_mul_right _ l1
  have c2 : n * 2 ^ (23 - k) < 16777216 := by
    rw [← p2]
    exact Nat.mul_lt_mul_of_pos_right l2 (Nat.two_pow_pos _)
  have hr : FP.roundRatio FP.b32 false n 1 0 = .fin false (n * 2 ^ (23 - k)) ((k : Int) - 23) := by
    unfold FP.roundRatio FP.roundAt
    rw [if_neg (by omega), hq, hN]
    unfold FP.settle FP.bound
    rw [fd_b32.2.2.2.2, if_pos c2, fd_b32.2.2.2.1, if_pos (by omega)]
  have hf : FP.fromInt FP.b32 (n : Int) = FP.assemble FP.b32 false (((k : Int) - 23 - -149).toNat + 1) (n * 2 ^ (23 - k) - 8388608) := by
    unfold FP.fromInt FP.ofInt FP.round
    rw [show decide ((n : Int) < 0) = false from decide_eq_false (by omega), Int.natAbs_natCast]
    dsimp only
    rw [hr]
    unfold FP.encode
    rw [fd_b32.1, fd_b32.2.2.1]
    dsimp only
    rw [if_neg (by omega)]
  have ha := fd_asm false (e := ((k : Int) - 23 - -149).toNat + 1) (t := n * 2 ^ (23 - k) - 8388608) (by omega) (by omega)
  rw [hf]
  refine ⟨_, _, ?_, ?_, ha.1⟩
  rotate_left
  · unfold FP.decode
    rw [ha.2.2.1, fd_b32.2.1, if_neg (by omega), if_neg (by omega)]
  · rw [fd_b32.1]
    omega
theorem fd_i0 : FP.decode FP.b32 (FP.fromInt FP.b32 ((0 : Nat) : Int)) = .fin false 0 (-149) ∧ FP.fromInt FP.b32 ((0 : Nat) : Int) < 4294967296 := by decide +kernel
theorem fd_any {n : Nat} (hn : n < 65536) : (∃ s c q, FP.decode FP.b32 (FP.fromInt FP.b32 (n : Int)) = .fin s c q) ∧ FP.fromInt FP.b32 (n : Int) < 4294967296 := by
  rcases Nat.eq_zero_or_pos n with h | h
  · subst h
    exact ⟨⟨_, _, _, fd_i0.1⟩, fd_i0.2⟩
  · obtain ⟨c, q, -, h2, h3⟩ := fd_i2f h hn
    exact ⟨⟨_, c, q, h2⟩, h3⟩
/-- the quotient -/
theorem fd_div {x y : Int32} (x0 : 0 ≤ x.toInt) (x1 : x.toInt < 65536) (y0 : 0 < y.toInt) (y1 : y.toInt < 65536) :
    FP.fdiv (FP.i2f x) (FP.i2f y) &&& 0x7fffffff ≤ 0x7f800000 ∧ FP.fcmp (FP.fdiv (FP.i2f x) (FP.i2f y)) (FP.fdiv (FP.i2f x) (FP.i2f y)) = some .eq := by
  obtain ⟨a, ha⟩ : ∃ a : Nat, x.toInt = (a : Int) := ⟨x.toInt.toNat, by omega⟩
  obtain ⟨b, hb⟩ : ∃ b : Nat, y.toInt = (b : Int) := ⟨y.toInt.toNat, by omega⟩
  obtain ⟨⟨s, c, q, e1⟩, l1⟩ := fd_any (n := a) (by omega)
  obtain ⟨c', q', hc', e2, l2⟩ := fd_i2f (n := b) (by omega) (by omega)
  have t : ∀ {n : Nat}, n < 4294967296 → (UInt32.ofNat n).toNat = n := fun h => by
    rw [UInt32.toNat_ofNat']
    exact Nat.mod_eq_of_lt h
  have hd : fdOk (FP.quotient FP.b32 (FP.decode FP.b32 (FP.i2f x).toNat) (FP.decode FP.b32 (FP.i2f y).toNat)) := by
    unfold FP.i2f
    rw [ha, hb, t l1, t l2, e1, e2]
    unfold FP.quotient
    dsimp only
    rw [if_neg (by omega)]
    exact fd_ratio _ _ _ _
  have he := fd_enc hd
  have hx : (FP.fdiv (FP.i2f x) (FP.i2f y)).toNat = FP.encode FP.b32 (FP.quotient FP.b32 (FP.decode FP.b32 (FP.i2f x).toNat) (FP.decode FP.b32 (FP.i2f y).toNat)) := by
    unfold FP.fdiv FP.div
    exact t he.1
  constructor
  · rw [UInt32.le_iff_toNat_le, UInt32.toNat_and, hx]
    show _ &&& (2 ^ 31 - 1) ≤ 2139095040
    rw [Nat.and_two_pow_sub_one_eq_mod]
    exact he.2
  · unfold FP.fcmp FP.cmp
    rw [hx]
    exact fd_dec he.2
