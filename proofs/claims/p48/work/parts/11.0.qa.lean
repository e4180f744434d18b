/-! numbers, programs and sums: what the comparison of the class with the reference rests on -/
theorem qa_rng (x : Int32) : -2147483648 ≤ x.toInt ∧ x.toInt < 2147483648 := by
  have h1 := x.le_toInt
  have h2 := x.toInt_lt
  omega
theorem qa_bm {z : Int} (h1 : -2147483648 ≤ z) (h2 : z < 2147483648) : z.bmod (2 ^ 32) = z := by
  rw [Int.bmod_eq_of_le (by omega) (by omega)]
theorem qa_bw (z : Int) : z.bmod (2 ^ 32) = (z + 2147483648) % 4294967296 - 2147483648 := by
  rw [Int.bmod_def]
  split <;> omega
/-- the arithmetic of ints as that of numbers: 'simp only [qa_ar]', then omega -/
theorem qa_ar : (∀ x y : Int32, (x + y).toInt = (x.toInt + y.toInt + 2147483648) % 4294967296 - 2147483648) ∧ (∀ x y : Int32, (x - y).toInt = (x.toInt - y.toInt + 2147483648) % 4294967296 - 2147483648) ∧
    (∀ x y : Int32, (x * y).toInt = (x.toInt * y.toInt + 2147483648) % 4294967296 - 2147483648) ∧ (∀ x : Int32, (-x).toInt = (-x.toInt + 2147483648) % 4294967296 - 2147483648) ∧
    (∀ x y : Int32, (x < y) ↔ (x.toInt < y.toInt)) ∧ (∀ x y : Int32, (x ≤ y) ↔ (x.toInt ≤ y.toInt)) ∧ (∀ x y : Int32, (x = y) ↔ (x.toInt = y.toInt)) := by
  refine ⟨fun x y => ?_, fun x y => ?_, fun x y => ?_, fun x => ?_, fun x y => Int32.lt_iff_toInt_lt, fun x y => Int32.le_iff_toInt_le, fun x y => Int32.toInt_inj.symm⟩
  · rw [Int32.toInt_add, qa_bw]
  · rw [Int32.toInt_sub, qa_bw]
  · rw [Int32.toInt_mul, qa_bw]
  · rw [Int32.toInt_neg, qa_bw]
theorem qa_add {x y : Int32} (h1 : -2147483648 ≤ x.toInt + y.toInt) (h2 : x.toInt + y.toInt < 2147483648) : (x + y).toInt = x.toInt + y.toInt := by
  rw [Int32.toInt_add, qa_bm h1 h2]
theorem qa_sub {x y : Int32} (h1 : -2147483648 ≤ x.toInt - y.toInt) (h2 : x.toInt - y.toInt < 2147483648) : (x - y).toInt = x.toInt - y.toInt := by
  rw [Int32.toInt_sub, qa_bm h1 h2]
theorem qa_mul {x y : Int32} (h1 : -2147483648 ≤ x.toInt * y.toInt) (h2 : x.toInt * y.toInt < 2147483648) : (x * y).toInt = x.toInt * y.toInt := by
  rw [Int32.toInt_mul, qa_bm h1 h2]
theorem qa_neg {x : Int32} (h : -2147483648 < x.toInt) : (-x).toInt = -x.toInt := by
  have := qa_rng x
  rw [Int32.toInt_neg, qa_bm (by omega) (by omega)]
theorem qa_div {x y : Int32} (h : 0 < y.toInt) : (x / y).toInt = x.toInt.tdiv y.toInt :=
  Int32.toInt_div_of_ne_right _ _ (fun e => by rw [e] at h; revert h; decide)
theorem qa_divp {x y : Int32} (hx : 0 ≤ x.toInt) (h : 0 < y.toInt) : (x / y).toInt = x.toInt / y.toInt := by
  rw [qa_div h, Int.tdiv_eq_ediv_of_nonneg hx]
theorem qa_divb {x y : Int32} (hx : 0 ≤ x.toInt) (h : 0 < y.toInt) : 0 ≤ (x / y).toInt ∧ (x / y).toInt ≤ x.toInt := by
  rw [qa_divp hx h]
  exact ⟨Int.ediv_nonneg hx (Int.le_of_lt h), Int.ediv_le_self _ hx⟩
theorem qa_rem {x y : Int32} (hx : 0 ≤ x.toInt) (h : 0 < y.toInt) : (x - x / y * y).toInt = x.toInt % y.toInt := by
  have h1 := qa_divp hx h
  have h2 : 0 ≤ x.toInt / y.toInt * y.toInt := Int.mul_nonneg (Int.ediv_nonneg hx (Int.le_of_lt h)) (Int.le_of_lt h)
  have h3 : x.toInt / y.toInt * y.toInt ≤ x.toInt := Int.ediv_mul_le _ (by omega)
  have h4 := qa_rng x
  have h5 : (x / y * y).toInt = x.toInt / y.toInt * y.toInt := by
    rw [qa_mul (by rw [h1]; omega) (by rw [h1]; omega), h1]
  rw [qa_sub (by rw [h5]; omega) (by rw [h5]; omega), h5, Int.emod_def, Int.mul_comm y.toInt]
theorem qa_remb {x y : Int32} (hx : 0 ≤ x.toInt) (h : 0 < y.toInt) : 0 ≤ (x - x / y * y).toInt ∧ (x - x / y * y).toInt < y.toInt := by
  rw [qa_rem hx h]
  exact ⟨Int.emod_nonneg _ (by omega), Int.emod_lt_of_pos _ h⟩
theorem qa_lt {x y : Int32} : x < y ↔ x.toInt < y.toInt := Int32.lt_iff_toInt_lt
theorem qa_le {x y : Int32} : x ≤ y ↔ x.toInt ≤ y.toInt := Int32.le_iff_toInt_le
theorem qa_eq {x y : Int32} : x = y ↔ x.toInt = y.toInt := Int32.toInt_inj.symm
theorem qa_nI {n : Nat} (h : n < 2147483648) : (nI n).toInt = (n : Int) := nI_toInt (by omega)
theorem qa_m1 : ((-1) : Int32).toInt = -1 := by decide
theorem qa_0 : (0 : Int32).toInt = 0 := by decide
theorem qa_1 : (1 : Int32).toInt = 1 := by decide
theorem qa_2 : (2 : Int32).toInt = 2 := by decide
theorem qa_3 : (3 : Int32).toInt = 3 := by decide
theorem qa_4 : (4 : Int32).toInt = 4 := by decide
theorem qa_5 : (5 : Int32).toInt = 5 := by decide
theorem qa_6 : (6 : Int32).toInt = 6 := by decide
theorem qa_7 : (7 : Int32).toInt = 7 := by decide
theorem qa_ix {i : Int32} {n : Nat} (h : i.toInt = (n : Int)) : ix i = n := by
  show i.toInt.toNat = n
  rw [h]
  rfl
theorem qa_ixI {i : Int32} (h : 0 ≤ i.toInt) : i.toInt = (ix i : Int) := (Int.toNat_of_nonneg h).symm
theorem qa_ixn {n : Nat} (h : n < 2147483648) : ix (nI n) = n := qa_ix (qa_nI h)
theorem qa_nIx {i : Int32} (h : 0 ≤ i.toInt) : nI (ix i) = i := by
  have h1 := qa_rng i
  have h2 := qa_ixI h
  refine Int32.toInt_inj.mp ?_
  rw [qa_nI (by omega), ← h2]
theorem qa_inb {i : Int32} {n : Nat} (h0 : 0 ≤ i.toInt) (h1 : i.toInt < n) : inb i n = true := by
  rw [inb, decide_eq_true h0, decide_eq_true h1]
  rfl
theorem qa_g {α : Type} {b : Bool} {x : Option α} (h : b = true) : grd b x = x := by
  rw [h]
  rfl
theorem qa_gi {α : Type} {i : Int32} {n : Nat} {x : Option α} (h0 : 0 ≤ i.toInt) (h1 : i.toInt < n) : grd (inb i n) x = x := qa_g (qa_inb h0 h1)
theorem qa_gn {α : Type} {i : Int32} {x : Option α} (h0 : ¬ i = 0) : grd (nz i) x = x := qa_g (by rw [nz, decide_eq_false h0]; rfl)
theorem qa_b {α β : Type} (a : α) (f : α → Option β) : bnd (some a) f = f a := rfl
theorem qa_b2 {α β γ : Type} (a : α) (b : β) (f : α → β → Option γ) : bnd2 (some (a, b)) f = f a b := rfl
-- loops
theorem qa_lop {σ R : Type} {b : (σ → Option R) → σ → Option R} (s : Nat → σ) {n : Nat} {r : Option R} (hs : ∀ j, j < n → ∀ k, b k (s j) = k (s (j + 1))) (he : ∀ k, b k (s n) = r) : ∀ (m i : Nat), n < i + m → i ≤ n → lop b m (s i) = r := by
  intro m
  induction m with
  | zero =>
    intro i h hi
    omega
  | succ m ih =>
    intro i h hi
    show b (lop b m) (s i) = r
    by_cases e : i = n
    · rw [e]
      exact he _
    · rw [hs i (by omega) (lop b m)]
      exact ih (i + 1) (by omega) (by omega)
theorem qa_lop0 {σ R : Type} {b : (σ → Option R) → σ → Option R} (s : Nat → σ) (n : Nat) {r : Option R} (hn : n < 5000) (hs : ∀ j, j < n → ∀ k, b k (s j) = k (s (j + 1))) (he : ∀ k, b k (s n) = r) : lop b LF (s 0) = r :=
  qa_lop s hs he 5000 0 (by omega) (by omega)
theorem qa_lind {σ R : Type} {b : (σ → Option R) → σ → Option R} (I : Nat → σ → Prop) (Q : Option R → Prop) (n : Nat) (hs : ∀ j s k, j ≤ n → I j s → (∀ s', j < n → I (j + 1) s' → Q (k s')) → Q (b k s)) : ∀ (m j : Nat) (s : σ), I j s → j ≤ n → n < j + m → Q (lop b m s) := by
  intro m
  induction m with
  | zero =>
    intro j s _ h hi
    omega
  | succ m ih =>
    intro j s hI h hi
    exact hs j s (lop b m) h hI (fun s' hj hI' => ih (j + 1) s' hI' (by omega) (by omega))
theorem qa_lrel {σ τ R S : Type} {b : (σ → Option R) → σ → Option R} {c : (τ → Option S) → τ → Option S} (I : Nat → σ → τ → Prop) (Q : Option R → Option S → Prop) (n : Nat) (hs : ∀ j s t k l, j ≤ n → I j s t → (∀ s' t', j < n → I (j + 1) s' t' → Q (k s') (l t')) → Q (b k s) (c l t)) : ∀ (m m' j : Nat) (s : σ) (t : τ), I j s t → j ≤ n → n < j + m → n < j + m' → Q (lop b m s) (lop c m' t) := by
  intro m
  induction m with
  | zero =>
    intro m' j s t _ h hi
    omega
  | succ m ih =>
    intro m' j s t hI h hi hi'
    cases m' with
    | zero => omega
    | succ m' => exact hs j s t (lop b m) (lop c m') h hI (fun s' t' hj hI' => ih m' (j + 1) s' t' hI' (by omega) (by omega) (by omega))
-- sums
def sI (f : Nat → Int32) : Nat → Int32
  | 0 => 0
  | n + 1 => sI f n + f n
theorem sI_congr {f f' : Nat → Int32} {n : Nat} (h : ∀ j, j < n → f j = f' j) : sI f n = sI f' n := by
  induction n with
  | zero => rfl
  | succ n ih =>
    show sI f n + f n = sI f' n + f' n
    rw [ih (fun j hj => h j (by omega)), h n (by omega)]
theorem sI_upd {f f' : Nat → Int32} {n c : Nat} (hc : c < n) (h : ∀ j, j < n → j ≠ c → f' j = f j) : sI f' n + f c = sI f n + f' c := by
  induction n with
  | zero => omega
  | succ n ih =>
    show sI f' n + f' n + f c = sI f n + f n + f' c
    by_cases e : c = n
    · subst e
      rw [sI_congr (f := f') (f' := f) (fun j hj => h j (by omega) (by omega))]
      ac_rfl
    · have h1 := ih (by omega) (fun j hj => h j (by omega))
      rw [h n (by omega) (by omega)]
      calc sI f' n + f n + f c = (sI f' n + f c) + f n := by ac_rfl
        _ = (sI f n + f' c) + f n := by rw [h1]
        _ = sI f n + f n + f' c := by ac_rfl
theorem sI_up {f f' : Nat → Int32} {n c : Nat} (hc : c < n) (h : ∀ j, j < n → j ≠ c → f' j = f j) (h0 : f c = 0) : sI f' n = sI f n + f' c := by
  have h1 := sI_upd hc h
  rw [h0, Int32.add_zero] at h1
  exact h1
theorem sI_dn {f f' : Nat → Int32} {n c : Nat} (hc : c < n) (h : ∀ j, j < n → j ≠ c → f' j = f j) (h0 : f' c = 0) : sI f' n = sI f n - f c := by
  have h1 := sI_upd hc h
  rw [h0, Int32.add_zero] at h1
  rw [← h1, Int32.add_sub_cancel]
theorem sI_same {f f' : Nat → Int32} {n c : Nat} (hc : c < n) (h : ∀ j, j < n → j ≠ c → f' j = f j) (h0 : f' c = f c) : sI f' n = sI f n :=
  sI_congr fun j hj => by
    by_cases e : j = c
    · rw [e, h0]
    · exact h j hj e
theorem sI_bnd {f : Nat → Int32} {n : Nat} (hn : n ≤ 1000) (h : ∀ j, j < n → 0 ≤ (f j).toInt ∧ (f j).toInt ≤ 999) : 0 ≤ (sI f n).toInt ∧ (sI f n).toInt ≤ 999 * n := by
  induction n with
  | zero =>
    show 0 ≤ (0 : Int32).toInt ∧ (0 : Int32).toInt ≤ _
    rw [qa_0]
    omega
  | succ n ih =>
    have h1 := ih (by omega) (fun j hj => h j (by omega))
    have h2 := h n (by omega)
    show 0 ≤ (sI f n + f n).toInt ∧ (sI f n + f n).toInt ≤ _
    rw [qa_add (by omega) (by omega)]
    omega
theorem sI_le {f f' : Nat → Int32} {n : Nat} (hn : n ≤ 1000) (h : ∀ j, j < n → 0 ≤ (f j).toInt ∧ (f j).toInt ≤ (f' j).toInt ∧ (f' j).toInt ≤ 999) : (sI f n).toInt ≤ (sI f' n).toInt := by
  induction n with
  | zero => exact Int.le_refl _
  | succ n ih =>
    have h1 := ih (by omega) (fun j hj => h j (by omega))
    have h2 := h n (by omega)
    have h3 := sI_bnd (f := f) (n := n) (by omega) (fun j hj => by have := h j (by omega); omega)
    have h4 := sI_bnd (f := f') (n := n) (by omega) (fun j hj => by have := h j (by omega); omega)
    show (sI f n + f n).toInt ≤ (sI f' n + f' n).toInt
    rw [qa_add (by omega) (by omega), qa_add (by omega) (by omega)]
    omega
theorem sI_0 {f : Nat → Int32} {n : Nat} (h : ∀ j, j < n → f j = 0) : sI f n = 0 := by
  induction n with
  | zero => rfl
  | succ n ih =>
    show sI f n + f n = 0
    rw [ih (fun j hj => h j (by omega)), h n (by omega)]
    rfl
theorem sI_add {f f' f2 : Nat → Int32} {n : Nat} (h : ∀ j, j < n → f2 j = f j + f' j) : sI f2 n = sI f n + sI f' n := by
  induction n with
  | zero => rfl
  | succ n ih =>
    show sI f2 n + f2 n = sI f n + f n + (sI f' n + f' n)
    rw [ih (fun j hj => h j (by omega)), h n (by omega)]
    ac_rfl
