/-! the waits of the cars that have begun: the reference's sum doesn't wrap -/
def eWt (g : Nat → Int32) (c : Nat) : Int32 := if eC g c 5 = (-1) then 0 else eC g c 5 - eC g c 4
theorem mw_one {g : Nat → Int32} {B : Int} (G : eG g) (Z : eZ B g) {c : Nat} (hc : c < eN g) : 0 ≤ (eWt g c).toInt ∧ (eWt g c).toInt ≤ B ∧ (¬ eC g c 5 = (-1) → (eWt g c).toInt = (eC g c 5).toInt - (eC g c 4).toInt) := by
  obtain ⟨_, k, _⟩ := G
  obtain ⟨_, _, _, _, a1, a2, a3, a4, _⟩ := k c hc
  have z1 := Z.2.1
  have z2 := Z.2.2.1
  have z3 := Z.2.2.2.1
  unfold eWt
  by_cases e : eC g c 5 = (-1)
  · rw [if_pos e, qa_0]
    exact ⟨by omega, by omega, fun h => absurd e h⟩
  · have a5 := a4.resolve_left e
    rw [if_neg e, qa_sub (by omega) (by omega)]
    exact ⟨by omega, by omega, fun _ => rfl⟩
theorem mw_sum {g : Nat → Int32} {B : Int} (G : eG g) (Z : eZ B g) (hB : B ≤ 35000000) : ∀ n, n ≤ eN g → 0 ≤ (sI (eWt g) n).toInt ∧ (sI (eWt g) n).toInt ≤ 35000000 * n ∧ (n < eN g → (sI (eWt g) (n + 1)).toInt = (sI (eWt g) n).toInt + (eWt g n).toInt) := by
  have hN := G.1.n.2
  have step : ∀ n, n < eN g → 0 ≤ (sI (eWt g) n).toInt → (sI (eWt g) n).toInt ≤ 35000000 * n → (sI (eWt g) (n + 1)).toInt = (sI (eWt g) n).toInt + (eWt g n).toInt := by
    intro n hn h1 h2
    have w := mw_one G Z hn
    show (sI (eWt g) n + eWt g n).toInt = _
    rw [qa_add (by omega) (by omega)]
  intro n
  induction n with
  | zero =>
    intro _
    have h0 : (sI (eWt g) 0).toInt = 0 := qa_0
    exact ⟨by omega, by omega, fun h => step 0 h (by omega) (by omega)⟩
  | succ n ih =>
    intro hn
    obtain ⟨h1, h2, h3⟩ := ih (by omega)
    have w := mw_one G Z (c := n) (by omega)
    have e := h3 (by omega)
    exact ⟨by omega, by omega, fun h => step (n + 1) h (by omega) (by omega)⟩
