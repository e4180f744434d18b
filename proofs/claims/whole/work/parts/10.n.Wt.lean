theorem lw_str {s : State} {av : Array Value} {A : Nat → Prop} (hts : ∀ w ∈ lw_tbl, w.before av s = true) (hf : ∀ w ∈ lFL, w.before av s = true) (hA : ∀ a : Nat, a < s.heap.size → ¬ A a) (i : Nat) (hi : i < 61) : ∃ q : Nat × Nat, vk_R (zO i) (zK i) (zX i) q.1 s ∧ kStr (zB i) q.1 q.2 A s s.heap := by
  obtain ⟨a, c, cA, kA, q1, q2, q3, q4, q5, q6, -⟩ := Cond.exactly_spec (args := av) (first := s) (o := none) (s := s) (idx := []) (t := zTm i) (cls := "java/lang/String") (hf _ (zw_ex i hi))
  obtain ⟨t, ht, hT⟩ := va_Tof (f := fun j => .int ((zB i).getD j 0)) (A := A) (Nat.lt_trans (zB_ok i hi).1 (by decide)) (hf _ (zw_ar i hi)) (va_eqt (hf _ (zw_le i hi))) (fun j hj => va_eqt (hf _ (zw_el i hi j hj))) hA
  exact ⟨(a, t), vk_R.of (hts _ (zw_sr i hi)) q1, ⟨cA, q3, q5, by rw [q6]; exact q2, hA a (Array.getElem?_eq_some_iff.mp q3).1⟩, vk_OFof q1 (va_eqt (hf _ (zw_co i hi))) hA, vk_OFof q1 ht hA, hT⟩
theorem lw_mZ {s : State} {av : Array Value} {A : Nat → Prop} (hts : ∀ w ∈ lw_tbl, w.before av s = true) (hf : ∀ w ∈ lFL, w.before av s = true) (hA : ∀ a : Nat, a < s.heap.size → ¬ A a) : ∃ za zv : Nat → Nat, mZ za zv A s s.heap := by
  have h0 : ∀ i : Nat, ∃ q : Nat × Nat, i < 61 → vk_R (zO i) (zK i) (zX i) q.1 s ∧ kStr (zB i) q.1 q.2 A s s.heap := by
    intro i
    by_cases hi : i < 61
    · obtain ⟨q, hq⟩ := lw_str hts hf hA i hi
      exact ⟨q, fun _ => hq⟩
    · exact ⟨(0, 0), fun h => absurd h hi⟩
  obtain ⟨ad, had⟩ := Classical.axiomOfChoice h0
  refine ⟨fun i => (ad i).1, fun i => (ad i).2, va_Zof (hts (.laysStatic "java/lang/String" "COMPACT_STRINGS" "Z") (by decide +kernel)) (hts (.initialized "java/lang/String") (by decide +kernel)) (va_eqt (hf (.eq (.static "java/lang/String" "COMPACT_STRINGS" "Z") (.int 1)) (by decide +kernel))) hA,
    va_Zqof (hts (.laysStatic "jdk/internal/util/Preconditions" "SIOOBE_FORMATTER" "Ljava/util/function/BiFunction;") (by decide +kernel)) (hts (.initialized "jdk/internal/util/Preconditions") (by decide +kernel)) (hf (.isRef (.static "jdk/internal/util/Preconditions" "SIOOBE_FORMATTER" "Ljava/util/function/BiFunction;")) (by decide +kernel)) hA,
    vx_Zqof (hts (.laysStatic Bundle.tN "UNASSIGNED_STACK" Bundle.steD) (by decide +kernel)) (hts (.initialized Bundle.tN) (by decide +kernel)) (hf (.isRef (.static Bundle.tN "UNASSIGNED_STACK" Bundle.steD)) (by decide +kernel)) hA,
    vx_Zqof (hts (.laysStatic Bundle.tN "SUPPRESSED_SENTINEL" Bundle.listD) (by decide +kernel)) (hts (.initialized Bundle.tN) (by decide +kernel)) (hf (.isRef (.static Bundle.tN "SUPPRESSED_SENTINEL" Bundle.listD)) (by decide +kernel)) hA,
    fun i hi => had i hi, fun E hE => va_Nw.of rfl (hts _ (zw_ca E hE)), fun y hy => va_Nw.of rfl (hts _ (zw_de y hy))⟩
theorem lw_lN {s : State} {av : Array Value} (hf : ∀ w ∈ lFL, w.before av s = true) : lNc s := ⟨va_Nc.of (hf (.not (.castable "java/lang/IllegalArgumentException" "java/lang/IndexOutOfBoundsException")) (by decide +kernel)), va_Nc.of (hf (.not (.castable "java/lang/IllegalStateException" "java/lang/IllegalArgumentException")) (by decide +kernel))⟩
theorem lw_arr {s : State} {av : Array Value} {ty : FieldType} (h : (Cond.arrayClass ty).before av s = true) (hn : ∀ cA : ClassId, s.vm.findClass ("[" ++ ty.toString) = some cA → va_RA s cA ty) : ∃ cA : ClassId, ArrOfT s cA ty ∧ va_RA s cA ty := by
  obtain ⟨cA, kA, comp, h1, h2, h3⟩ := Cond.arrayClass_spec (args := av) (first := s) (o := none) (s := s) (idx := []) h
  exact ⟨cA, fun n z => ⟨fun k h => (by cases h), kA, h2, comp, h3⟩, hn cA h1⟩
theorem lw_arrS {s : State} {av : Array Value} (h : (Cond.arrayOver (.object "FerryRamp$State")).before av s = true) : ∃ cA : ClassId, ArrOfT s cA (.object "FerryRamp$State") ∧ va_RA s cA (.object "FerryRamp$State") := by
  obtain ⟨comp, cA, kA, f1, f0, f2, f3, f4⟩ := Cond.arrayOver_spec (args := av) (first := s) (o := none) (idx := []) h
  exact ⟨cA, fun n z => ⟨fun k h => (by cases h), kA, f2, comp, f3⟩, kA, comp, f2, f3, f1, f4⟩
theorem lw_mK {s : State} {av : Array Value} (hts : ∀ w ∈ lw_tbl, w.before av s = true) : ∃ (D : va_G) (cy : Nat → ClassId), mK D cy s := by
  obtain ⟨c0, i0, k0⟩ := u_known (C := RX4) (T := TX4) (N := 3) (n := 3) hts inX4 (hts (.instantiable RX4 3) (by decide +kernel))
  obtain ⟨c1, i1, k1⟩ := u_known (C := RX6) (T := TX6) (N := 11) (n := 11) hts inX6 (hts (.instantiable RX6 11) (by decide +kernel))
  obtain ⟨c2, i2, k2⟩ := u_known (C := RX8) (T := TX8) (N := 13) (n := 13) hts inX8 (hts (.instantiable RX8 13) (by decide +kernel))
  obtain ⟨c3, i3, k3⟩ := u_known (C := RX9) (T := TX9) (N := 9) (n := 9) hts inX9 (hts (.instantiable RX9 9) (by decide +kernel))
  obtain ⟨c4, i4, k4⟩ := u_known (C := RX10) (T := TX10) (N := 23) (n := 23) hts inX10 (hts (.instantiable RX10 23) (by decide +kernel))
  obtain ⟨a0, e0⟩ := lw_arr (ty := .int) (hts (.arrayClass .int) (by decide +kernel)) (fun _ h => h)
  obtain ⟨a1, e1⟩ := lw_arr (ty := .boolean) (hts (.arrayClass .boolean) (by decide +kernel)) (fun _ h => h)
  obtain ⟨a2, e2⟩ := lw_arrS (hts (.arrayOver (.object "FerryRamp$State")) (by decide +kernel))
  obtain ⟨a3, e3⟩ := lw_arr (ty := .long) (hts (.arrayClass .long) (by decide +kernel)) (fun _ h => h)
  refine ⟨(fun k => if k = 0 then c0 else if k = 1 then c1 else if k = 2 then c2 else if k = 3 then c3 else c4, fun k => if k = 0 then i0 else if k = 1 then i1 else if k = 2 then i2 else if k = 3 then i3 else i4), fun k => if k = 0 then a0 else if k = 1 then a1 else if k = 2 then a2 else a3, ⟨fun k q hq => ?_, fun k q hq => ?_⟩, ?_⟩
  · match k, hq with
    | 0, hq => cases hq; exact k0
    | 1, hq => cases hq; exact k1
    | 2, hq => cases hq; exact k2
    | 3, hq => cases hq; exact k3
    | 4, hq => cases hq; exact k4
    | k + 5, hq => simp [vwCl] at hq
  · match k, hq with
    | 0, hq => cases hq; exact e0
    | 1, hq => cases hq; exact e1
    | 2, hq => cases hq; exact e2
    | 3, hq => cases hq; exact e3
    | k + 4, hq => simp [kTys] at hq
  · exact ⟨va_Nw.of rfl (hts _ (by decide +kernel)), va_Nw.of rfl (hts _ (by decide +kernel)), va_Nw.of rfl (hts _ (by decide +kernel)), va_Nw.of rfl (hts _ (by decide +kernel)), va_Nw.of rfl (hts _ (by decide +kernel)), va_Nw.of rfl (hts _ (by decide +kernel))⟩
theorem lw_AO {s : State} {av : Array Value} (hts : ∀ w ∈ lw_tbl, w.before av s = true) : va_AO "FerryRamp$State" s := hts (.arrayOver (.object "FerryRamp$State")) (by decide +kernel)
