theorem lw_str {s : State} {av : Array Value} {A : Nat → Prop} (hts : ∀ w ∈ lw_tbl, w.before av s = true) (hf : ∀ w ∈ lFL, w.before av s = true) (hA : ∀ a : Nat, a < s.heap.size → ¬ A a) (i : Nat) (hi : i < 39) : ∃ q : Nat × Nat, vk_R (zO i) (zK i) (zX i) q.1 s ∧ kStr (zB i) q.1 q.2 A s s.heap := by
  obtain ⟨a, c, cA, kA, q1, q2, q3, q4, q5, q6, -⟩ := Cond.exactly_spec (args := av) (first := s) (o := none) (s := s) (idx := []) (t := zTm i) (cls := "java/lang/String") (hf _ (zw_ex i hi))
  obtain ⟨t, ht, hT⟩ := va_Tof (f := fun j => .int ((zB i).getD j 0)) (A := A) (Nat.lt_trans (zB_ok i hi).1 (by decide)) (hf _ (zw_ar i hi)) (va_eqt (hf _ (zw_le i hi))) (fun j hj => va_eqt (hf _ (zw_el i hi j hj))) hA
  exact ⟨(a, t), vk_R.of (hts _ (zw_sr i hi)) q1, ⟨cA, q3, q5, by rw [q6]; exact q2, hA a (Array.getElem?_eq_some_iff.mp q3).1⟩, vk_OFof q1 (va_eqt (hf _ (zw_co i hi))) hA, vk_OFof q1 ht hA, hT⟩
theorem lw_mZ {s : State} {av : Array Value} {A : Nat → Prop} (hts : ∀ w ∈ lw_tbl, w.before av s = true) (hf : ∀ w ∈ lFL, w.before av s = true) (hA : ∀ a : Nat, a < s.heap.size → ¬ A a) : ∃ za zv : Nat → Nat, mZ za zv A s s.heap := by
  have h0 : ∀ i : Nat, ∃ q : Nat × Nat, i < 39 → vk_R (zO i) (zK i) (zX i) q.1 s ∧ kStr (zB i) q.1 q.2 A s s.heap := by
    intro i
    by_cases hi : i < 39
    · obtain ⟨q, hq⟩ := lw_str hts hf hA i hi
      exact ⟨q, fun _ => hq⟩
    · exact ⟨(0, 0), fun h => absurd h hi⟩
  obtain ⟨ad, had⟩ := Classical.axiomOfChoice h0
  refine ⟨fun i => (ad i).1, fun i => (ad i).2, va_Zof (hts (.laysStatic "java/lang/String" "COMPACT_STRINGS" "Z") (by decide +kernel)) (hts (.initialized "java/lang/String") (by decide +kernel)) (va_eqt (hf (.eq (.static "java/lang/String" "COMPACT_STRINGS" "Z") (.int 1)) (by decide +kernel))) hA,
    va_Zqof (hts (.laysStatic "jdk/internal/util/Preconditions" "SIOOBE_FORMATTER" "Ljava/util/function/BiFunction;") (by decide +kernel)) (hts (.initialized "jdk/internal/util/Preconditions") (by decide +kernel)) (hf (.isRef (.static "jdk/internal/util/Preconditions" "SIOOBE_FORMATTER" "Ljava/util/function/BiFunction;")) (by decide +kernel)) hA,
    vx_Zqof (hts (.laysStatic Bundle.tN "UNASSIGNED_STACK" Bundle.steD) (by decide +kernel)) (hts (.initialized Bundle.tN) (by decide +kernel)) (hf (.isRef (.static Bundle.tN "UNASSIGNED_STACK" Bundle.steD)) (by decide +kernel)) hA,
    vx_Zqof (hts (.laysStatic Bundle.tN "SUPPRESSED_SENTINEL" Bundle.listD) (by decide +kernel)) (hts (.initialized Bundle.tN) (by decide +kernel)) (hf (.isRef (.static Bundle.tN "SUPPRESSED_SENTINEL" Bundle.listD)) (by decide +kernel)) hA,
    fun i hi => had i hi, fun E hE => va_Nw.of rfl (hts _ (zw_ca E hE)), fun y hy => va_Nw.of rfl (hts _ (zw_de y hy))⟩
theorem lw_arr {s : State} {av : Array Value} {ty : FieldType} (h : (Cond.arrayClass ty).before av s = true) (hn : ∀ cA : ClassId, s.vm.findClass ("[" ++ ty.toString) = some cA → va_RA s cA ty) : ∃ cA : ClassId, ArrOfT s cA ty ∧ va_RA s cA ty := by
  obtain ⟨cA, kA, comp, h1, h2, h3⟩ := Cond.arrayClass_spec (args := av) (first := s) (o := none) (s := s) (idx := []) h
  exact ⟨cA, fun n z => ⟨fun k h => (by cases h), kA, h2, comp, h3⟩, hn cA h1⟩
theorem lw_arrS {s : State} {av : Array Value} (h : (Cond.arrayOver (.object "FerryRamp$State")).before av s = true) : ∃ cA : ClassId, ArrOfT s cA (.object "FerryRamp$State") ∧ va_RA s cA (.object "FerryRamp$State") := by
  obtain ⟨comp, cA, kA, f1, f0, f2, f3, f4⟩ := Cond.arrayOver_spec (args := av) (first := s) (o := none) (idx := []) h
  exact ⟨cA, fun n z => ⟨fun k h => (by cases h), kA, f2, comp, f3⟩, kA, comp, f2, f3, f1, f4⟩
theorem lw_mY {s : State} {av : Array Value} {A : Nat → Prop} (hts : ∀ w ∈ lw_tbl, w.before av s = true) (hf : ∀ w ∈ lFL, w.before av s = true) (hA : ∀ a : Nat, a < s.heap.size → ¬ A a) {b L : Nat} {xs : Nat → Int32} (hX : va_X b L xs s s.heap) : ∃ Y : YB, mY Y A s s.heap ∧ Y.2.1 = b ∧ Y.2.2.1 = L := by
  obtain ⟨t1, e1, T1⟩ := va_Tof (tm := .static "java/lang/Integer" "DigitTens" "[B") (ty := .byte) (N := 100) (f := fun j => .int (dTe j)) (A := A) (by decide) (hf _ (List.mem_of_getElem? zd_tens0)) (va_eqt (hf _ (List.mem_of_getElem? zd_tens1))) (fun j hj => va_eqt (hf _ (List.mem_of_getElem? (zd_tens j hj)))) hA
  obtain ⟨t2, e2, T2⟩ := va_Tof (tm := .static "java/lang/Integer" "DigitOnes" "[B") (ty := .byte) (N := 100) (f := fun j => .int (dOn j)) (A := A) (by decide) (hf _ (List.mem_of_getElem? zd_ones0)) (va_eqt (hf _ (List.mem_of_getElem? zd_ones1))) (fun j hj => va_eqt (hf _ (List.mem_of_getElem? (zd_ones j hj)))) hA
  obtain ⟨scr, h1, h2, h3, h4, h5⟩ := hX
  have hb : b < s.heap.size := (Array.getElem?_eq_some_iff.mp h1).1
  refine ⟨(fun k => match k with | 0 => t1 | _ => t2, b, L, xs), ⟨va_Nw.of rfl (hts (.castable "[B" "java/lang/Cloneable") (by decide +kernel)), va_Zof (hts (.laysStatic "java/lang/Integer" "DigitTens" "[B") (by decide +kernel)) (hts (.initialized "java/lang/Integer") (by decide +kernel)) e1 hA, T1,
    va_Zof (hts (.laysStatic "java/lang/Integer" "DigitOnes" "[B") (by decide +kernel)) (hts (.initialized "java/lang/Integer") (by decide +kernel)) e2 hA, T2, scr, h1, h2, h3, Nat.le_of_eq h4.symm, congrArg Int32.ofNat h4, h5, hA b hb⟩, rfl, rfl⟩
theorem lw_mK {s : State} {av : Array Value} (hts3 : ∀ w ∈ lw_tb3, w.before av s = true) : ∃ (D : va_G) (cy : Nat → ClassId), mK D cy s := by
  have hts : ∀ w ∈ lw_tbl, w.before av s = true := fun w h => hts3 w (List.mem_append_left _ h)
  obtain ⟨c0, i0, k0⟩ := u_known (C := RX4) (T := TX4) (N := 3) (n := 3) hts3 inX4 (hts (.instantiable RX4 3) (by decide +kernel))
  obtain ⟨c1, i1, k1⟩ := u_known (C := RX6) (T := TX6) (N := 11) (n := 11) hts3 inX6 (hts (.instantiable RX6 11) (by decide +kernel))
  obtain ⟨c2, i2, k2⟩ := u_known (C := RX8) (T := TX8) (N := 13) (n := 13) hts3 inX8 (hts (.instantiable RX8 13) (by decide +kernel))
  obtain ⟨c3, i3, k3⟩ := u_known (C := RX9) (T := TX9) (N := 9) (n := 9) hts3 inX9 (hts (.instantiable RX9 9) (by decide +kernel))
  obtain ⟨c4, i4, k4⟩ := u_known (C := RL) (T := TL) (N := 4) (n := 4) hts3 inL (hts (.instantiable RL 4) (by decide +kernel))
  obtain ⟨c5, i5, k5⟩ := u_known (C := RJ4) (T := TJ4) (N := 4) (n := 4) hts3 inJ4 (hts (.instantiable RJ4 4) (by decide +kernel))
  obtain ⟨c6, i6, k6⟩ := u_known (C := RJ0) (T := TJ0) (N := 4) (n := 4) hts3 inJ0 (hts (.instantiable RJ0 4) (by decide +kernel))
  obtain ⟨a0, e0⟩ := lw_arr (ty := .int) (hts (.arrayClass .int) (by decide +kernel)) (fun _ h => h)
  obtain ⟨a1, e1⟩ := lw_arr (ty := .boolean) (hts (.arrayClass .boolean) (by decide +kernel)) (fun _ h => h)
  obtain ⟨a2, e2⟩ := lw_arrS (hts (.arrayOver (.object "FerryRamp$State")) (by decide +kernel))
  obtain ⟨a3, e3⟩ := lw_arr (ty := .byte) (hts (.arrayClass .byte) (by decide +kernel)) (fun _ h => h)
  refine ⟨(fun k => if k = 0 then c0 else if k = 1 then c1 else if k = 2 then c2 else if k = 3 then c3 else if k = 4 then c4 else if k = 5 then c5 else c6, fun k => if k = 0 then i0 else if k = 1 then i1 else if k = 2 then i2 else if k = 3 then i3 else if k = 4 then i4 else if k = 5 then i5 else i6), fun k => if k = 0 then a0 else if k = 1 then a1 else if k = 2 then a2 else a3, ⟨fun k q hq => ?_, fun k q hq => ?_⟩, ?_⟩
  · match k, hq with
    | 0, hq => cases hq; exact k0
    | 1, hq => cases hq; exact k1
    | 2, hq => cases hq; exact k2
    | 3, hq => cases hq; exact k3
    | 4, hq => cases hq; exact k4
    | 5, hq => cases hq; exact k5
    | 6, hq => cases hq; exact k6
    | k + 7, hq => simp [kCl] at hq
  · match k, hq with
    | 0, hq => cases hq; exact e0
    | 1, hq => cases hq; exact e1
    | 2, hq => cases hq; exact e2
    | 3, hq => cases hq; exact e3
    | k + 4, hq => simp [kTys] at hq
  · exact ⟨va_Nw.of rfl (hts _ (by decide +kernel)), va_Nw.of rfl (hts _ (by decide +kernel)), va_Nw.of rfl (hts _ (by decide +kernel)), va_Nw.of rfl (hts _ (by decide +kernel)), va_Nw.of rfl (hts _ (by decide +kernel)), va_Nw.of rfl (hts _ (by decide +kernel))⟩
theorem lw_AO {s : State} {av : Array Value} (hts : ∀ w ∈ lw_tbl, w.before av s = true) : va_AO "FerryRamp$State" s := hts (.arrayOver (.object "FerryRamp$State")) (by decide +kernel)
