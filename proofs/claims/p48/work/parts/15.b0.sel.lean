/-! THE START: a hidden method of AbstractStringBuilder is what a StringBuilder's call selects -/
theorem lw_selS {s : State} {args : Array Value} {C : String} {z y : MethodName} (hz : (Cond.selects C z z).before args s = true) (hyz : z.cls = y.cls) (hy : y.cls ≠ "java/lang/invoke/MethodHandle" ∧ y.cls ≠ "java/lang/invoke/VarHandle")
    (hpriv : (Cond.privateMethod y).before args s = true) (hinst : (Cond.instanceMethod y).before args s = true) : (Cond.selects C y y).before args s = true := by
  obtain ⟨mk, methM, hnamed, hmethM, -, -⟩ := Cond.instanceMethod_spec hinst
  have hfound : s.methodFound? y.cls y.name y.desc = some mk := State.methodFound?_of_named hnamed hy
  have hsel : ∀ c, selectMethod {} s.vm c mk = .method mk := fun c => selectMethod_private hmethM (Cond.privateMethod_at hpriv mk methM hnamed hmethM)
  have hcy := findClass_of_methodNamed hnamed
  simp only [Cond.before, Cond.holds, Cond.value] at hz ⊢
  cases hc : s.vm.findClass C with
  | none => simp [hc] at hz
  | some c =>
    cases hr : s.methodFound? z.cls z.name z.desc with
    | none => simp [hc, hr] at hz
    | some r =>
      cases hm : s.methodNamed? z with
      | none => simp [hc, hr, hm] at hz
      | some mz =>
        have hcz := findClass_of_methodNamed hm
        rw [hyz] at hcz
        have hcls : mz.cls = mk.cls := Option.some.inj (hcz.symm.trans hcy)
        simp only [hc, hr, hm] at hz
        simp only [hfound, hnamed, hsel]
        cases hq : selectMethod {} s.vm c r with
        | method m' =>
          simp only [hq] at hz
          rw [← hcls]
          simp at hz ⊢
          exact hz.2
        | _ => simp [hq] at hz
def lw_sx : List MethodName := [yJ5_appendNull_278bc, yJ5_ensureCapacityInternal_d00df, yJ5_newCapacity_0f7a4, yJ5_putStringAt_47b60, yJ5_inflateIfNeededFor_a7421, yJ5_inflate_da8c8]
def lw_tb3 : List Cond := lw_tbl ++ lw_sx.map fun y => Cond.selects RJ4 y y
theorem lw_sx_ok : ∀ y ∈ lw_sx, RJ5 = y.cls ∧ (y.cls ≠ "java/lang/invoke/MethodHandle" ∧ y.cls ≠ "java/lang/invoke/VarHandle") ∧ Cond.privateMethod y ∈ tables_1 ∧ Cond.instanceMethod y ∈ tables_1 := by decide +kernel
theorem lw_sz : Cond.selects RJ4 yJ5_isLatin1_aae02 yJ5_isLatin1_aae02 ∈ tables_1 := by decide +kernel
theorem lw_hts3 {s : State} {args : Array Value} (hts : ∀ w ∈ lw_tbl, w.before args s = true) : ∀ w ∈ lw_tb3, w.before args s = true := by
  intro w hw
  rcases List.mem_append.mp hw with hw | hw
  · exact hts w hw
  · obtain ⟨y, hy, rfl⟩ := List.mem_map.mp hw
    obtain ⟨h1, h2, h3, h4⟩ := lw_sx_ok y hy
    exact lw_selS (hts _ (List.mem_append_right _ lw_sz)) h1 h2 (hts _ (List.mem_append_right _ h3)) (hts _ (List.mem_append_right _ h4))
