/-! THE START: what the Statement gives of it: literals, statics, array classes, nest mates' links -/
def lFL : List Cond := flatC (Jvm.Cond.and given_1 narrow_1)
def zTm (i : Nat) : Term := Term.string (zO i) (zK i)
def zPl : List Nat := [214, 244, 254, 262, 271, 279, 287, 295, 303, 312, 320, 330, 336, 344, 353, 361, 371, 384, 392, 32, 40, 48, 56, 65, 74, 83, 91, 98, 106, 114, 122, 130, 142, 150, 158, 169, 179, 187, 196, 204, 427, 454, 473, 482, 522, 418, 436, 445, 463, 491, 501, 511, 536, 545, 554, 563, 575, 586, 595, 605, 614]
def zP (i : Nat) : Nat := zPl.getD i 0
theorem zq_ex : ∀ i, i < 61 → lFL[zP i]? = some (Cond.exactly (zTm i) "java/lang/String") := by decide +kernel
theorem zq_co : ∀ i, i < 61 → lFL[zP i + 1]? = some (Cond.eq (.field (zTm i) "java/lang/String" "coder" "B") (.int 0)) := by decide +kernel
theorem zq_ar : ∀ i, i < 61 → lFL[zP i + 2]? = some (Cond.arrayOf (.field (zTm i) "java/lang/String" "value" "[B") .byte) := by decide +kernel
theorem zq_le : ∀ i, i < 61 → lFL[zP i + 3]? = some (Cond.eq (.length (.field (zTm i) "java/lang/String" "value" "[B")) (.int (Int32.ofNat (zB i).length))) := by decide +kernel
theorem zq_e0 : ∀ i, i < 20 → ∀ j, j < (zB i).length → lFL[zP i + (4 + j)]? = some (Cond.eq (.elem (.field (zTm i) "java/lang/String" "value" "[B") (.int (Int32.ofNat j))) (.int ((zB i).getD j 0))) := by decide +kernel
theorem zq_e1 : ∀ i, i < 20 → ∀ j, j < (zB (20 + i)).length → lFL[zP (20 + i) + (4 + j)]? = some (Cond.eq (.elem (.field (zTm (20 + i)) "java/lang/String" "value" "[B") (.int (Int32.ofNat j))) (.int ((zB (20 + i)).getD j 0))) := by decide +kernel
theorem zq_e2 : ∀ i, i < 21 → ∀ j, j < (zB (40 + i)).length → lFL[zP (40 + i) + (4 + j)]? = some (Cond.eq (.elem (.field (zTm (40 + i)) "java/lang/String" "value" "[B") (.int (Int32.ofNat j))) (.int ((zB (40 + i)).getD j 0))) := by decide +kernel
theorem zq_el (i : Nat) (hi : i < 61) (j : Nat) (hj : j < (zB i).length) : lFL[zP i + (4 + j)]? = some (Cond.eq (.elem (.field (zTm i) "java/lang/String" "value" "[B") (.int (Int32.ofNat j))) (.int ((zB i).getD j 0))) := by
  rcases Nat.lt_or_ge i 20 with h | h
  · exact zq_e0 i h j hj
  · rcases Nat.lt_or_ge i 40 with h2 | h2
    · obtain ⟨d, rfl⟩ : ∃ d, i = 20 + d := ⟨i - 20, by omega⟩
      exact zq_e1 d (by omega) j hj
    · obtain ⟨d, rfl⟩ : ∃ d, i = 40 + d := ⟨i - 40, by omega⟩
      exact zq_e2 d (by omega) j hj
theorem zw_ex : ∀ i, i < 61 → Cond.exactly (zTm i) "java/lang/String" ∈ lFL := fun i hi => List.mem_of_getElem? (zq_ex i hi)
theorem zw_co : ∀ i, i < 61 → Cond.eq (.field (zTm i) "java/lang/String" "coder" "B") (.int 0) ∈ lFL := fun i hi => List.mem_of_getElem? (zq_co i hi)
theorem zw_ar : ∀ i, i < 61 → Cond.arrayOf (.field (zTm i) "java/lang/String" "value" "[B") .byte ∈ lFL := fun i hi => List.mem_of_getElem? (zq_ar i hi)
theorem zw_le : ∀ i, i < 61 → Cond.eq (.length (.field (zTm i) "java/lang/String" "value" "[B")) (.int (Int32.ofNat (zB i).length)) ∈ lFL := fun i hi => List.mem_of_getElem? (zq_le i hi)
theorem zw_el : ∀ i, i < 61 → ∀ j, j < (zB i).length → Cond.eq (.elem (.field (zTm i) "java/lang/String" "value" "[B") (.int (Int32.ofNat j))) (.int ((zB i).getD j 0)) ∈ lFL := fun i hi j hj => List.mem_of_getElem? (zq_el i hi j hj)
theorem zw_sr : ∀ i, i < 61 → Cond.stringRef (zO i) (zK i) (zX i) ∈ lw_tbl := by decide +kernel
theorem zw_ca : ∀ E ∈ xEx, Cond.castable E E ∈ lw_tbl := by decide +kernel
theorem zw_de : ∀ y ∈ xDe, Cond.declares y ∈ lw_tbl := by decide +kernel
