/-! THE START: what the Statement gives of it: literals, statics, array classes, nest mates' links -/
def lFL : List Cond := flatC (Jvm.Cond.and given_1 narrow_1)
def zTm (i : Nat) : Term := Term.string (zO i) (zK i)
def zPl : List Nat := [484, 474, 624, 640, 632, 649, 732, 657, 681, 698, 665, 675, 690, 706, 514, 522, 530, 538, 547, 556, 565, 573, 580, 588, 596, 604, 612, 351, 360, 370, 380, 390, 401, 411, 421, 432, 443, 457, 466]
def zP (i : Nat) : Nat := zPl.getD i 0
theorem zq_ex : ∀ i, i < 39 → lFL[zP i]? = some (Cond.exactly (zTm i) "java/lang/String") := by decide +kernel
theorem zq_co : ∀ i, i < 39 → lFL[zP i + 1]? = some (Cond.eq (.field (zTm i) "java/lang/String" "coder" "B") (.int 0)) := by decide +kernel
theorem zq_ar : ∀ i, i < 39 → lFL[zP i + 2]? = some (Cond.arrayOf (.field (zTm i) "java/lang/String" "value" "[B") .byte) := by decide +kernel
theorem zq_le : ∀ i, i < 39 → lFL[zP i + 3]? = some (Cond.eq (.length (.field (zTm i) "java/lang/String" "value" "[B")) (.int (Int32.ofNat (zB i).length))) := by decide +kernel
theorem zq_e0 : ∀ i, i < 20 → ∀ j, j < (zB i).length → lFL[zP i + (4 + j)]? = some (Cond.eq (.elem (.field (zTm i) "java/lang/String" "value" "[B") (.int (Int32.ofNat j))) (.int ((zB i).getD j 0))) := by decide +kernel
theorem zq_e1 : ∀ i, i < 19 → ∀ j, j < (zB (20 + i)).length → lFL[zP (20 + i) + (4 + j)]? = some (Cond.eq (.elem (.field (zTm (20 + i)) "java/lang/String" "value" "[B") (.int (Int32.ofNat j))) (.int ((zB (20 + i)).getD j 0))) := by decide +kernel
theorem zq_el (i : Nat) (hi : i < 39) (j : Nat) (hj : j < (zB i).length) : lFL[zP i + (4 + j)]? = some (Cond.eq (.elem (.field (zTm i) "java/lang/String" "value" "[B") (.int (Int32.ofNat j))) (.int ((zB i).getD j 0))) := by
  rcases Nat.lt_or_ge i 20 with h | h
  · exact zq_e0 i h j hj
  · obtain ⟨d, rfl⟩ : ∃ d, i = 20 + d := ⟨i - 20, by omega⟩
    exact zq_e1 d (by omega) j hj
theorem zw_ex : ∀ i, i < 39 → Cond.exactly (zTm i) "java/lang/String" ∈ lFL := fun i hi => List.mem_of_getElem? (zq_ex i hi)
theorem zw_co : ∀ i, i < 39 → Cond.eq (.field (zTm i) "java/lang/String" "coder" "B") (.int 0) ∈ lFL := fun i hi => List.mem_of_getElem? (zq_co i hi)
theorem zw_ar : ∀ i, i < 39 → Cond.arrayOf (.field (zTm i) "java/lang/String" "value" "[B") .byte ∈ lFL := fun i hi => List.mem_of_getElem? (zq_ar i hi)
theorem zw_le : ∀ i, i < 39 → Cond.eq (.length (.field (zTm i) "java/lang/String" "value" "[B")) (.int (Int32.ofNat (zB i).length)) ∈ lFL := fun i hi => List.mem_of_getElem? (zq_le i hi)
theorem zw_el : ∀ i, i < 39 → ∀ j, j < (zB i).length → Cond.eq (.elem (.field (zTm i) "java/lang/String" "value" "[B") (.int (Int32.ofNat j))) (.int ((zB i).getD j 0)) ∈ lFL := fun i hi j hj => List.mem_of_getElem? (zq_el i hi j hj)
theorem zw_sr : ∀ i, i < 39 → Cond.stringRef (zO i) (zK i) (zX i) ∈ lw_tbl := by decide +kernel
theorem zw_ca : ∀ E ∈ xEx, Cond.castable E E ∈ lw_tbl := by decide +kernel
theorem zw_de : ∀ y ∈ xDe, Cond.declares y ∈ lw_tbl := by decide +kernel
theorem zd_tens : ∀ j, j < 100 → lFL[115 + j]? = some (Cond.eq (.elem (.static "java/lang/Integer" "DigitTens" "[B") (.int (Int32.ofNat j))) (.int (dTe j))) := by decide +kernel
theorem zd_tens0 : lFL[113]? = some (Cond.arrayOf (.static "java/lang/Integer" "DigitTens" "[B") .byte) := by decide +kernel
theorem zd_tens1 : lFL[114]? = some (Cond.eq (.length (.static "java/lang/Integer" "DigitTens" "[B")) (.int 100)) := by decide +kernel
theorem zd_ones : ∀ j, j < 100 → lFL[12 + j]? = some (Cond.eq (.elem (.static "java/lang/Integer" "DigitOnes" "[B") (.int (Int32.ofNat j))) (.int (dOn j))) := by decide +kernel
theorem zd_ones0 : lFL[10]? = some (Cond.arrayOf (.static "java/lang/Integer" "DigitOnes" "[B") .byte) := by decide +kernel
theorem zd_ones1 : lFL[11]? = some (Cond.eq (.length (.static "java/lang/Integer" "DigitOnes" "[B")) (.int 100)) := by decide +kernel
