-- X4_remember
theorem inX4_remember_X4 : ∀ w ∈ u_ws RX4 TX4 3, w ∈ wsX4_remember := k_lays 26 rfl
theorem wHT_c0 (cy : Nat → ClassId) (hi : Nat) (hp : Nat) (hh : Nat → Nat) (aa : Nat → Nat → Nat) (h2 : Nat) (a2 : Nat → Nat) (u : HT) : (wHT cy hi hp hh aa h2 a2 u)[0]? = some (hi, .inr (0, [.ref hp, .int (hX u), .int (hY u)])) := fl_atj (l := wHTl cy hi hp hh aa h2 a2 u) (j := 0) (q := 0) rfl rfl rfl
theorem lkX4_remember_17 : Cond.fieldLink RX4 17 "FerryRamp$History" "next" "I" ∈ wsX4_remember := List.mem_of_getElem? (i := 1) rfl
theorem lkX4_remember_11 : Cond.fieldLink RX4 11 "FerryRamp$History" "past" "[LFerryRamp$State;" ∈ wsX4_remember := List.mem_of_getElem? (i := 2) rfl
theorem wHT_c1 (cy : Nat → ClassId) (hi : Nat) (hp : Nat) (hh : Nat → Nat) (aa : Nat → Nat → Nat) (h2 : Nat) (a2 : Nat → Nat) (u : HT) : (wHT cy hi hp hh aa h2 a2 u)[1]? = some (hp, .inl (cy 2, 8, .inr (.inr (.inr (.inr (fun i => some (hh (4 + i)))))))) := fl_atj (l := wHTl cy hi hp hh aa h2 a2 u) (j := 0) (q := 1) rfl rfl rfl
theorem hdX8_copyFrom : yX8_copyFrom.cls = RX8 ∧ yX8_copyFrom.cls ≠ "java/lang/invoke/MethodHandle" ∧ yX8_copyFrom.cls ≠ "java/lang/invoke/VarHandle" ∧ (parseMethodDescriptor yX8_copyFrom.desc).map (fun d => d.parameters.length) = some 1 := by decide +kernel
def wHT_r2_1 (cy : Nat → ClassId) (hi : Nat) (hp : Nat) (hh : Nat → Nat) (aa : Nat → Nat → Nat) (h2 : Nat) (a2 : Nat → Nat) (u : HT) : va_W := (([0, 3, 4, 5, 6, 7, 8, 9] : List Nat).filterMap (fun i => (wHTl cy hi hp hh aa h2 a2 u)[i]?)).flatten
theorem wHT_sel2_1 (cy : Nat → ClassId) (hi : Nat) (hp : Nat) (hh : Nat → Nat) (aa : Nat → Nat → Nat) (h2 : Nat) (a2 : Nat → Nat) (u : HT) : (wHT cy hi hp hh aa h2 a2 u).Perm (([wS cy (hh 4) (aa 4) (hq0 u), wS cy h2 a2 (hV u)] : List va_W).flatten ++ wHT_r2_1 cy hi hp hh aa h2 a2 u) := k_seln (l := wHTl cy hi hp hh aa h2 a2 u) (n := 10) [2, 1] [0, 3, 4, 5, 6, 7, 8, 9] rfl rfl (by decide)
theorem wHT_uns2_1_0 (cy : Nat → ClassId) (hi : Nat) (hp : Nat) (hh : Nat → Nat) (aa : Nat → Nat → Nat) (h2 : Nat) (a2 : Nat → Nat) (u : HT) (x : KS) : (wHT cy hi hp hh aa h2 a2 (iq0 u x)).Perm (([wS cy (hh 4) (aa 4) x, wS cy h2 a2 (hV u)] : List va_W).flatten ++ wHT_r2_1 cy hi hp hh aa h2 a2 u) := k_seln (l := wHTl cy hi hp hh aa h2 a2 (iq0 u x)) (n := 10) [2, 1] [0, 3, 4, 5, 6, 7, 8, 9] rfl rfl (by decide)
theorem wHT_s0_1 (cy : Nat → ClassId) (hi : Nat) (hp : Nat) (hh : Nat → Nat) (aa : Nat → Nat → Nat) (h2 : Nat) (a2 : Nat → Nat) (u : HT) (x : Int32) : (wHT cy hi hp hh aa h2 a2 u).set 0 (hi, .inr (0, ([.ref hp, .int (hX u), .int (hY u)]).set 1 (.int x))) = wHT cy hi hp hh aa h2 a2 (iX u x) := (fl_setj (l := wHTl cy hi hp hh aa h2 a2 u) (j := 0) (q := 0) (Bn := (wHTl cy hi hp hh aa h2 a2 (iX u x)).getD 0 []) rfl rfl (Nat.le_of_ble_eq_true rfl) rfl).trans rfl
theorem lkX4_remember_21 : Cond.fieldLink RX4 21 "FerryRamp$History" "many" "I" ∈ wsX4_remember := List.mem_of_getElem? (i := 3) rfl
theorem wHT_s0_2 (cy : Nat → ClassId) (hi : Nat) (hp : Nat) (hh : Nat → Nat) (aa : Nat → Nat → Nat) (h2 : Nat) (a2 : Nat → Nat) (u : HT) (x : Int32) : (wHT cy hi hp hh aa h2 a2 u).set 0 (hi, .inr (0, ([.ref hp, .int (hX u), .int (hY u)]).set 2 (.int x))) = wHT cy hi hp hh aa h2 a2 (iY u x) := (fl_setj (l := wHTl cy hi hp hh aa h2 a2 u) (j := 0) (q := 0) (Bn := (wHTl cy hi hp hh aa h2 a2 (iY u x)).getD 0 []) rfl rfl (Nat.le_of_ble_eq_true rfl) rfl).trans rfl
def wHT_r3_1 (cy : Nat → ClassId) (hi : Nat) (hp : Nat) (hh : Nat → Nat) (aa : Nat → Nat → Nat) (h2 : Nat) (a2 : Nat → Nat) (u : HT) : va_W := (([0, 2, 4, 5, 6, 7, 8, 9] : List Nat).filterMap (fun i => (wHTl cy hi hp hh aa h2 a2 u)[i]?)).flatten
theorem wHT_sel3_1 (cy : Nat → ClassId) (hi : Nat) (hp : Nat) (hh : Nat → Nat) (aa : Nat → Nat → Nat) (h2 : Nat) (a2 : Nat → Nat) (u : HT) : (wHT cy hi hp hh aa h2 a2 u).Perm (([wS cy (hh 5) (aa 5) (hq1 u), wS cy h2 a2 (hV u)] : List va_W).flatten ++ wHT_r3_1 cy hi hp hh aa h2 a2 u) := k_seln (l := wHTl cy hi hp hh aa h2 a2 u) (n := 10) [3, 1] [0, 2, 4, 5, 6, 7, 8, 9] rfl rfl (by decide)
theorem wHT_uns3_1_0 (cy : Nat → ClassId) (hi : Nat) (hp : Nat) (hh : Nat → Nat) (aa : Nat → Nat → Nat) (h2 : Nat) (a2 : Nat → Nat) (u : HT) (x : KS) : (wHT cy hi hp hh aa h2 a2 (iq1 u x)).Perm (([wS cy (hh 5) (aa 5) x, wS cy h2 a2 (hV u)] : List va_W).flatten ++ wHT_r3_1 cy hi hp hh aa h2 a2 u) := k_seln (l := wHTl cy hi hp hh aa h2 a2 (iq1 u x)) (n := 10) [3, 1] [0, 2, 4, 5, 6, 7, 8, 9] rfl rfl (by decide)
def wHT_r4_1 (cy : Nat → ClassId) (hi : Nat) (hp : Nat) (hh : Nat → Nat) (aa : Nat → Nat → Nat) (h2 : Nat) (a2 : Nat → Nat) (u : HT) : va_W := (([0, 2, 3, 5, 6, 7, 8, 9] : List Nat).filterMap (fun i => (wHTl cy hi hp hh aa h2 a2 u)[i]?)).flatten
theorem wHT_sel4_1 (cy : Nat → ClassId) (hi : Nat) (hp : Nat) (hh : Nat → Nat) (aa : Nat → Nat → Nat) (h2 : Nat) (a2 : Nat → Nat) (u : HT) : (wHT cy hi hp hh aa h2 a2 u).Perm (([wS cy (hh 6) (aa 6) (hq2 u), wS cy h2 a2 (hV u)] : List va_W).flatten ++ wHT_r4_1 cy hi hp hh aa h2 a2 u) := k_seln (l := wHTl cy hi hp hh aa h2 a2 u) (n := 10) [4, 1] [0, 2, 3, 5, 6, 7, 8, 9] rfl rfl (by decide)
theorem wHT_uns4_1_0 (cy : Nat → ClassId) (hi : Nat) (hp : Nat) (hh : Nat → Nat) (aa : Nat → Nat → Nat) (h2 : Nat) (a2 : Nat → Nat) (u : HT) (x : KS) : (wHT cy hi hp hh aa h2 a2 (iq2 u x)).Perm (([wS cy (hh 6) (aa 6) x, wS cy h2 a2 (hV u)] : List va_W).flatten ++ wHT_r4_1 cy hi hp hh aa h2 a2 u) := k_seln (l := wHTl cy hi hp hh aa h2 a2 (iq2 u x)) (n := 10) [4, 1] [0, 2, 3, 5, 6, 7, 8, 9] rfl rfl (by decide)
def wHT_r5_1 (cy : Nat → ClassId) (hi : Nat) (hp : Nat) (hh : Nat → Nat) (aa : Nat → Nat → Nat) (h2 : Nat) (a2 : Nat → Nat) (u : HT) : va_W := (([0, 2, 3, 4, 6, 7, 8, 9] : List Nat).filterMap (fun i => (wHTl cy hi hp hh aa h2 a2 u)[i]?)).flatten
theorem wHT_sel5_1 (cy : Nat → ClassId) (hi : Nat) (hp : Nat) (hh : Nat → Nat) (aa : Nat → Nat → Nat) (h2 : Nat) (a2 : Nat → Nat) (u : HT) : (wHT cy hi hp hh aa h2 a2 u).Perm (([wS cy (hh 7) (aa 7) (hq3 u), wS cy h2 a2 (hV u)] : List va_W).flatten ++ wHT_r5_1 cy hi hp hh aa h2 a2 u) := k_seln (l := wHTl cy hi hp hh aa h2 a2 u) (n := 10) [5, 1] [0, 2, 3, 4, 6, 7, 8, 9] rfl rfl (by decide)
theorem wHT_uns5_1_0 (cy : Nat → ClassId) (hi : Nat) (hp : Nat) (hh : Nat → Nat) (aa : Nat → Nat → Nat) (h2 : Nat) (a2 : Nat → Nat) (u : HT) (x : KS) : (wHT cy hi hp hh aa h2 a2 (iq3 u x)).Perm (([wS cy (hh 7) (aa 7) x, wS cy h2 a2 (hV u)] : List va_W).flatten ++ wHT_r5_1 cy hi hp hh aa h2 a2 u) := k_seln (l := wHTl cy hi hp hh aa h2 a2 (iq3 u x)) (n := 10) [5, 1] [0, 2, 3, 4, 6, 7, 8, 9] rfl rfl (by decide)
def wHT_r6_1 (cy : Nat → ClassId) (hi : Nat) (hp : Nat) (hh : Nat → Nat) (aa : Nat → Nat → Nat) (h2 : Nat) (a2 : Nat → Nat) (u : HT) : va_W := (([0, 2, 3, 4, 5, 7, 8, 9] : List Nat).filterMap (fun i => (wHTl cy hi hp hh aa h2 a2 u)[i]?)).flatten
theorem wHT_sel6_1 (cy : Nat → ClassId) (hi : Nat) (hp : Nat) (hh : Nat → Nat) (aa : Nat → Nat → Nat) (h2 : Nat) (a2 : Nat → Nat) (u : HT) : (wHT cy hi hp hh aa h2 a2 u).Perm (([wS cy (hh 8) (aa 8) (hq4 u), wS cy h2 a2 (hV u)] : List va_W).flatten ++ wHT_r6_1 cy hi hp hh aa h2 a2 u) := k_seln (l := wHTl cy hi hp hh aa h2 a2 u) (n := 10) [6, 1] [0, 2, 3, 4, 5, 7, 8, 9] rfl rfl (by decide)
theorem wHT_uns6_1_0 (cy : Nat → ClassId) (hi : Nat) (hp : Nat) (hh : Nat → Nat) (aa : Nat → Nat → Nat) (h2 : Nat) (a2 : Nat → Nat) (u : HT) (x : KS) : (wHT cy hi hp hh aa h2 a2 (iq4 u x)).Perm (([wS cy (hh 8) (aa 8) x, wS cy h2 a2 (hV u)] : List va_W).flatten ++ wHT_r6_1 cy hi hp hh aa h2 a2 u) := k_seln (l := wHTl cy hi hp hh aa h2 a2 (iq4 u x)) (n := 10) [6, 1] [0, 2, 3, 4, 5, 7, 8, 9] rfl rfl (by decide)
def wHT_r7_1 (cy : Nat → ClassId) (hi : Nat) (hp : Nat) (hh : Nat → Nat) (aa : Nat → Nat → Nat) (h2 : Nat) (a2 : Nat → Nat) (u : HT) : va_W := (([0, 2, 3, 4, 5, 6, 8, 9] : List Nat).filterMap (fun i => (wHTl cy hi hp hh aa h2 a2 u)[i]?)).flatten
theorem wHT_sel7_1 (cy : Nat → ClassId) (hi : Nat) (hp : Nat) (hh : Nat → Nat) (aa : Nat → Nat → Nat) (h2 : Nat) (a2 : Nat → Nat) (u : HT) : (wHT cy hi hp hh aa h2 a2 u).Perm (([wS cy (hh 9) (aa 9) (hq5 u), wS cy h2 a2 (hV u)] : List va_W).flatten ++ wHT_r7_1 cy hi hp hh aa h2 a2 u) := k_seln (l := wHTl cy hi hp hh aa h2 a2 u) (n := 10) [7, 1] [0, 2, 3, 4, 5, 6, 8, 9] rfl rfl (by decide)
theorem wHT_uns7_1_0 (cy : Nat → ClassId) (hi : Nat) (hp : Nat) (hh : Nat → Nat) (aa : Nat → Nat → Nat) (h2 : Nat) (a2 : Nat → Nat) (u : HT) (x : KS) : (wHT cy hi hp hh aa h2 a2 (iq5 u x)).Perm (([wS cy (hh 9) (aa 9) x, wS cy h2 a2 (hV u)] : List va_W).flatten ++ wHT_r7_1 cy hi hp hh aa h2 a2 u) := k_seln (l := wHTl cy hi hp hh aa h2 a2 (iq5 u x)) (n := 10) [7, 1] [0, 2, 3, 4, 5, 6, 8, 9] rfl rfl (by decide)
def wHT_r8_1 (cy : Nat → ClassId) (hi : Nat) (hp : Nat) (hh : Nat → Nat) (aa : Nat → Nat → Nat) (h2 : Nat) (a2 : Nat → Nat) (u : HT) : va_W := (([0, 2, 3, 4, 5, 6, 7, 9] : List Nat).filterMap (fun i => (wHTl cy hi hp hh aa h2 a2 u)[i]?)).flatten
theorem wHT_sel8_1 (cy : Nat → ClassId) (hi : Nat) (hp : Nat) (hh : Nat → Nat) (aa : Nat → Nat → Nat) (h2 : Nat) (a2 : Nat → Nat) (u : HT) : (wHT cy hi hp hh aa h2 a2 u).Perm (([wS cy (hh 10) (aa 10) (hq6 u), wS cy h2 a2 (hV u)] : List va_W).flatten ++ wHT_r8_1 cy hi hp hh aa h2 a2 u) := k_seln (l := wHTl cy hi hp hh aa h2 a2 u) (n := 10) [8, 1] [0, 2, 3, 4, 5, 6, 7, 9] rfl rfl (by decide)
theorem wHT_uns8_1_0 (cy : Nat → ClassId) (hi : Nat) (hp : Nat) (hh : Nat → Nat) (aa : Nat → Nat → Nat) (h2 : Nat) (a2 : Nat → Nat) (u : HT) (x : KS) : (wHT cy hi hp hh aa h2 a2 (iq6 u x)).Perm (([wS cy (hh 10) (aa 10) x, wS cy h2 a2 (hV u)] : List va_W).flatten ++ wHT_r8_1 cy hi hp hh aa h2 a2 u) := k_seln (l := wHTl cy hi hp hh aa h2 a2 (iq6 u x)) (n := 10) [8, 1] [0, 2, 3, 4, 5, 6, 7, 9] rfl rfl (by decide)
def wHT_r9_1 (cy : Nat → ClassId) (hi : Nat) (hp : Nat) (hh : Nat → Nat) (aa : Nat → Nat → Nat) (h2 : Nat) (a2 : Nat → Nat) (u : HT) : va_W := (([0, 2, 3, 4, 5, 6, 7, 8] : List Nat).filterMap (fun i => (wHTl cy hi hp hh aa h2 a2 u)[i]?)).flatten
theorem wHT_sel9_1 (cy : Nat → ClassId) (hi : Nat) (hp : Nat) (hh : Nat → Nat) (aa : Nat → Nat → Nat) (h2 : Nat) (a2 : Nat → Nat) (u : HT) : (wHT cy hi hp hh aa h2 a2 u).Perm (([wS cy (hh 11) (aa 11) (hq7 u), wS cy h2 a2 (hV u)] : List va_W).flatten ++ wHT_r9_1 cy hi hp hh aa h2 a2 u) := k_seln (l := wHTl cy hi hp hh aa h2 a2 u) (n := 10) [9, 1] [0, 2, 3, 4, 5, 6, 7, 8] rfl rfl (by decide)
theorem wHT_uns9_1_0 (cy : Nat → ClassId) (hi : Nat) (hp : Nat) (hh : Nat → Nat) (aa : Nat → Nat → Nat) (h2 : Nat) (a2 : Nat → Nat) (u : HT) (x : KS) : (wHT cy hi hp hh aa h2 a2 (iq7 u x)).Perm (([wS cy (hh 11) (aa 11) x, wS cy h2 a2 (hV u)] : List va_W).flatten ++ wHT_r9_1 cy hi hp hh aa h2 a2 u) := k_seln (l := wHTl cy hi hp hh aa h2 a2 (iq7 u x)) (n := 10) [9, 1] [0, 2, 3, 4, 5, 6, 7, 8] rfl rfl (by decide)
abbrev rmX4_remember : Room := { frames := 2, cells := 0, slots := 0, locals := 61 }
def fX4_remember_b0 (u : HT) : Option (HT) :=
  (if (hX u) < 0 then some u else (if 8 ≤ (hX u) then some u else grd (inb (hX u) 8) ((if (hX u) = 0 then bnd (fX8_copyFrom (hq0 u) (hV u)) (fun u37 => (if 8 ≤ (hY (iX (iq0 u u37) (((hX (iq0 u u37)) + 1) - ((hX (iq0 u u37)) + 1) / 8 * 8))) then some (iX (iq0 u u37) (((hX (iq0 u u37)) + 1) - ((hX (iq0 u u37)) + 1) / 8 * 8)) else some (iY (iX (iq0 u u37) (((hX (iq0 u u37)) + 1) - ((hX (iq0 u u37)) + 1) / 8 * 8)) ((hY (iX (iq0 u u37) (((hX (iq0 u u37)) + 1) - ((hX (iq0 u u37)) + 1) / 8 * 8))) + 1)))) else (if (hX u) = 1 then bnd (fX8_copyFrom (hq1 u) (hV u)) (fun u37 => (if 8 ≤ (hY (iX (iq1 u u37) (((hX (iq1 u u37)) + 1) - ((hX (iq1 u u37)) + 1) / 8 * 8))) then some (iX (iq1 u u37) (((hX (iq1 u u37)) + 1) - ((hX (iq1 u u37)) + 1) / 8 * 8)) else some (iY (iX (iq1 u u37) (((hX (iq1 u u37)) + 1) - ((hX (iq1 u u37)) + 1) / 8 * 8)) ((hY (iX (iq1 u u37) (((hX (iq1 u u37)) + 1) - ((hX (iq1 u u37)) + 1) / 8 * 8))) + 1)))) else (if (hX u) = 2 then bnd (fX8_copyFrom (hq2 u) (hV u)) (fun u37 => (if 8 ≤ (hY (iX (iq2 u u37) (((hX (iq2 u u37)) + 1) - ((hX (iq2 u u37)) + 1) / 8 * 8))) then some (iX (iq2 u u37) (((hX (iq2 u u37)) + 1) - ((hX (iq2 u u37)) + 1) / 8 * 8)) else some (iY (iX (iq2 u u37) (((hX (iq2 u u37)) + 1) - ((hX (iq2 u u37)) + 1) / 8 * 8)) ((hY (iX (iq2 u u37) (((hX (iq2 u u37)) + 1) - ((hX (iq2 u u37)) + 1) / 8 * 8))) + 1)))) else (if (hX u) = 3 then bnd (fX8_copyFrom (hq3 u) (hV u)) (fun u37 => (if 8 ≤ (hY (iX (iq3 u u37) (((hX (iq3 u u37)) + 1) - ((hX (iq3 u u37)) + 1) / 8 * 8))) then some (iX (iq3 u u37) (((hX (iq3 u u37)) + 1) - ((hX (iq3 u u37)) + 1) / 8 * 8)) else some (iY (iX (iq3 u u37) (((hX (iq3 u u37)) + 1) - ((hX (iq3 u u37)) + 1) / 8 * 8)) ((hY (iX (iq3 u u37) (((hX (iq3 u u37)) + 1) - ((hX (iq3 u u37)) + 1) / 8 * 8))) + 1)))) else (if (hX u) = 4 then bnd (fX8_copyFrom (hq4 u) (hV u)) (fun u37 => (if 8 ≤ (hY (iX (iq4 u u37) (((hX (iq4 u u37)) + 1) - ((hX (iq4 u u37)) + 1) / 8 * 8))) then some (iX (iq4 u u37) (((hX (iq4 u u37)) + 1) - ((hX (iq4 u u37)) + 1) / 8 * 8)) else some (iY (iX (iq4 u u37) (((hX (iq4 u u37)) + 1) - ((hX (iq4 u u37)) + 1) / 8 * 8)) ((hY (iX (iq4 u u37) (((hX (iq4 u u37)) + 1) - ((hX (iq4 u u37)) + 1) / 8 * 8))) + 1)))) else (if (hX u) = 5 then bnd (fX8_copyFrom (hq5 u) (hV u)) (fun u37 => (if 8 ≤ (hY (iX (iq5 u u37) (((hX (iq5 u u37)) + 1) - ((hX (iq5 u u37)) + 1) / 8 * 8))) then some (iX (iq5 u u37) (((hX (iq5 u u37)) + 1) - ((hX (iq5 u u37)) + 1) / 8 * 8)) else some (iY (iX (iq5 u u37) (((hX (iq5 u u37)) + 1) - ((hX (iq5 u u37)) + 1) / 8 * 8)) ((hY (iX (iq5 u u37) (((hX (iq5 u u37)) + 1) - ((hX (iq5 u u37)) + 1) / 8 * 8))) + 1)))) else (if (hX u) = 6 then bnd (fX8_copyFrom (hq6 u) (hV u)) (fun u37 => (if 8 ≤ (hY (iX (iq6 u u37) (((hX (iq6 u u37)) + 1) - ((hX (iq6 u u37)) + 1) / 8 * 8))) then some (iX (iq6 u u37) (((hX (iq6 u u37)) + 1) - ((hX (iq6 u u37)) + 1) / 8 * 8)) else some (iY (iX (iq6 u u37) (((hX (iq6 u u37)) + 1) - ((hX (iq6 u u37)) + 1) / 8 * 8)) ((hY (iX (iq6 u u37) (((hX (iq6 u u37)) + 1) - ((hX (iq6 u u37)) + 1) / 8 * 8))) + 1)))) else (if (hX u) = 7 then bnd (fX8_copyFrom (hq7 u) (hV u)) (fun u37 => (if 8 ≤ (hY (iX (iq7 u u37) (((hX (iq7 u u37)) + 1) - ((hX (iq7 u u37)) + 1) / 8 * 8))) then some (iX (iq7 u u37) (((hX (iq7 u u37)) + 1) - ((hX (iq7 u u37)) + 1) / 8 * 8)) else some (iY (iX (iq7 u u37) (((hX (iq7 u u37)) + 1) - ((hX (iq7 u u37)) + 1) / 8 * 8)) ((hY (iX (iq7 u u37) (((hX (iq7 u u37)) + 1) - ((hX (iq7 u u37)) + 1) / 8 * 8))) + 1)))) else none)))))))))))
set_option maxHeartbeats 4000000 in
set_option maxRecDepth 100000 in
theorem tX4_remember_b0 {p : Program} {l : Launch} {e : Env} {s : State} {m : MethodId} {args : Array Value} {below : List Frame} {meth : Method} {c : Code} {D : va_G} {cy : Nat → ClassId} {A : Nat → Prop} {hi : Nat} {hp : Nat} {hh : Nat → Nat} {aa : Nat → Nat → Nat} {h2 : Nat} {a2 : Nat → Nat} (K : HT → Prop) (E : mE D cy RX4 cX4_remember 3 none wsX4_remember A p s m args meth c)
     (u : HT) (H : Heap) (locs : List Loc) (ls : Array Slot) (hl : lv_has ls 3 [(0, .ref hi), (1, .ref h2)]) (hP : va_P D kCl (wHT cy hi hp hh aa h2 a2 u) H) (hD : va_D A (wHT cy hi hp hh aa h2 a2 u)) (hS : va_S A s.heap H locs) (h1 : Ok (fX4_remember_b0 u) K) :
    kW p l e rmX4_remember s m args below meth c H locs (va_Qv K (fun q => kPost D A (wHT cy hi hp hh aa h2 a2 q)) A) A 0 ls [] := by
  obtain ⟨hx, hb, hr, hml, hown, hts, hlocks, hK, hA⟩ := id E
  unfold fX4_remember_b0 at h1
  refine lv_aload_n hx hb dX4_remember_0 rfl (lv_at hl 0 rfl) ?_
  refine k_get (v := .int (hX u)) (C := RX4) (T := TX4) (N := 3) hx hb hts inX4_remember_X4 hown hK hP 0 (wHT_c0 _ _ _ _ _ _ _ _) rfl 1 (by decide) lkX4_remember_17 rfl dX4_remember_1 ?_
  refine lv_if_lt (tgt := 28) hx hb dX4_remember_4 (by decide) (fun c4 => ?_) (fun c4 => ?_)
  · replace h1 := Ok.pos c4 h1
    refine lv_null hx hb dX4_remember_28 ?_
    refine lv_astore_nN (lv' := [(2, .null), (0, .ref hi), (1, .ref h2)]) hx hb dX4_remember_29 rfl hl (by decide) rfl (fun ls hl => ?_)
    refine lv_aload_nN hx hb dX4_remember_30 rfl (lv_at hl 0 rfl) ?_
    refine lv_ifnonnullN hx hb dX4_remember_31 ?_
    exact kret_v hx hb hr hlocks hP hD hS h1 dX4_remember_34
  · replace h1 := Ok.neg c4 h1
    refine lv_aload_n hx hb dX4_remember_7 rfl (lv_at hl 0 rfl) ?_
    refine k_get (v := .int (hX u)) (C := RX4) (T := TX4) (N := 3) hx hb hts inX4_remember_X4 hown hK hP 0 (wHT_c0 _ _ _ _ _ _ _ _) rfl 1 (by decide) lkX4_remember_17 rfl dX4_remember_8 ?_
    refine lv_bipush (v := 8) hx hb dX4_remember_11 rfl ?_
    refine lv_icmp_ge (tgt := 28) hx hb dX4_remember_13 (by decide) (fun c13 => ?_) (fun c13 => ?_)
    · replace h1 := Ok.pos c13 h1
      refine lv_null hx hb dX4_remember_28 ?_
      refine lv_astore_nN (lv' := [(2, .null), (0, .ref hi), (1, .ref h2)]) hx hb dX4_remember_29 rfl hl (by decide) rfl (fun ls hl => ?_)
      refine lv_aload_nN hx hb dX4_remember_30 rfl (lv_at hl 0 rfl) ?_
      refine lv_ifnonnullN hx hb dX4_remember_31 ?_
      exact kret_v hx hb hr hlocks hP hD hS h1 dX4_remember_34
    · replace h1 := Ok.neg c13 h1
      refine lv_aload_n hx hb dX4_remember_16 rfl (lv_at hl 0 rfl) ?_
      refine k_get (v := .ref hp) (C := RX4) (T := TX4) (N := 3) hx hb hts inX4_remember_X4 hown hK hP 0 (wHT_c0 _ _ _ _ _ _ _ _) rfl 0 (by decide) lkX4_remember_11 rfl dX4_remember_17 ?_
      refine lv_aload_n hx hb dX4_remember_20 rfl (lv_at hl 0 rfl) ?_
      refine k_get (v := .int (hX u)) (C := RX4) (T := TX4) (N := 3) hx hb hts inX4_remember_X4 hown hK hP 0 (wHT_c0 _ _ _ _ _ _ _ _) rfl 1 (by decide) lkX4_remember_17 rfl dX4_remember_21 ?_
      have g24 := h1.grd1
      replace h1 := h1.grd2
      by_cases c24_0 : (hX u) = 0
      · replace h1 := Ok.pos c24_0 h1
        refine k_aald (v := .ref (hh 4)) hx hb hK hP 1 (wHT_c1 _ _ _ _ _ _ _ _) g24 (by rw [c24_0]; rfl) dX4_remember_24 ?_
        refine lv_goto (tgt := 29) hx hb dX4_remember_25 (by decide) ?_
        refine lv_astore_n (lv' := [(2, .ref (hh 4)), (0, .ref hi), (1, .ref h2)]) hx hb dX4_remember_29 rfl hl (by decide) rfl (fun ls hl => ?_)
        refine lv_aload_n hx hb dX4_remember_30 rfl (lv_at hl 0 rfl) ?_
        refine lv_ifnonnull (tgt := 35) hx hb dX4_remember_31 (by decide) ?_
        refine lv_aload_n hx hb dX4_remember_35 rfl (lv_at hl 0 rfl) ?_
        refine lv_aload_n hx hb dX4_remember_36 rfl (lv_at hl 2 rfl) ?_
        refine kc_vV (b := (hh 4)) (As := [.ref h2]) (rest := []) h1 ⟨hx, hb, hml, hown, hts⟩ (cX8_copyFromM l D cy (hh 4) (aa 4) h2 a2 H.size (hq0 u) (hV u)) (cwV 1 hts gX4_remember_X8_copyFrom rfl rfl rfl hdX8_copyFrom ⟨Nat.le_of_ble_eq_true rfl, Nat.le_of_ble_eq_true rfl⟩) hK (wHT_sel2_1 _ _ _ _ _ _ _ _) hP hD hS hA (q0 := 0) rfl rfl rfl hl.1 rfl (Nat.le_of_ble_eq_true rfl) dX4_remember_37 ⟨Nat.zero_le _, Nat.zero_le _⟩ (fun u37 H locs h1 hP hD hS => ?_)
        replace hP := kP_perm (wHT_uns2_1_0 cy hi hp hh aa h2 a2 u u37).symm hP
        replace hD := kD_perm (wHT_uns2_1_0 cy hi hp hh aa h2 a2 u u37).symm hD
        refine lv_aload_n hx hb dX4_remember_40 rfl (lv_at hl 1 rfl) ?_
        refine lv_aload_n hx hb dX4_remember_41 rfl (lv_at hl 1 rfl) ?_
        refine k_get (v := .int (hX (iq0 u u37))) (C := RX4) (T := TX4) (N := 3) hx hb hts inX4_remember_X4 hown hK hP 0 (wHT_c0 _ _ _ _ _ _ _ _) rfl 1 (by decide) lkX4_remember_17 rfl dX4_remember_42 ?_
        refine lv_iconst (v := 1) hx hb dX4_remember_45 rfl ?_
        refine lv_iadd hx hb dX4_remember_46 ?_
        refine lv_bipush (v := 8) hx hb dX4_remember_47 rfl ?_
        refine lv_irem hx hb dX4_remember_49 (by decide) ?_
        refine k_put (v := .int (((hX (iq0 u u37)) + 1) - ((hX (iq0 u u37)) + 1) / 8 * 8)) (ty := .int) (C := RX4) (T := TX4) (N := 3) hx hb hts inX4_remember_X4 tyX4 tyX4_ok nmX4 hown hK hP hD hS 0 (wHT_c0 _ _ _ _ _ _ _ _) rfl 1 (by decide) lkX4_remember_17 rfl (by decide +kernel) rfl rfl (Nat.le_of_ble_eq_true rfl) (ws' := wHT cy hi hp hh aa h2 a2 (iX (iq0 u u37) (((hX (iq0 u u37)) + 1) - ((hX (iq0 u u37)) + 1) / 8 * 8))) (wHT_s0_1 _ _ _ _ _ _ _ _ _) dX4_remember_50 (fun H locs hP hD hS => ?_)
        refine lv_aload_n hx hb dX4_remember_53 rfl (lv_at hl 1 rfl) ?_
        refine k_get (v := .int (hY (iX (iq0 u u37) (((hX (iq0 u u37)) + 1) - ((hX (iq0 u u37)) + 1) / 8 * 8)))) (C := RX4) (T := TX4) (N := 3) hx hb hts inX4_remember_X4 hown hK hP 0 (wHT_c0 _ _ _ _ _ _ _ _) rfl 2 (by decide) lkX4_remember_21 rfl dX4_remember_54 ?_
        refine lv_bipush (v := 8) hx hb dX4_remember_57 rfl ?_
        refine lv_icmp_ge (tgt := 72) hx hb dX4_remember_59 (by decide) (fun c59 => ?_) (fun c59 => ?_)
        · replace h1 := Ok.pos c59 h1
          exact kret_v hx hb hr hlocks hP hD hS h1 dX4_remember_72
        · replace h1 := Ok.neg c59 h1
          refine lv_aload_n hx hb dX4_remember_62 rfl (lv_at hl 1 rfl) ?_
          refine lv_dup hx hb dX4_remember_63 rfl ?_
          refine k_get (v := .int (hY (iX (iq0 u u37) (((hX (iq0 u u37)) + 1) - ((hX (iq0 u u37)) + 1) / 8 * 8)))) (C := RX4) (T := TX4) (N := 3) hx hb hts inX4_remember_X4 hown hK hP 0 (wHT_c0 _ _ _ _ _ _ _ _) rfl 2 (by decide) lkX4_remember_21 rfl dX4_remember_64 ?_
          refine lv_iconst (v := 1) hx hb dX4_remember_67 rfl ?_
          refine lv_iadd hx hb dX4_remember_68 ?_
          refine k_put (v := .int ((hY (iX (iq0 u u37) (((hX (iq0 u u37)) + 1) - ((hX (iq0 u u37)) + 1) / 8 * 8))) + 1)) (ty := .int) (C := RX4) (T := TX4) (N := 3) hx hb hts inX4_remember_X4 tyX4 tyX4_ok nmX4 hown hK hP hD hS 0 (wHT_c0 _ _ _ _ _ _ _ _) rfl 2 (by decide) lkX4_remember_21 rfl (by decide +kernel) rfl rfl (Nat.le_of_ble_eq_true rfl) (ws' := wHT cy hi hp hh aa h2 a2 (iY (iX (iq0 u u37) (((hX (iq0 u u37)) + 1) - ((hX (iq0 u u37)) + 1) / 8 * 8)) ((hY (iX (iq0 u u37) (((hX (iq0 u u37)) + 1) - ((hX (iq0 u u37)) + 1) / 8 * 8))) + 1))) (wHT_s0_2 _ _ _ _ _ _ _ _ _) dX4_remember_69 (fun H locs hP hD hS => ?_)
          exact kret_v hx hb hr hlocks hP hD hS h1 dX4_remember_72
      replace h1 := Ok.neg c24_0 h1
      by_cases c24_1 : (hX u) = 1
      · replace h1 := Ok.pos c24_1 h1
        refine k_aald (v := .ref (hh 5)) hx hb hK hP 1 (wHT_c1 _ _ _ _ _ _ _ _) g24 (by rw [c24_1]; rfl) dX4_remember_24 ?_
        refine lv_goto (tgt := 29) hx hb dX4_remember_25 (by decide) ?_
        refine lv_astore_n (lv' := [(2, .ref (hh 5)), (0, .ref hi), (1, .ref h2)]) hx hb dX4_remember_29 rfl hl (by decide) rfl (fun ls hl => ?_)
        refine lv_aload_n hx hb dX4_remember_30 rfl (lv_at hl 0 rfl) ?_
        refine lv_ifnonnull (tgt := 35) hx hb dX4_remember_31 (by decide) ?_
        refine lv_aload_n hx hb dX4_remember_35 rfl (lv_at hl 0 rfl) ?_
        refine lv_aload_n hx hb dX4_remember_36 rfl (lv_at hl 2 rfl) ?_
        refine kc_vV (b := (hh 5)) (As := [.ref h2]) (rest := []) h1 ⟨hx, hb, hml, hown, hts⟩ (cX8_copyFromM l D cy (hh 5) (aa 5) h2 a2 H.size (hq1 u) (hV u)) (cwV 1 hts gX4_remember_X8_copyFrom rfl rfl rfl hdX8_copyFrom ⟨Nat.le_of_ble_eq_true rfl, Nat.le_of_ble_eq_true rfl⟩) hK (wHT_sel3_1 _ _ _ _ _ _ _ _) hP hD hS hA (q0 := 0) rfl rfl rfl hl.1 rfl (Nat.le_of_ble_eq_true rfl) dX4_remember_37 ⟨Nat.zero_le _, Nat.zero_le _⟩ (fun u37 H locs h1 hP hD hS => ?_)
        replace hP := kP_perm (wHT_uns3_1_0 cy hi hp hh aa h2 a2 u u37).symm hP
        replace hD := kD_perm (wHT_uns3_1_0 cy hi hp hh aa h2 a2 u u37).symm hD
        refine lv_aload_n hx hb dX4_remember_40 rfl (lv_at hl 1 rfl) ?_
        refine lv_aload_n hx hb dX4_remember_41 rfl (lv_at hl 1 rfl) ?_
        refine k_get (v := .int (hX (iq1 u u37))) (C := RX4) (T := TX4) (N := 3) hx hb hts inX4_remember_X4 hown hK hP 0 (wHT_c0 _ _ _ _ _ _ _ _) rfl 1 (by decide) lkX4_remember_17 rfl dX4_remember_42 ?_
        refine lv_iconst (v := 1) hx hb dX4_remember_45 rfl ?_
        refine lv_iadd hx hb dX4_remember_46 ?_
        refine lv_bipush (v := 8) hx hb dX4_remember_47 rfl ?_
        refine lv_irem hx hb dX4_remember_49 (by decide) ?_
        refine k_put (v := .int (((hX (iq1 u u37)) + 1) - ((hX (iq1 u u37)) + 1) / 8 * 8)) (ty := .int) (C := RX4) (T := TX4) (N := 3) hx hb hts inX4_remember_X4 tyX4 tyX4_ok nmX4 hown hK hP hD hS 0 (wHT_c0 _ _ _ _ _ _ _ _) rfl 1 (by decide) lkX4_remember_17 rfl (by decide +kernel) rfl rfl (Nat.le_of_ble_eq_true rfl) (ws' := wHT cy hi hp hh aa h2 a2 (iX (iq1 u u37) (((hX (iq1 u u37)) + 1) - ((hX (iq1 u u37)) + 1) / 8 * 8))) (wHT_s0_1 _ _ _ _ _ _ _ _ _) dX4_remember_50 (fun H locs hP hD hS => ?_)
        refine lv_aload_n hx hb dX4_remember_53 rfl (lv_at hl 1 rfl) ?_
        refine k_get (v := .int (hY (iX (iq1 u u37) (((hX (iq1 u u37)) + 1) - ((hX (iq1 u u37)) + 1) / 8 * 8)))) (C := RX4) (T := TX4) (N := 3) hx hb hts inX4_remember_X4 hown hK hP 0 (wHT_c0 _ _ _ _ _ _ _ _) rfl 2 (by decide) lkX4_remember_21 rfl dX4_remember_54 ?_
        refine lv_bipush (v := 8) hx hb dX4_remember_57 rfl ?_
        refine lv_icmp_ge (tgt := 72) hx hb dX4_remember_59 (by decide) (fun c59 => ?_) (fun c59 => ?_)
        · replace h1 := Ok.pos c59 h1
          exact kret_v hx hb hr hlocks hP hD hS h1 dX4_remember_72
        · replace h1 := Ok.neg c59 h1
          refine lv_aload_n hx hb dX4_remember_62 rfl (lv_at hl 1 rfl) ?_
          refine lv_dup hx hb dX4_remember_63 rfl ?_
          refine k_get (v := .int (hY (iX (iq1 u u37) (((hX (iq1 u u37)) + 1) - ((hX (iq1 u u37)) + 1) / 8 * 8)))) (C := RX4) (T := TX4) (N := 3) hx hb hts inX4_remember_X4 hown hK hP 0 (wHT_c0 _ _ _ _ _ _ _ _) rfl 2 (by decide) lkX4_remember_21 rfl dX4_remember_64 ?_
          refine lv_iconst (v := 1) hx hb dX4_remember_67 rfl ?_
          refine lv_iadd hx hb dX4_remember_68 ?_
          refine k_put (v := .int ((hY (iX (iq1 u u37) (((hX (iq1 u u37)) + 1) - ((hX (iq1 u u37)) + 1) / 8 * 8))) + 1)) (ty := .int) (C := RX4) (T := TX4) (N := 3) hx hb hts inX4_remember_X4 tyX4 tyX4_ok nmX4 hown hK hP hD hS 0 (wHT_c0 _ _ _ _ _ _ _ _) rfl 2 (by decide) lkX4_remember_21 rfl (by decide +kernel) rfl rfl (Nat.le_of_ble_eq_true rfl) (ws' := wHT cy hi hp hh aa h2 a2 (iY (iX (iq1 u u37) (((hX (iq1 u u37)) + 1) - ((hX (iq1 u u37)) + 1) / 8 * 8)) ((hY (iX (iq1 u u37) (((hX (iq1 u u37)) + 1) - ((hX (iq1 u u37)) + 1) / 8 * 8))) + 1))) (wHT_s0_2 _ _ _ _ _ _ _ _ _) dX4_remember_69 (fun H locs hP hD hS => ?_)
          exact kret_v hx hb hr hlocks hP hD hS h1 dX4_remember_72
      replace h1 := Ok.neg c24_1 h1
      by_cases c24_2 : (hX u) = 2
      · replace h1 := Ok.pos c24_2 h1
        refine k_aald (v := .ref (hh 6)) hx hb hK hP 1 (wHT_c1 _ _ _ _ _ _ _ _) g24 (by rw [c24_2]; rfl) dX4_remember_24 ?_
        refine lv_goto (tgt := 29) hx hb dX4_remember_25 (by decide) ?_
        refine lv_astore_n (lv' := [(2, .ref (hh 6)), (0, .ref hi), (1, .ref h2)]) hx hb dX4_remember_29 rfl hl (by decide) rfl (fun ls hl => ?_)
        refine lv_aload_n hx hb dX4_remember_30 rfl (lv_at hl 0 rfl) ?_
        refine lv_ifnonnull (tgt := 35) hx hb dX4_remember_31 (by decide) ?_
        refine lv_aload_n hx hb dX4_remember_35 rfl (lv_at hl 0 rfl) ?_
        refine lv_aload_n hx hb dX4_remember_36 rfl (lv_at hl 2 rfl) ?_
        refine kc_vV (b := (hh 6)) (As := [.ref h2]) (rest := []) h1 ⟨hx, hb, hml, hown, hts⟩ (cX8_copyFromM l D cy (hh 6) (aa 6) h2 a2 H.size (hq2 u) (hV u)) (cwV 1 hts gX4_remember_X8_copyFrom rfl rfl rfl hdX8_copyFrom ⟨Nat.le_of_ble_eq_true rfl, Nat.le_of_ble_eq_true rfl⟩) hK (wHT_sel4_1 _ _ _ _ _ _ _ _) hP hD hS hA (q0 := 0) rfl rfl rfl hl.1 rfl (Nat.le_of_ble_eq_true rfl) dX4_remember_37 ⟨Nat.zero_le _, Nat.zero_le _⟩ (fun u37 H locs h1 hP hD hS => ?_)
        replace hP := kP_perm (wHT_uns4_1_0 cy hi hp hh aa h2 a2 u u37).symm hP
        replace hD := kD_perm (wHT_uns4_1_0 cy hi hp hh aa h2 a2 u u37).symm hD
        refine lv_aload_n hx hb dX4_remember_40 rfl (lv_at hl 1 rfl) ?_
        refine lv_aload_n hx hb dX4_remember_41 rfl (lv_at hl 1 rfl) ?_
        refine k_get (v := .int (hX (iq2 u u37))) (C := RX4) (T := TX4) (N := 3) hx hb hts inX4_remember_X4 hown hK hP 0 (wHT_c0 _ _ _ _ _ _ _ _) rfl 1 (by decide) lkX4_remember_17 rfl dX4_remember_42 ?_
        refine lv_iconst (v := 1) hx hb dX4_remember_45 rfl ?_
        refine lv_iadd hx hb dX4_remember_46 ?_
        refine lv_bipush (v := 8) hx hb dX4_remember_47 rfl ?_
        refine lv_irem hx hb dX4_remember_49 (by decide) ?_
        refine k_put (v := .int (((hX (iq2 u u37)) + 1) - ((hX (iq2 u u37)) + 1) / 8 * 8)) (ty := .int) (C := RX4) (T := TX4) (N := 3) hx hb hts inX4_remember_X4 tyX4 tyX4_ok nmX4 hown hK hP hD hS 0 (wHT_c0 _ _ _ _ _ _ _ _) rfl 1 (by decide) lkX4_remember_17 rfl (by decide +kernel) rfl rfl (Nat.le_of_ble_eq_true rfl) (ws' := wHT cy hi hp hh aa h2 a2 (iX (iq2 u u37) (((hX (iq2 u u37)) + 1) - ((hX (iq2 u u37)) + 1) / 8 * 8))) (wHT_s0_1 _ _ _ _ _ _ _ _ _) dX4_remember_50 (fun H locs hP hD hS => ?_)
        refine lv_aload_n hx hb dX4_remember_53 rfl (lv_at hl 1 rfl) ?_
        refine k_get (v := .int (hY (iX (iq2 u u37) (((hX (iq2 u u37)) + 1) - ((hX (iq2 u u37)) + 1) / 8 * 8)))) (C := RX4) (T := TX4) (N := 3) hx hb hts inX4_remember_X4 hown hK hP 0 (wHT_c0 _ _ _ _ _ _ _ _) rfl 2 (by decide) lkX4_remember_21 rfl dX4_remember_54 ?_
        refine lv_bipush (v := 8) hx hb dX4_remember_57 rfl ?_
        refine lv_icmp_ge (tgt := 72) hx hb dX4_remember_59 (by decide) (fun c59 => ?_) (fun c59 => ?_)
        · replace h1 := Ok.pos c59 h1
          exact kret_v hx hb hr hlocks hP hD hS h1 dX4_remember_72
        · replace h1 := Ok.neg c59 h1
          refine lv_aload_n hx hb dX4_remember_62 rfl (lv_at hl 1 rfl) ?_
          refine lv_dup hx hb dX4_remember_63 rfl ?_
          refine k_get (v := .int (hY (iX (iq2 u u37) (((hX (iq2 u u37)) + 1) - ((hX (iq2 u u37)) + 1) / 8 * 8)))) (C := RX4) (T := TX4) (N := 3) hx hb hts inX4_remember_X4 hown hK hP 0 (wHT_c0 _ _ _ _ _ _ _ _) rfl 2 (by decide) lkX4_remember_21 rfl dX4_remember_64 ?_
          refine lv_iconst (v := 1) hx hb dX4_remember_67 rfl ?_
          refine lv_iadd hx hb dX4_remember_68 ?_
          refine k_put (v := .int ((hY (iX (iq2 u u37) (((hX (iq2 u u37)) + 1) - ((hX (iq2 u u37)) + 1) / 8 * 8))) + 1)) (ty := .int) (C := RX4) (T := TX4) (N := 3) hx hb hts inX4_remember_X4 tyX4 tyX4_ok nmX4 hown hK hP hD hS 0 (wHT_c0 _ _ _ _ _ _ _ _) rfl 2 (by decide) lkX4_remember_21 rfl (by decide +kernel) rfl rfl (Nat.le_of_ble_eq_true rfl) (ws' := wHT cy hi hp hh aa h2 a2 (iY (iX (iq2 u u37) (((hX (iq2 u u37)) + 1) - ((hX (iq2 u u37)) + 1) / 8 * 8)) ((hY (iX (iq2 u u37) (((hX (iq2 u u37)) + 1) - ((hX (iq2 u u37)) + 1) / 8 * 8))) + 1))) (wHT_s0_2 _ _ _ _ _ _ _ _ _) dX4_remember_69 (fun H locs hP hD hS => ?_)
          exact kret_v hx hb hr hlocks hP hD hS h1 dX4_remember_72
      replace h1 := Ok.neg c24_2 h1
      by_cases c24_3 : (hX u) = 3
      · replace h1 := Ok.pos c24_3 h1
        refine k_aald (v := .ref (hh 7)) hx hb hK hP 1 (wHT_c1 _ _ _ _ _ _ _ _) g24 (by rw [c24_3]; rfl) dX4_remember_24 ?_
        refine lv_goto (tgt := 29) hx hb dX4_remember_25 (by decide) ?_
        refine lv_astore_n (lv' := [(2, .ref (hh 7)), (0, .ref hi), (1, .ref h2)]) hx hb dX4_remember_29 rfl hl (by decide) rfl (fun ls hl => ?_)
        refine lv_aload_n hx hb dX4_remember_30 rfl (lv_at hl 0 rfl) ?_
        refine lv_ifnonnull (tgt := 35) hx hb dX4_remember_31 (by decide) ?_
        refine lv_aload_n hx hb dX4_remember_35 rfl (lv_at hl 0 rfl) ?_
        refine lv_aload_n hx hb dX4_remember_36 rfl (lv_at hl 2 rfl) ?_
        refine kc_vV (b := (hh 7)) (As := [.ref h2]) (rest := []) h1 ⟨hx, hb, hml, hown, hts⟩ (cX8_copyFromM l D cy (hh 7) (aa 7) h2 a2 H.size (hq3 u) (hV u)) (cwV 1 hts gX4_remember_X8_copyFrom rfl rfl rfl hdX8_copyFrom ⟨Nat.le_of_ble_eq_true rfl, Nat.le_of_ble_eq_true rfl⟩) hK (wHT_sel5_1 _ _ _ _ _ _ _ _) hP hD hS hA (q0 := 0) rfl rfl rfl hl.1 rfl (Nat.le_of_ble_eq_true rfl) dX4_remember_37 ⟨Nat.zero_le _, Nat.zero_le _⟩ (fun u37 H locs h1 hP hD hS => ?_)
        replace hP := kP_perm (wHT_uns5_1_0 cy hi hp hh aa h2 a2 u u37).symm hP
        replace hD := kD_perm (wHT_uns5_1_0 cy hi hp hh aa h2 a2 u u37).symm hD
        refine lv_aload_n hx hb dX4_remember_40 rfl (lv_at hl 1 rfl) ?_
        refine lv_aload_n hx hb dX4_remember_41 rfl (lv_at hl 1 rfl) ?_
        refine k_get (v := .int (hX (iq3 u u37))) (C := RX4) (T := TX4) (N := 3) hx hb hts inX4_remember_X4 hown hK hP 0 (wHT_c0 _ _ _ _ _ _ _ _) rfl 1 (by decide) lkX4_remember_17 rfl dX4_remember_42 ?_
        refine lv_iconst (v := 1) hx hb dX4_remember_45 rfl ?_
        refine lv_iadd hx hb dX4_remember_46 ?_
        refine lv_bipush (v := 8) hx hb dX4_remember_47 rfl ?_
        refine lv_irem hx hb dX4_remember_49 (by decide) ?_
        refine k_put (v := .int (((hX (iq3 u u37)) + 1) - ((hX (iq3 u u37)) + 1) / 8 * 8)) (ty := .int) (C := RX4) (T := TX4) (N := 3) hx hb hts inX4_remember_X4 tyX4 tyX4_ok nmX4 hown hK hP hD hS 0 (wHT_c0 _ _ _ _ _ _ _ _) rfl 1 (by decide) lkX4_remember_17 rfl (by decide +kernel) rfl rfl (Nat.le_of_ble_eq_true rfl) (ws' := wHT cy hi hp hh aa h2 a2 (iX (iq3 u u37) (((hX (iq3 u u37)) + 1) - ((hX (iq3 u u37)) + 1) / 8 * 8))) (wHT_s0_1 _ _ _ _ _ _ _ _ _) dX4_remember_50 (fun H locs hP hD hS => ?_)
        refine lv_aload_n hx hb dX4_remember_53 rfl (lv_at hl 1 rfl) ?_
        refine k_get (v := .int (hY (iX (iq3 u u37) (((hX (iq3 u u37)) + 1) - ((hX (iq3 u u37)) + 1) / 8 * 8)))) (C := RX4) (T := TX4) (N := 3) hx hb hts inX4_remember_X4 hown hK hP 0 (wHT_c0 _ _ _ _ _ _ _ _) rfl 2 (by decide) lkX4_remember_21 rfl dX4_remember_54 ?_
        refine lv_bipush (v := 8) hx hb dX4_remember_57 rfl ?_
        refine lv_icmp_ge (tgt := 72) hx hb dX4_remember_59 (by decide) (fun c59 => ?_) (fun c59 => ?_)
        · replace h1 := Ok.pos c59 h1
          exact kret_v hx hb hr hlocks hP hD hS h1 dX4_remember_72
        · replace h1 := Ok.neg c59 h1
          refine lv_aload_n hx hb dX4_remember_62 rfl (lv_at hl 1 rfl) ?_
          refine lv_dup hx hb dX4_remember_63 rfl ?_
          refine k_get (v := .int (hY (iX (iq3 u u37) (((hX (iq3 u u37)) + 1) - ((hX (iq3 u u37)) + 1) / 8 * 8)))) (C := RX4) (T := TX4) (N := 3) hx hb hts inX4_remember_X4 hown hK hP 0 (wHT_c0 _ _ _ _ _ _ _ _) rfl 2 (by decide) lkX4_remember_21 rfl dX4_remember_64 ?_
          refine lv_iconst (v := 1) hx hb dX4_remember_67 rfl ?_
          refine lv_iadd hx hb dX4_remember_68 ?_
          refine k_put (v := .int ((hY (iX (iq3 u u37) (((hX (iq3 u u37)) + 1) - ((hX (iq3 u u37)) + 1) / 8 * 8))) + 1)) (ty := .int) (C := RX4) (T := TX4) (N := 3) hx hb hts inX4_remember_X4 tyX4 tyX4_ok nmX4 hown hK hP hD hS 0 (wHT_c0 _ _ _ _ _ _ _ _) rfl 2 (by decide) lkX4_remember_21 rfl (by decide +kernel) rfl rfl (Nat.le_of_ble_eq_true rfl) (ws' := wHT cy hi hp hh aa h2 a2 (iY (iX (iq3 u u37) (((hX (iq3 u u37)) + 1) - ((hX (iq3 u u37)) + 1) / 8 * 8)) ((hY (iX (iq3 u u37) (((hX (iq3 u u37)) + 1) - ((hX (iq3 u u37)) + 1) / 8 * 8))) + 1))) (wHT_s0_2 _ _ _ _ _ _ _ _ _) dX4_remember_69 (fun H locs hP hD hS => ?_)
          exact kret_v hx hb hr hlocks hP hD hS h1 dX4_remember_72
      replace h1 := Ok.neg c24_3 h1
      by_cases c24_4 : (hX u) = 4
      · replace h1 := Ok.pos c24_4 h1
        refine k_aald (v := .ref (hh 8)) hx hb hK hP 1 (wHT_c1 _ _ _ _ _ _ _ _) g24 (by rw [c24_4]; rfl) dX4_remember_24 ?_
        refine lv_goto (tgt := 29) hx hb dX4_remember_25 (by decide) ?_
        refine lv_astore_n (lv' := [(2, .ref (hh 8)), (0, .ref hi), (1, .ref h2)]) hx hb dX4_remember_29 rfl hl (by decide) rfl (fun ls hl => ?_)
        refine lv_aload_n hx hb dX4_remember_30 rfl (lv_at hl 0 rfl) ?_
        refine lv_ifnonnull (tgt := 35) hx hb dX4_remember_31 (by decide) ?_
        refine lv_aload_n hx hb dX4_remember_35 rfl (lv_at hl 0 rfl) ?_
        refine lv_aload_n hx hb dX4_remember_36 rfl (lv_at hl 2 rfl) ?_
        refine kc_vV (b := (hh 8)) (As := [.ref h2]) (rest := []) h1 ⟨hx, hb, hml, hown, hts⟩ (cX8_copyFromM l D cy (hh 8) (aa 8) h2 a2 H.size (hq4 u) (hV u)) (cwV 1 hts gX4_remember_X8_copyFrom rfl rfl rfl hdX8_copyFrom ⟨Nat.le_of_ble_eq_true rfl, Nat.le_of_ble_eq_true rfl⟩) hK (wHT_sel6_1 _ _ _ _ _ _ _ _) hP hD hS hA (q0 := 0) rfl rfl rfl hl.1 rfl (Nat.le_of_ble_eq_true rfl) dX4_remember_37 ⟨Nat.zero_le _, Nat.zero_le _⟩ (fun u37 H locs h1 hP hD hS => ?_)
        replace hP := kP_perm (wHT_uns6_1_0 cy hi hp hh aa h2 a2 u u37).symm hP
        replace hD := kD_perm (wHT_uns6_1_0 cy hi hp hh aa h2 a2 u u37).symm hD
        refine lv_aload_n hx hb dX4_remember_40 rfl (lv_at hl 1 rfl) ?_
        refine lv_aload_n hx hb dX4_remember_41 rfl (lv_at hl 1 rfl) ?_
        refine k_get (v := .int (hX (iq4 u u37))) (C := RX4) (T := TX4) (N := 3) hx hb hts inX4_remember_X4 hown hK hP 0 (wHT_c0 _ _ _ _ _ _ _ _) rfl 1 (by decide) lkX4_remember_17 rfl dX4_remember_42 ?_
        refine lv_iconst (v := 1) hx hb dX4_remember_45 rfl ?_
        refine lv_iadd hx hb dX4_remember_46 ?_
        refine lv_bipush (v := 8) hx hb dX4_remember_47 rfl ?_
        refine lv_irem hx hb dX4_remember_49 (by decide) ?_
        refine k_put (v := .int (((hX (iq4 u u37)) + 1) - ((hX (iq4 u u37)) + 1) / 8 * 8)) (ty := .int) (C := RX4) (T := TX4) (N := 3) hx hb hts inX4_remember_X4 tyX4 tyX4_ok nmX4 hown hK hP hD hS 0 (wHT_c0 _ _ _ _ _ _ _ _) rfl 1 (by decide) lkX4_remember_17 rfl (by decide +kernel) rfl rfl (Nat.le_of_ble_eq_true rfl) (ws' := wHT cy hi hp hh aa h2 a2 (iX (iq4 u u37) (((hX (iq4 u u37)) + 1) - ((hX (iq4 u u37)) + 1) / 8 * 8))) (wHT_s0_1 _ _ _ _ _ _ _ _ _) dX4_remember_50 (fun H locs hP hD hS => ?_)
        refine lv_aload_n hx hb dX4_remember_53 rfl (lv_at hl 1 rfl) ?_
        refine k_get (v := .int (hY (iX (iq4 u u37) (((hX (iq4 u u37)) + 1) - ((hX (iq4 u u37)) + 1) / 8 * 8)))) (C := RX4) (T := TX4) (N := 3) hx hb hts inX4_remember_X4 hown hK hP 0 (wHT_c0 _ _ _ _ _ _ _ _) rfl 2 (by decide) lkX4_remember_21 rfl dX4_remember_54 ?_
        refine lv_bipush (v := 8) hx hb dX4_remember_57 rfl ?_
        refine lv_icmp_ge (tgt := 72) hx hb dX4_remember_59 (by decide) (fun c59 => ?_) (fun c59 => ?_)
        · replace h1 := Ok.pos c59 h1
          exact kret_v hx hb hr hlocks hP hD hS h1 dX4_remember_72
        · replace h1 := Ok.neg c59 h1
          refine lv_aload_n hx hb dX4_remember_62 rfl (lv_at hl 1 rfl) ?_
          refine lv_dup hx hb dX4_remember_63 rfl ?_
          refine k_get (v := .int (hY (iX (iq4 u u37) (((hX (iq4 u u37)) + 1) - ((hX (iq4 u u37)) + 1) / 8 * 8)))) (C := RX4) (T := TX4) (N := 3) hx hb hts inX4_remember_X4 hown hK hP 0 (wHT_c0 _ _ _ _ _ _ _ _) rfl 2 (by decide) lkX4_remember_21 rfl dX4_remember_64 ?_
          refine lv_iconst (v := 1) hx hb dX4_remember_67 rfl ?_
          refine lv_iadd hx hb dX4_remember_68 ?_
          refine k_put (v := .int ((hY (iX (iq4 u u37) (((hX (iq4 u u37)) + 1) - ((hX (iq4 u u37)) + 1) / 8 * 8))) + 1)) (ty := .int) (C := RX4) (T := TX4) (N := 3) hx hb hts inX4_remember_X4 tyX4 tyX4_ok nmX4 hown hK hP hD hS 0 (wHT_c0 _ _ _ _ _ _ _ _) rfl 2 (by decide) lkX4_remember_21 rfl (by decide +kernel) rfl rfl (Nat.le_of_ble_eq_true rfl) (ws' := wHT cy hi hp hh aa h2 a2 (iY (iX (iq4 u u37) (((hX (iq4 u u37)) + 1) - ((hX (iq4 u u37)) + 1) / 8 * 8)) ((hY (iX (iq4 u u37) (((hX (iq4 u u37)) + 1) - ((hX (iq4 u u37)) + 1) / 8 * 8))) + 1))) (wHT_s0_2 _ _ _ _ _ _ _ _ _) dX4_remember_69 (fun H locs hP hD hS => ?_)
          exact kret_v hx hb hr hlocks hP hD hS h1 dX4_remember_72
      replace h1 := Ok.neg c24_4 h1
      by_cases c24_5 : (hX u) = 5
      · replace h1 := Ok.pos c24_5 h1
        refine k_aald (v := .ref (hh 9)) hx hb hK hP 1 (wHT_c1 _ _ _ _ _ _ _ _) g24 (by rw [c24_5]; rfl) dX4_remember_24 ?_
        refine lv_goto (tgt := 29) hx hb dX4_remember_25 (by decide) ?_
        refine lv_astore_n (lv' := [(2, .ref (hh 9)), (0, .ref hi), (1, .ref h2)]) hx hb dX4_remember_29 rfl hl (by decide) rfl (fun ls hl => ?_)
        refine lv_aload_n hx hb dX4_remember_30 rfl (lv_at hl 0 rfl) ?_
        refine lv_ifnonnull (tgt := 35) hx hb dX4_remember_31 (by decide) ?_
        refine lv_aload_n hx hb dX4_remember_35 rfl (lv_at hl 0 rfl) ?_
        refine lv_aload_n hx hb dX4_remember_36 rfl (lv_at hl 2 rfl) ?_
        refine kc_vV (b := (hh 9)) (As := [.ref h2]) (rest := []) h1 ⟨hx, hb, hml, hown, hts⟩ (cX8_copyFromM l D cy (hh 9) (aa 9) h2 a2 H.size (hq5 u) (hV u)) (cwV 1 hts gX4_remember_X8_copyFrom rfl rfl rfl hdX8_copyFrom ⟨Nat.le_of_ble_eq_true rfl, Nat.le_of_ble_eq_true rfl⟩) hK (wHT_sel7_1 _ _ _ _ _ _ _ _) hP hD hS hA (q0 := 0) rfl rfl rfl hl.1 rfl (Nat.le_of_ble_eq_true rfl) dX4_remember_37 ⟨Nat.zero_le _, Nat.zero_le _⟩ (fun u37 H locs h1 hP hD hS => ?_)
        replace hP := kP_perm (wHT_uns7_1_0 cy hi hp hh aa h2 a2 u u37).symm hP
        replace hD := kD_perm (wHT_uns7_1_0 cy hi hp hh aa h2 a2 u u37).symm hD
        refine lv_aload_n hx hb dX4_remember_40 rfl (lv_at hl 1 rfl) ?_
        refine lv_aload_n hx hb dX4_remember_41 rfl (lv_at hl 1 rfl) ?_
        refine k_get (v := .int (hX (iq5 u u37))) (C := RX4) (T := TX4) (N := 3) hx hb hts inX4_remember_X4 hown hK hP 0 (wHT_c0 _ _ _ _ _ _ _ _) rfl 1 (by decide) lkX4_remember_17 rfl dX4_remember_42 ?_
        refine lv_iconst (v := 1) hx hb dX4_remember_45 rfl ?_
        refine lv_iadd hx hb dX4_remember_46 ?_
        refine lv_bipush (v := 8) hx hb dX4_remember_47 rfl ?_
        refine lv_irem hx hb dX4_remember_49 (by decide) ?_
        refine k_put (v := .int (((hX (iq5 u u37)) + 1) - ((hX (iq5 u u37)) + 1) / 8 * 8)) (ty := .int) (C := RX4) (T := TX4) (N := 3) hx hb hts inX4_remember_X4 tyX4 tyX4_ok nmX4 hown hK hP hD hS 0 (wHT_c0 _ _ _ _ _ _ _ _) rfl 1 (by decide) lkX4_remember_17 rfl (by decide +kernel) rfl rfl (Nat.le_of_ble_eq_true rfl) (ws' := wHT cy hi hp hh aa h2 a2 (iX (iq5 u u37) (((hX (iq5 u u37)) + 1) - ((hX (iq5 u u37)) + 1) / 8 * 8))) (wHT_s0_1 _ _ _ _ _ _ _ _ _) dX4_remember_50 (fun H locs hP hD hS => ?_)
        refine lv_aload_n hx hb dX4_remember_53 rfl (lv_at hl 1 rfl) ?_
        refine k_get (v := .int (hY (iX (iq5 u u37) (((hX (iq5 u u37)) + 1) - ((hX (iq5 u u37)) + 1) / 8 * 8)))) (C := RX4) (T := TX4) (N := 3) hx hb hts inX4_remember_X4 hown hK hP 0 (wHT_c0 _ _ _ _ _ _ _ _) rfl 2 (by decide) lkX4_remember_21 rfl dX4_remember_54 ?_
        refine lv_bipush (v := 8) hx hb dX4_remember_57 rfl ?_
        refine lv_icmp_ge (tgt := 72) hx hb dX4_remember_59 (by decide) (fun c59 => ?_) (fun c59 => ?_)
        · replace h1 := Ok.pos c59 h1
          exact kret_v hx hb hr hlocks hP hD hS h1 dX4_remember_72
        · replace h1 := Ok.neg c59 h1
          refine lv_aload_n hx hb dX4_remember_62 rfl (lv_at hl 1 rfl) ?_
          refine lv_dup hx hb dX4_remember_63 rfl ?_
          refine k_get (v := .int (hY (iX (iq5 u u37) (((hX (iq5 u u37)) + 1) - ((hX (iq5 u u37)) + 1) / 8 * 8)))) (C := RX4) (T := TX4) (N := 3) hx hb hts inX4_remember_X4 hown hK hP 0 (wHT_c0 _ _ _ _ _ _ _ _) rfl 2 (by decide) lkX4_remember_21 rfl dX4_remember_64 ?_
          refine lv_iconst (v := 1) hx hb dX4_remember_67 rfl ?_
          refine lv_iadd hx hb dX4_remember_68 ?_
          refine k_put (v := .int ((hY (iX (iq5 u u37) (((hX (iq5 u u37)) + 1) - ((hX (iq5 u u37)) + 1) / 8 * 8))) + 1)) (ty := .int) (C := RX4) (T := TX4) (N := 3) hx hb hts inX4_remember_X4 tyX4 tyX4_ok nmX4 hown hK hP hD hS 0 (wHT_c0 _ _ _ _ _ _ _ _) rfl 2 (by decide) lkX4_remember_21 rfl (by decide +kernel) rfl rfl (Nat.le_of_ble_eq_true rfl) (ws' := wHT cy hi hp hh aa h2 a2 (iY (iX (iq5 u u37) (((hX (iq5 u u37)) + 1) - ((hX (iq5 u u37)) + 1) / 8 * 8)) ((hY (iX (iq5 u u37) (((hX (iq5 u u37)) + 1) - ((hX (iq5 u u37)) + 1) / 8 * 8))) + 1))) (wHT_s0_2 _ _ _ _ _ _ _ _ _) dX4_remember_69 (fun H locs hP hD hS => ?_)
          exact kret_v hx hb hr hlocks hP hD hS h1 dX4_remember_72
      replace h1 := Ok.neg c24_5 h1
      by_cases c24_6 : (hX u) = 6
      · replace h1 := Ok.pos c24_6 h1
        refine k_aald (v := .ref (hh 10)) hx hb hK hP 1 (wHT_c1 _ _ _ _ _ _ _ _) g24 (by rw [c24_6]; rfl) dX4_remember_24 ?_
        refine lv_goto (tgt := 29) hx hb dX4_remember_25 (by decide) ?_
        refine lv_astore_n (lv' := [(2, .ref (hh 10)), (0, .ref hi), (1, .ref h2)]) hx hb dX4_remember_29 rfl hl (by decide) rfl (fun ls hl => ?_)
        refine lv_aload_n hx hb dX4_remember_30 rfl (lv_at hl 0 rfl) ?_
        refine lv_ifnonnull (tgt := 35) hx hb dX4_remember_31 (by decide) ?_
        refine lv_aload_n hx hb dX4_remember_35 rfl (lv_at hl 0 rfl) ?_
        refine lv_aload_n hx hb dX4_remember_36 rfl (lv_at hl 2 rfl) ?_
        refine kc_vV (b := (hh 10)) (As := [.ref h2]) (rest := []) h1 ⟨hx, hb, hml, hown, hts⟩ (cX8_copyFromM l D cy (hh 10) (aa 10) h2 a2 H.size (hq6 u) (hV u)) (cwV 1 hts gX4_remember_X8_copyFrom rfl rfl rfl hdX8_copyFrom ⟨Nat.le_of_ble_eq_true rfl, Nat.le_of_ble_eq_true rfl⟩) hK (wHT_sel8_1 _ _ _ _ _ _ _ _) hP hD hS hA (q0 := 0) rfl rfl rfl hl.1 rfl (Nat.le_of_ble_eq_true rfl) dX4_remember_37 ⟨Nat.zero_le _, Nat.zero_le _⟩ (fun u37 H locs h1 hP hD hS => ?_)
        replace hP := kP_perm (wHT_uns8_1_0 cy hi hp hh aa h2 a2 u u37).symm hP
        replace hD := kD_perm (wHT_uns8_1_0 cy hi hp hh aa h2 a2 u u37).symm hD
        refine lv_aload_n hx hb dX4_remember_40 rfl (lv_at hl 1 rfl) ?_
        refine lv_aload_n hx hb dX4_remember_41 rfl (lv_at hl 1 rfl) ?_
        refine k_get (v := .int (hX (iq6 u u37))) (C := RX4) (T := TX4) (N := 3) hx hb hts inX4_remember_X4 hown hK hP 0 (wHT_c0 _ _ _ _ _ _ _ _) rfl 1 (by decide) lkX4_remember_17 rfl dX4_remember_42 ?_
        refine lv_iconst (v := 1) hx hb dX4_remember_45 rfl ?_
        refine lv_iadd hx hb dX4_remember_46 ?_
        refine lv_bipush (v := 8) hx hb dX4_remember_47 rfl ?_
        refine lv_irem hx hb dX4_remember_49 (by decide) ?_
        refine k_put (v := .int (((hX (iq6 u u37)) + 1) - ((hX (iq6 u u37)) + 1) / 8 * 8)) (ty := .int) (C := RX4) (T := TX4) (N := 3) hx hb hts inX4_remember_X4 tyX4 tyX4_ok nmX4 hown hK hP hD hS 0 (wHT_c0 _ _ _ _ _ _ _ _) rfl 1 (by decide) lkX4_remember_17 rfl (by decide +kernel) rfl rfl (Nat.le_of_ble_eq_true rfl) (ws' := wHT cy hi hp hh aa h2 a2 (iX (iq6 u u37) (((hX (iq6 u u37)) + 1) - ((hX (iq6 u u37)) + 1) / 8 * 8))) (wHT_s0_1 _ _ _ _ _ _ _ _ _) dX4_remember_50 (fun H locs hP hD hS => ?_)
        refine lv_aload_n hx hb dX4_remember_53 rfl (lv_at hl 1 rfl) ?_
        refine k_get (v := .int (hY (iX (iq6 u u37) (((hX (iq6 u u37)) + 1) - ((hX (iq6 u u37)) + 1) / 8 * 8)))) (C := RX4) (T := TX4) (N := 3) hx hb hts inX4_remember_X4 hown hK hP 0 (wHT_c0 _ _ _ _ _ _ _ _) rfl 2 (by decide) lkX4_remember_21 rfl dX4_remember_54 ?_
        refine lv_bipush (v := 8) hx hb dX4_remember_57 rfl ?_
        refine lv_icmp_ge (tgt := 72) hx hb dX4_remember_59 (by decide) (fun c59 => ?_) (fun c59 => ?_)
        · replace h1 := Ok.pos c59 h1
          exact kret_v hx hb hr hlocks hP hD hS h1 dX4_remember_72
        · replace h1 := Ok.neg c59 h1
          refine lv_aload_n hx hb dX4_remember_62 rfl (lv_at hl 1 rfl) ?_
          refine lv_dup hx hb dX4_remember_63 rfl ?_
          refine k_get (v := .int (hY (iX (iq6 u u37) (((hX (iq6 u u37)) + 1) - ((hX (iq6 u u37)) + 1) / 8 * 8)))) (C := RX4) (T := TX4) (N := 3) hx hb hts inX4_remember_X4 hown hK hP 0 (wHT_c0 _ _ _ _ _ _ _ _) rfl 2 (by decide) lkX4_remember_21 rfl dX4_remember_64 ?_
          refine lv_iconst (v := 1) hx hb dX4_remember_67 rfl ?_
          refine lv_iadd hx hb dX4_remember_68 ?_
          refine k_put (v := .int ((hY (iX (iq6 u u37) (((hX (iq6 u u37)) + 1) - ((hX (iq6 u u37)) + 1) / 8 * 8))) + 1)) (ty := .int) (C := RX4) (T := TX4) (N := 3) hx hb hts inX4_remember_X4 tyX4 tyX4_ok nmX4 hown hK hP hD hS 0 (wHT_c0 _ _ _ _ _ _ _ _) rfl 2 (by decide) lkX4_remember_21 rfl (by decide +kernel) rfl rfl (Nat.le_of_ble_eq_true rfl) (ws' := wHT cy hi hp hh aa h2 a2 (iY (iX (iq6 u u37) (((hX (iq6 u u37)) + 1) - ((hX (iq6 u u37)) + 1) / 8 * 8)) ((hY (iX (iq6 u u37) (((hX (iq6 u u37)) + 1) - ((hX (iq6 u u37)) + 1) / 8 * 8))) + 1))) (wHT_s0_2 _ _ _ _ _ _ _ _ _) dX4_remember_69 (fun H locs hP hD hS => ?_)
          exact kret_v hx hb hr hlocks hP hD hS h1 dX4_remember_72
      replace h1 := Ok.neg c24_6 h1
      by_cases c24_7 : (hX u) = 7
      · replace h1 := Ok.pos c24_7 h1
        refine k_aald (v := .ref (hh 11)) hx hb hK hP 1 (wHT_c1 _ _ _ _ _ _ _ _) g24 (by rw [c24_7]; rfl) dX4_remember_24 ?_
        refine lv_goto (tgt := 29) hx hb dX4_remember_25 (by decide) ?_
        refine lv_astore_n (lv' := [(2, .ref (hh 11)), (0, .ref hi), (1, .ref h2)]) hx hb dX4_remember_29 rfl hl (by decide) rfl (fun ls hl => ?_)
        refine lv_aload_n hx hb dX4_remember_30 rfl (lv_at hl 0 rfl) ?_
        refine lv_ifnonnull (tgt := 35) hx hb dX4_remember_31 (by decide) ?_
        refine lv_aload_n hx hb dX4_remember_35 rfl (lv_at hl 0 rfl) ?_
        refine lv_aload_n hx hb dX4_remember_36 rfl (lv_at hl 2 rfl) ?_
        refine kc_vV (b := (hh 11)) (As := [.ref h2]) (rest := []) h1 ⟨hx, hb, hml, hown, hts⟩ (cX8_copyFromM l D cy (hh 11) (aa 11) h2 a2 H.size (hq7 u) (hV u)) (cwV 1 hts gX4_remember_X8_copyFrom rfl rfl rfl hdX8_copyFrom ⟨Nat.le_of_ble_eq_true rfl, Nat.le_of_ble_eq_true rfl⟩) hK (wHT_sel9_1 _ _ _ _ _ _ _ _) hP hD hS hA (q0 := 0) rfl rfl rfl hl.1 rfl (Nat.le_of_ble_eq_true rfl) dX4_remember_37 ⟨Nat.zero_le _, Nat.zero_le _⟩ (fun u37 H locs h1 hP hD hS => ?_)
        replace hP := kP_perm (wHT_uns9_1_0 cy hi hp hh aa h2 a2 u u37).symm hP
        replace hD := kD_perm (wHT_uns9_1_0 cy hi hp hh aa h2 a2 u u37).symm hD
        refine lv_aload_n hx hb dX4_remember_40 rfl (lv_at hl 1 rfl) ?_
        refine lv_aload_n hx hb dX4_remember_41 rfl (lv_at hl 1 rfl) ?_
        refine k_get (v := .int (hX (iq7 u u37))) (C := RX4) (T := TX4) (N := 3) hx hb hts inX4_remember_X4 hown hK hP 0 (wHT_c0 _ _ _ _ _ _ _ _) rfl 1 (by decide) lkX4_remember_17 rfl dX4_remember_42 ?_
        refine lv_iconst (v := 1) hx hb dX4_remember_45 rfl ?_
        refine lv_iadd hx hb dX4_remember_46 ?_
        refine lv_bipush (v := 8) hx hb dX4_remember_47 rfl ?_
        refine lv_irem hx hb dX4_remember_49 (by decide) ?_
        refine k_put (v := .int (((hX (iq7 u u37)) + 1) - ((hX (iq7 u u37)) + 1) / 8 * 8)) (ty := .int) (C := RX4) (T := TX4) (N := 3) hx hb hts inX4_remember_X4 tyX4 tyX4_ok nmX4 hown hK hP hD hS 0 (wHT_c0 _ _ _ _ _ _ _ _) rfl 1 (by decide) lkX4_remember_17 rfl (by decide +kernel) rfl rfl (Nat.le_of_ble_eq_true rfl) (ws' := wHT cy hi hp hh aa h2 a2 (iX (iq7 u u37) (((hX (iq7 u u37)) + 1) - ((hX (iq7 u u37)) + 1) / 8 * 8))) (wHT_s0_1 _ _ _ _ _ _ _ _ _) dX4_remember_50 (fun H locs hP hD hS => ?_)
        refine lv_aload_n hx hb dX4_remember_53 rfl (lv_at hl 1 rfl) ?_
        refine k_get (v := .int (hY (iX (iq7 u u37) (((hX (iq7 u u37)) + 1) - ((hX (iq7 u u37)) + 1) / 8 * 8)))) (C := RX4) (T := TX4) (N := 3) hx hb hts inX4_remember_X4 hown hK hP 0 (wHT_c0 _ _ _ _ _ _ _ _) rfl 2 (by decide) lkX4_remember_21 rfl dX4_remember_54 ?_
        refine lv_bipush (v := 8) hx hb dX4_remember_57 rfl ?_
        refine lv_icmp_ge (tgt := 72) hx hb dX4_remember_59 (by decide) (fun c59 => ?_) (fun c59 => ?_)
        · replace h1 := Ok.pos c59 h1
          exact kret_v hx hb hr hlocks hP hD hS h1 dX4_remember_72
        · replace h1 := Ok.neg c59 h1
          refine lv_aload_n hx hb dX4_remember_62 rfl (lv_at hl 1 rfl) ?_
          refine lv_dup hx hb dX4_remember_63 rfl ?_
          refine k_get (v := .int (hY (iX (iq7 u u37) (((hX (iq7 u u37)) + 1) - ((hX (iq7 u u37)) + 1) / 8 * 8)))) (C := RX4) (T := TX4) (N := 3) hx hb hts inX4_remember_X4 hown hK hP 0 (wHT_c0 _ _ _ _ _ _ _ _) rfl 2 (by decide) lkX4_remember_21 rfl dX4_remember_64 ?_
          refine lv_iconst (v := 1) hx hb dX4_remember_67 rfl ?_
          refine lv_iadd hx hb dX4_remember_68 ?_
          refine k_put (v := .int ((hY (iX (iq7 u u37) (((hX (iq7 u u37)) + 1) - ((hX (iq7 u u37)) + 1) / 8 * 8))) + 1)) (ty := .int) (C := RX4) (T := TX4) (N := 3) hx hb hts inX4_remember_X4 tyX4 tyX4_ok nmX4 hown hK hP hD hS 0 (wHT_c0 _ _ _ _ _ _ _ _) rfl 2 (by decide) lkX4_remember_21 rfl (by decide +kernel) rfl rfl (Nat.le_of_ble_eq_true rfl) (ws' := wHT cy hi hp hh aa h2 a2 (iY (iX (iq7 u u37) (((hX (iq7 u u37)) + 1) - ((hX (iq7 u u37)) + 1) / 8 * 8)) ((hY (iX (iq7 u u37) (((hX (iq7 u u37)) + 1) - ((hX (iq7 u u37)) + 1) / 8 * 8))) + 1))) (wHT_s0_2 _ _ _ _ _ _ _ _ _) dX4_remember_69 (fun H locs hP hD hS => ?_)
          exact kret_v hx hb hr hlocks hP hD hS h1 dX4_remember_72
      replace h1 := Ok.neg c24_7 h1
      exact h1.no
def fX4_remember (u : HT) : Option (HT) := fX4_remember_b0 u
set_option maxHeartbeats 4000000 in
set_option maxRecDepth 100000 in
theorem cX4_rememberM (l : Launch) (D : va_G) (cy : Nat → ClassId) (hi : Nat) (hp : Nat) (hh : Nat → Nat) (aa : Nat → Nat → Nat) (h2 : Nat) (a2 : Nat → Nat) (sz : Nat) (u : HT) : ∀ (K : HT → Prop), Ok (fX4_remember u) K → Met l yX4_remember wsX4_remember rmX4_remember (va_Pc [.ref hi, .ref h2] (kPre D cy sz (wHT cy hi hp hh aa h2 a2 u))) (va_Qv K (fun q => kPost D (va_A (wHT cy hi hp hh aa h2 a2 u) sz) (wHT cy hi hp hh aa h2 a2 q)) (va_A (wHT cy hi hp hh aa h2 a2 u) sz)) 0 0 (va_A (wHT cy hi hp hh aa h2 a2 u) sz) := by
  intro K h1
  refine Met.ofW (cc := cX4_remember) (maxL := 3) (ret := none) (by decide) rfl ?_
  intro p e s m args below meth c s₁ B hml hv
  obtain ⟨rfl, hsz, hP, hK, hD0⟩ := hv
  subst hsz
  have E : mE D cy RX4 cX4_remember 3 none wsX4_remember (va_A (wHT cy hi hp hh aa h2 a2 u) s.heap.size) p s m _ meth c := ⟨B.exec, B.bytes, B.returns, hml, findClass_of_methodNamed B.named, atoms_spec (ws := wsX4_remember) B.pre, B.notSynchronized, hK, fun q h => Or.inr h⟩
  have hl := lv_entry ([.ref hi, .ref h2]) (n := 3) (Nat.le_of_ble_eq_true rfl)
  rw [lg_entry_eq]
  generalize (lg_sl ([.ref hi, .ref h2]) ++ List.replicate (3 - (lg_sl ([.ref hi, .ref h2])).length) Slot.unset).toArray = ls at hl ⊢
  exact tX4_remember_b0 K E u _ _ _ hl hP hD0.self va_S.rf h1
-- X4_takeBack
theorem inX4_takeBack_X4 : ∀ w ∈ u_ws RX4 TX4 3, w ∈ wsX4_takeBack := k_lays 26 rfl
theorem lkX4_takeBack_21 : Cond.fieldLink RX4 21 "FerryRamp$History" "many" "I" ∈ wsX4_takeBack := List.mem_of_getElem? (i := 1) rfl
theorem lkX4_takeBack_17 : Cond.fieldLink RX4 17 "FerryRamp$History" "next" "I" ∈ wsX4_takeBack := List.mem_of_getElem? (i := 2) rfl
theorem lkX4_takeBack_11 : Cond.fieldLink RX4 11 "FerryRamp$History" "past" "[LFerryRamp$State;" ∈ wsX4_takeBack := List.mem_of_getElem? (i := 3) rfl
def wHT_r1_2 (cy : Nat → ClassId) (hi : Nat) (hp : Nat) (hh : Nat → Nat) (aa : Nat → Nat → Nat) (h2 : Nat) (a2 : Nat → Nat) (u : HT) : va_W := (([0, 3, 4, 5, 6, 7, 8, 9] : List Nat).filterMap (fun i => (wHTl cy hi hp hh aa h2 a2 u)[i]?)).flatten
theorem wHT_sel1_2 (cy : Nat → ClassId) (hi : Nat) (hp : Nat) (hh : Nat → Nat) (aa : Nat → Nat → Nat) (h2 : Nat) (a2 : Nat → Nat) (u : HT) : (wHT cy hi hp hh aa h2 a2 u).Perm (([wS cy h2 a2 (hV u), wS cy (hh 4) (aa 4) (hq0 u)] : List va_W).flatten ++ wHT_r1_2 cy hi hp hh aa h2 a2 u) := k_seln (l := wHTl cy hi hp hh aa h2 a2 u) (n := 10) [1, 2] [0, 3, 4, 5, 6, 7, 8, 9] rfl rfl (by decide)
theorem wHT_uns1_2_0 (cy : Nat → ClassId) (hi : Nat) (hp : Nat) (hh : Nat → Nat) (aa : Nat → Nat → Nat) (h2 : Nat) (a2 : Nat → Nat) (u : HT) (x : KS) : (wHT cy hi hp hh aa h2 a2 (iV u x)).Perm (([wS cy h2 a2 x, wS cy (hh 4) (aa 4) (hq0 u)] : List va_W).flatten ++ wHT_r1_2 cy hi hp hh aa h2 a2 u) := k_seln (l := wHTl cy hi hp hh aa h2 a2 (iV u x)) (n := 10) [1, 2] [0, 3, 4, 5, 6, 7, 8, 9] rfl rfl (by decide)
def wHT_r1_3 (cy : Nat → ClassId) (hi : Nat) (hp : Nat) (hh : Nat → Nat) (aa : Nat → Nat → Nat) (h2 : Nat) (a2 : Nat → Nat) (u : HT) : va_W := (([0, 2, 4, 5, 6, 7, 8, 9] : List Nat).filterMap (fun i => (wHTl cy hi hp hh aa h2 a2 u)[i]?)).flatten
theorem wHT_sel1_3 (cy : Nat → ClassId) (hi : Nat) (hp : Nat) (hh : Nat → Nat) (aa : Nat → Nat → Nat) (h2 : Nat) (a2 : Nat → Nat) (u : HT) : (wHT cy hi hp hh aa h2 a2 u).Perm (([wS cy h2 a2 (hV u), wS cy (hh 5) (aa 5) (hq1 u)] : List va_W).flatten ++ wHT_r1_3 cy hi hp hh aa h2 a2 u) := k_seln (l := wHTl cy hi hp hh aa h2 a2 u) (n := 10) [1, 3] [0, 2, 4, 5, 6, 7, 8, 9] rfl rfl (by decide)
theorem wHT_uns1_3_0 (cy : Nat → ClassId) (hi : Nat) (hp : Nat) (hh : Nat → Nat) (aa : Nat → Nat → Nat) (h2 : Nat) (a2 : Nat → Nat) (u : HT) (x : KS) : (wHT cy hi hp hh aa h2 a2 (iV u x)).Perm (([wS cy h2 a2 x, wS cy (hh 5) (aa 5) (hq1 u)] : List va_W).flatten ++ wHT_r1_3 cy hi hp hh aa h2 a2 u) := k_seln (l := wHTl cy hi hp hh aa h2 a2 (iV u x)) (n := 10) [1, 3] [0, 2, 4, 5, 6, 7, 8, 9] rfl rfl (by decide)
def wHT_r1_4 (cy : Nat → ClassId) (hi : Nat) (hp : Nat) (hh : Nat → Nat) (aa : Nat → Nat → Nat) (h2 : Nat) (a2 : Nat → Nat) (u : HT) : va_W := (([0, 2, 3, 5, 6, 7, 8, 9] : List Nat).filterMap (fun i => (wHTl cy hi hp hh aa h2 a2 u)[i]?)).flatten
theorem wHT_sel1_4 (cy : Nat → ClassId) (hi : Nat) (hp : Nat) (hh : Nat → Nat) (aa : Nat → Nat → Nat) (h2 : Nat) (a2 : Nat → Nat) (u : HT) : (wHT cy hi hp hh aa h2 a2 u).Perm (([wS cy h2 a2 (hV u), wS cy (hh 6) (aa 6) (hq2 u)] : List va_W).flatten ++ wHT_r1_4 cy hi hp hh aa h2 a2 u) := k_seln (l := wHTl cy hi hp hh aa h2 a2 u) (n := 10) [1, 4] [0, 2, 3, 5, 6, 7, 8, 9] rfl rfl (by decide)
theorem wHT_uns1_4_0 (cy : Nat → ClassId) (hi : Nat) (hp : Nat) (hh : Nat → Nat) (aa : Nat → Nat → Nat) (h2 : Nat) (a2 : Nat → Nat) (u : HT) (x : KS) : (wHT cy hi hp hh aa h2 a2 (iV u x)).Perm (([wS cy h2 a2 x, wS cy (hh 6) (aa 6) (hq2 u)] : List va_W).flatten ++ wHT_r1_4 cy hi hp hh aa h2 a2 u) := k_seln (l := wHTl cy hi hp hh aa h2 a2 (iV u x)) (n := 10) [1, 4] [0, 2, 3, 5, 6, 7, 8, 9] rfl rfl (by decide)
def wHT_r1_5 (cy : Nat → ClassId) (hi : Nat) (hp : Nat) (hh : Nat → Nat) (aa : Nat → Nat → Nat) (h2 : Nat) (a2 : Nat → Nat) (u : HT) : va_W := (([0, 2, 3, 4, 6, 7, 8, 9] : List Nat).filterMap (fun i => (wHTl cy hi hp hh aa h2 a2 u)[i]?)).flatten
theorem wHT_sel1_5 (cy : Nat → ClassId) (hi : Nat) (hp : Nat) (hh : Nat → Nat) (aa : Nat → Nat → Nat) (h2 : Nat) (a2 : Nat → Nat) (u : HT) : (wHT cy hi hp hh aa h2 a2 u).Perm (([wS cy h2 a2 (hV u), wS cy (hh 7) (aa 7) (hq3 u)] : List va_W).flatten ++ wHT_r1_5 cy hi hp hh aa h2 a2 u) := k_seln (l := wHTl cy hi hp hh aa h2 a2 u) (n := 10) [1, 5] [0, 2, 3, 4, 6, 7, 8, 9] rfl rfl (by decide)
theorem wHT_uns1_5_0 (cy : Nat → ClassId) (hi : Nat) (hp : Nat) (hh : Nat → Nat) (aa : Nat → Nat → Nat) (h2 : Nat) (a2 : Nat → Nat) (u : HT) (x : KS) : (wHT cy hi hp hh aa h2 a2 (iV u x)).Perm (([wS cy h2 a2 x, wS cy (hh 7) (aa 7) (hq3 u)] : List va_W).flatten ++ wHT_r1_5 cy hi hp hh aa h2 a2 u) := k_seln (l := wHTl cy hi hp hh aa h2 a2 (iV u x)) (n := 10) [1, 5] [0, 2, 3, 4, 6, 7, 8, 9] rfl rfl (by decide)
def wHT_r1_6 (cy : Nat → ClassId) (hi : Nat) (hp : Nat) (hh : Nat → Nat) (aa : Nat → Nat → Nat) (h2 : Nat) (a2 : Nat → Nat) (u : HT) : va_W := (([0, 2, 3, 4, 5, 7, 8, 9] : List Nat).filterMap (fun i => (wHTl cy hi hp hh aa h2 a2 u)[i]?)).flatten
theorem wHT_sel1_6 (cy : Nat → ClassId) (hi : Nat) (hp : Nat) (hh : Nat → Nat) (aa : Nat → Nat → Nat) (h2 : Nat) (a2 : Nat → Nat) (u : HT) : (wHT cy hi hp hh aa h2 a2 u).Perm (([wS cy h2 a2 (hV u), wS cy (hh 8) (aa 8) (hq4 u)] : List va_W).flatten ++ wHT_r1_6 cy hi hp hh aa h2 a2 u) := k_seln (l := wHTl cy hi hp hh aa h2 a2 u) (n := 10) [1, 6] [0, 2, 3, 4, 5, 7, 8, 9] rfl rfl (by decide)
theorem wHT_uns1_6_0 (cy : Nat → ClassId) (hi : Nat) (hp : Nat) (hh : Nat → Nat) (aa : Nat → Nat → Nat) (h2 : Nat) (a2 : Nat → Nat) (u : HT) (x : KS) : (wHT cy hi hp hh aa h2 a2 (iV u x)).Perm (([wS cy h2 a2 x, wS cy (hh 8) (aa 8) (hq4 u)] : List va_W).flatten ++ wHT_r1_6 cy hi hp hh aa h2 a2 u) := k_seln (l := wHTl cy hi hp hh aa h2 a2 (iV u x)) (n := 10) [1, 6] [0, 2, 3, 4, 5, 7, 8, 9] rfl rfl (by decide)
def wHT_r1_7 (cy : Nat → ClassId) (hi : Nat) (hp : Nat) (hh : Nat → Nat) (aa : Nat → Nat → Nat) (h2 : Nat) (a2 : Nat → Nat) (u : HT) : va_W := (([0, 2, 3, 4, 5, 6, 8, 9] : List Nat).filterMap (fun i => (wHTl cy hi hp hh aa h2 a2 u)[i]?)).flatten
theorem wHT_sel1_7 (cy : Nat → ClassId) (hi : Nat) (hp : Nat) (hh : Nat → Nat) (aa : Nat → Nat → Nat) (h2 : Nat) (a2 : Nat → Nat) (u : HT) : (wHT cy hi hp hh aa h2 a2 u).Perm (([wS cy h2 a2 (hV u), wS cy (hh 9) (aa 9) (hq5 u)] : List va_W).flatten ++ wHT_r1_7 cy hi hp hh aa h2 a2 u) := k_seln (l := wHTl cy hi hp hh aa h2 a2 u) (n := 10) [1, 7] [0, 2, 3, 4, 5, 6, 8, 9] rfl rfl (by decide)
theorem wHT_uns1_7_0 (cy : Nat → ClassId) (hi : Nat) (hp : Nat) (hh : Nat → Nat) (aa : Nat → Nat → Nat) (h2 : Nat) (a2 : Nat → Nat) (u : HT) (x : KS) : (wHT cy hi hp hh aa h2 a2 (iV u x)).Perm (([wS cy h2 a2 x, wS cy (hh 9) (aa 9) (hq5 u)] : List va_W).flatten ++ wHT_r1_7 cy hi hp hh aa h2 a2 u) := k_seln (l := wHTl cy hi hp hh aa h2 a2 (iV u x)) (n := 10) [1, 7] [0, 2, 3, 4, 5, 6, 8, 9] rfl rfl (by decide)
def wHT_r1_8 (cy : Nat → ClassId) (hi : Nat) (hp : Nat) (hh : Nat → Nat) (aa : Nat → Nat → Nat) (h2 : Nat) (a2 : Nat → Nat) (u : HT) : va_W := (([0, 2, 3, 4, 5, 6, 7, 9] : List Nat).filterMap (fun i => (wHTl cy hi hp hh aa h2 a2 u)[i]?)).flatten
theorem wHT_sel1_8 (cy : Nat → ClassId) (hi : Nat) (hp : Nat) (hh : Nat → Nat) (aa : Nat → Nat → Nat) (h2 : Nat) (a2 : Nat → Nat) (u : HT) : (wHT cy hi hp hh aa h2 a2 u).Perm (([wS cy h2 a2 (hV u), wS cy (hh 10) (aa 10) (hq6 u)] : List va_W).flatten ++ wHT_r1_8 cy hi hp hh aa h2 a2 u) := k_seln (l := wHTl cy hi hp hh aa h2 a2 u) (n := 10) [1, 8] [0, 2, 3, 4, 5, 6, 7, 9] rfl rfl (by decide)
theorem wHT_uns1_8_0 (cy : Nat → ClassId) (hi : Nat) (hp : Nat) (hh : Nat → Nat) (aa : Nat → Nat → Nat) (h2 : Nat) (a2 : Nat → Nat) (u : HT) (x : KS) : (wHT cy hi hp hh aa h2 a2 (iV u x)).Perm (([wS cy h2 a2 x, wS cy (hh 10) (aa 10) (hq6 u)] : List va_W).flatten ++ wHT_r1_8 cy hi hp hh aa h2 a2 u) := k_seln (l := wHTl cy hi hp hh aa h2 a2 (iV u x)) (n := 10) [1, 8] [0, 2, 3, 4, 5, 6, 7, 9] rfl rfl (by decide)
def wHT_r1_9 (cy : Nat → ClassId) (hi : Nat) (hp : Nat) (hh : Nat → Nat) (aa : Nat → Nat → Nat) (h2 : Nat) (a2 : Nat → Nat) (u : HT) : va_W := (([0, 2, 3, 4, 5, 6, 7, 8] : List Nat).filterMap (fun i => (wHTl cy hi hp hh aa h2 a2 u)[i]?)).flatten
theorem wHT_sel1_9 (cy : Nat → ClassId) (hi : Nat) (hp : Nat) (hh : Nat → Nat) (aa : Nat → Nat → Nat) (h2 : Nat) (a2 : Nat → Nat) (u : HT) : (wHT cy hi hp hh aa h2 a2 u).Perm (([wS cy h2 a2 (hV u), wS cy (hh 11) (aa 11) (hq7 u)] : List va_W).flatten ++ wHT_r1_9 cy hi hp hh aa h2 a2 u) := k_seln (l := wHTl cy hi hp hh aa h2 a2 u) (n := 10) [1, 9] [0, 2, 3, 4, 5, 6, 7, 8] rfl rfl (by decide)
theorem wHT_uns1_9_0 (cy : Nat → ClassId) (hi : Nat) (hp : Nat) (hh : Nat → Nat) (aa : Nat → Nat → Nat) (h2 : Nat) (a2 : Nat → Nat) (u : HT) (x : KS) : (wHT cy hi hp hh aa h2 a2 (iV u x)).Perm (([wS cy h2 a2 x, wS cy (hh 11) (aa 11) (hq7 u)] : List va_W).flatten ++ wHT_r1_9 cy hi hp hh aa h2 a2 u) := k_seln (l := wHTl cy hi hp hh aa h2 a2 (iV u x)) (n := 10) [1, 9] [0, 2, 3, 4, 5, 6, 7, 8] rfl rfl (by decide)
abbrev rmX4_takeBack : Room := { frames := 2, cells := 0, slots := 0, locals := 61 }
def fX4_takeBack_b0 (u : HT) : Option (Int32 × HT) :=
  (if 1 ≤ (hY u) then (if ((((hX u) + 8) - 1) - (((hX u) + 8) - 1) / 8 * 8) < 0 then some ((-1), u) else grd (inb ((((hX u) + 8) - 1) - (((hX u) + 8) - 1) / 8 * 8) 8) ((if ((((hX u) + 8) - 1) - (((hX u) + 8) - 1) / 8 * 8) = 0 then bnd (fX8_copyFrom (hV u) (hq0 u)) (fun u46 => some (hY (iY (iX (iV u u46) ((((hX u) + 8) - 1) - (((hX u) + 8) - 1) / 8 * 8)) ((hY (iX (iV u u46) ((((hX u) + 8) - 1) - (((hX u) + 8) - 1) / 8 * 8))) - 1)), iY (iX (iV u u46) ((((hX u) + 8) - 1) - (((hX u) + 8) - 1) / 8 * 8)) ((hY (iX (iV u u46) ((((hX u) + 8) - 1) - (((hX u) + 8) - 1) / 8 * 8))) - 1))) else (if ((((hX u) + 8) - 1) - (((hX u) + 8) - 1) / 8 * 8) = 1 then bnd (fX8_copyFrom (hV u) (hq1 u)) (fun u46 => some (hY (iY (iX (iV u u46) ((((hX u) + 8) - 1) - (((hX u) + 8) - 1) / 8 * 8)) ((hY (iX (iV u u46) ((((hX u) + 8) - 1) - (((hX u) + 8) - 1) / 8 * 8))) - 1)), iY (iX (iV u u46) ((((hX u) + 8) - 1) - (((hX u) + 8) - 1) / 8 * 8)) ((hY (iX (iV u u46) ((((hX u) + 8) - 1) - (((hX u) + 8) - 1) / 8 * 8))) - 1))) else (if ((((hX u) + 8) - 1) - (((hX u) + 8) - 1) / 8 * 8) = 2 then bnd (fX8_copyFrom (hV u) (hq2 u)) (fun u46 => some (hY (iY (iX (iV u u46) ((((hX u) + 8) - 1) - (((hX u) + 8) - 1) / 8 * 8)) ((hY (iX (iV u u46) ((((hX u) + 8) - 1) - (((hX u) + 8) - 1) / 8 * 8))) - 1)), iY (iX (iV u u46) ((((hX u) + 8) - 1) - (((hX u) + 8) - 1) / 8 * 8)) ((hY (iX (iV u u46) ((((hX u) + 8) - 1) - (((hX u) + 8) - 1) / 8 * 8))) - 1))) else (if ((((hX u) + 8) - 1) - (((hX u) + 8) - 1) / 8 * 8) = 3 then bnd (fX8_copyFrom (hV u) (hq3 u)) (fun u46 => some (hY (iY (iX (iV u u46) ((((hX u) + 8) - 1) - (((hX u) + 8) - 1) / 8 * 8)) ((hY (iX (iV u u46) ((((hX u) + 8) - 1) - (((hX u) + 8) - 1) / 8 * 8))) - 1)), iY (iX (iV u u46) ((((hX u) + 8) - 1) - (((hX u) + 8) - 1) / 8 * 8)) ((hY (iX (iV u u46) ((((hX u) + 8) - 1) - (((hX u) + 8) - 1) / 8 * 8))) - 1))) else (if ((((hX u) + 8) - 1) - (((hX u) + 8) - 1) / 8 * 8) = 4 then bnd (fX8_copyFrom (hV u) (hq4 u)) (fun u46 => some (hY (iY (iX (iV u u46) ((((hX u) + 8) - 1) - (((hX u) + 8) - 1) / 8 * 8)) ((hY (iX (iV u u46) ((((hX u) + 8) - 1) - (((hX u) + 8) - 1) / 8 * 8))) - 1)), iY (iX (iV u u46) ((((hX u) + 8) - 1) - (((hX u) + 8) - 1) / 8 * 8)) ((hY (iX (iV u u46) ((((hX u) + 8) - 1) - (((hX u) + 8) - 1) / 8 * 8))) - 1))) else (if ((((hX u) + 8) - 1) - (((hX u) + 8) - 1) / 8 * 8) = 5 then bnd (fX8_copyFrom (hV u) (hq5 u)) (fun u46 => some (hY (iY (iX (iV u u46) ((((hX u) + 8) - 1) - (((hX u) + 8) - 1) / 8 * 8)) ((hY (iX (iV u u46) ((((hX u) + 8) - 1) - (((hX u) + 8) - 1) / 8 * 8))) - 1)), iY (iX (iV u u46) ((((hX u) + 8) - 1) - (((hX u) + 8) - 1) / 8 * 8)) ((hY (iX (iV u u46) ((((hX u) + 8) - 1) - (((hX u) + 8) - 1) / 8 * 8))) - 1))) else (if ((((hX u) + 8) - 1) - (((hX u) + 8) - 1) / 8 * 8) = 6 then bnd (fX8_copyFrom (hV u) (hq6 u)) (fun u46 => some (hY (iY (iX (iV u u46) ((((hX u) + 8) - 1) - (((hX u) + 8) - 1) / 8 * 8)) ((hY (iX (iV u u46) ((((hX u) + 8) - 1) - (((hX u) + 8) - 1) / 8 * 8))) - 1)), iY (iX (iV u u46) ((((hX u) + 8) - 1) - (((hX u) + 8) - 1) / 8 * 8)) ((hY (iX (iV u u46) ((((hX u) + 8) - 1) - (((hX u) + 8) - 1) / 8 * 8))) - 1))) else (if ((((hX u) + 8) - 1) - (((hX u) + 8) - 1) / 8 * 8) = 7 then bnd (fX8_copyFrom (hV u) (hq7 u)) (fun u46 => some (hY (iY (iX (iV u u46) ((((hX u) + 8) - 1) - (((hX u) + 8) - 1) / 8 * 8)) ((hY (iX (iV u u46) ((((hX u) + 8) - 1) - (((hX u) + 8) - 1) / 8 * 8))) - 1)), iY (iX (iV u u46) ((((hX u) + 8) - 1) - (((hX u) + 8) - 1) / 8 * 8)) ((hY (iX (iV u u46) ((((hX u) + 8) - 1) - (((hX u) + 8) - 1) / 8 * 8))) - 1))) else none)))))))))) else some ((-1), u))
set_option maxHeartbeats 4000000 in
set_option maxRecDepth 100000 in
theorem tX4_takeBack_b0 {p : Program} {l : Launch} {e : Env} {s : State} {m : MethodId} {args : Array Value} {below : List Frame} {meth : Method} {c : Code} {D : va_G} {cy : Nat → ClassId} {A : Nat → Prop} {hi : Nat} {hp : Nat} {hh : Nat → Nat} {aa : Nat → Nat → Nat} {h2 : Nat} {a2 : Nat → Nat} (K : Int32 × HT → Prop) (E : mE D cy RX4 cX4_takeBack 4 (some .int) wsX4_takeBack A p s m args meth c)
     (u : HT) (H : Heap) (locs : List Loc) (ls : Array Slot) (hl : lv_has ls 4 [(0, .ref hi), (1, .ref h2)]) (hP : va_P D kCl (wHT cy hi hp hh aa h2 a2 u) H) (hD : va_D A (wHT cy hi hp hh aa h2 a2 u)) (hS : va_S A s.heap H locs) (h1 : Ok (fX4_takeBack_b0 u) K) :
    kW p l e rmX4_takeBack s m args below meth c H locs (va_Qi (fun r q => K (r, q)) (fun q => kPost D A (wHT cy hi hp hh aa h2 a2 q)) A) A 0 ls [] := by
  obtain ⟨hx, hb, hr, hml, hown, hts, hlocks, hK, hA⟩ := id E
  unfold fX4_takeBack_b0 at h1
  refine lv_aload_n hx hb dX4_takeBack_0 rfl (lv_at hl 0 rfl) ?_
  refine k_get (v := .int (hY u)) (C := RX4) (T := TX4) (N := 3) hx hb hts inX4_takeBack_X4 hown hK hP 0 (wHT_c0 _ _ _ _ _ _ _ _) rfl 2 (by decide) lkX4_takeBack_21 rfl dX4_takeBack_1 ?_
  refine lv_iconst (v := 1) hx hb dX4_takeBack_4 rfl ?_
  refine lv_icmp_ge (tgt := 10) hx hb dX4_takeBack_5 (by decide) (fun c5 => ?_) (fun c5 => ?_)
  · replace h1 := Ok.pos c5 h1
    refine lv_aload_n hx hb dX4_takeBack_10 rfl (lv_at hl 0 rfl) ?_
    refine k_get (v := .int (hX u)) (C := RX4) (T := TX4) (N := 3) hx hb hts inX4_takeBack_X4 hown hK hP 0 (wHT_c0 _ _ _ _ _ _ _ _) rfl 1 (by decide) lkX4_takeBack_17 rfl dX4_takeBack_11 ?_
    refine lv_bipush (v := 8) hx hb dX4_takeBack_14 rfl ?_
    refine lv_iadd hx hb dX4_takeBack_16 ?_
    refine lv_iconst (v := 1) hx hb dX4_takeBack_17 rfl ?_
    refine lv_isub hx hb dX4_takeBack_18 ?_
    refine lv_bipush (v := 8) hx hb dX4_takeBack_19 rfl ?_
    refine lv_irem hx hb dX4_takeBack_21 (by decide) ?_
    refine lv_istore_n (lv' := [(2, .int ((((hX u) + 8) - 1) - (((hX u) + 8) - 1) / 8 * 8)), (0, .ref hi), (1, .ref h2)]) hx hb dX4_takeBack_22 rfl hl (by decide) rfl (fun ls hl => ?_)
    refine lv_iload_n hx hb dX4_takeBack_23 rfl (lv_at hl 0 rfl) ?_
    refine lv_if_lt (tgt := 36) hx hb dX4_takeBack_24 (by decide) (fun c24 => ?_) (fun c24 => ?_)
    · replace h1 := Ok.pos c24 h1
      refine lv_null hx hb dX4_takeBack_36 ?_
      refine lv_astore_nN (lv' := [(3, .null), (2, .int ((((hX u) + 8) - 1) - (((hX u) + 8) - 1) / 8 * 8)), (0, .ref hi), (1, .ref h2)]) hx hb dX4_takeBack_37 rfl hl (by decide) rfl (fun ls hl => ?_)
      refine lv_aload_nN hx hb dX4_takeBack_38 rfl (lv_at hl 0 rfl) ?_
      refine lv_ifnonnullN hx hb dX4_takeBack_39 ?_
      refine lv_iconst (v := (-1)) hx hb dX4_takeBack_42 rfl ?_
      exact kret_i hx hb hr hlocks hP hD hS h1 dX4_takeBack_43
    · replace h1 := Ok.neg c24 h1
      refine lv_aload_n hx hb dX4_takeBack_27 rfl (lv_at hl 1 rfl) ?_
      refine k_get (v := .ref hp) (C := RX4) (T := TX4) (N := 3) hx hb hts inX4_takeBack_X4 hown hK hP 0 (wHT_c0 _ _ _ _ _ _ _ _) rfl 0 (by decide) lkX4_takeBack_11 rfl dX4_takeBack_28 ?_
      refine lv_iload_n hx hb dX4_takeBack_31 rfl (lv_at hl 0 rfl) ?_
      have g32 := h1.grd1
      replace h1 := h1.grd2
      by_cases c32_0 : ((((hX u) + 8) - 1) - (((hX u) + 8) - 1) / 8 * 8) = 0
      · replace h1 := Ok.pos c32_0 h1
        refine k_aald (v := .ref (hh 4)) hx hb hK hP 1 (wHT_c1 _ _ _ _ _ _ _ _) g32 (by rw [c32_0]; rfl) dX4_takeBack_32 ?_
        refine lv_goto (tgt := 37) hx hb dX4_takeBack_33 (by decide) ?_
        refine lv_astore_n (lv' := [(3, .ref (hh 4)), (2, .int ((((hX u) + 8) - 1) - (((hX u) + 8) - 1) / 8 * 8)), (0, .ref hi), (1, .ref h2)]) hx hb dX4_takeBack_37 rfl hl (by decide) rfl (fun ls hl => ?_)
        refine lv_aload_n hx hb dX4_takeBack_38 rfl (lv_at hl 0 rfl) ?_
        refine lv_ifnonnull (tgt := 44) hx hb dX4_takeBack_39 (by decide) ?_
        refine lv_aload_n hx hb dX4_takeBack_44 rfl (lv_at hl 3 rfl) ?_
        refine lv_aload_n hx hb dX4_takeBack_45 rfl (lv_at hl 0 rfl) ?_
        refine kc_vV (b := h2) (As := [.ref (hh 4)]) (rest := []) h1 ⟨hx, hb, hml, hown, hts⟩ (cX8_copyFromM l D cy h2 a2 (hh 4) (aa 4) H.size (hV u) (hq0 u)) (cwV 1 hts gX4_takeBack_X8_copyFrom rfl rfl rfl hdX8_copyFrom ⟨Nat.le_of_ble_eq_true rfl, Nat.le_of_ble_eq_true rfl⟩) hK (wHT_sel1_2 _ _ _ _ _ _ _ _) hP hD hS hA (q0 := 0) rfl rfl rfl hl.1 rfl (Nat.le_of_ble_eq_true rfl) dX4_takeBack_46 ⟨Nat.zero_le _, Nat.zero_le _⟩ (fun u46 H locs h1 hP hD hS => ?_)
        replace hP := kP_perm (wHT_uns1_2_0 cy hi hp hh aa h2 a2 u u46).symm hP
        replace hD := kD_perm (wHT_uns1_2_0 cy hi hp hh aa h2 a2 u u46).symm hD
        refine lv_aload_n hx hb dX4_takeBack_49 rfl (lv_at hl 2 rfl) ?_
        refine lv_iload_n hx hb dX4_takeBack_50 rfl (lv_at hl 1 rfl) ?_
        refine k_put (v := .int ((((hX u) + 8) - 1) - (((hX u) + 8) - 1) / 8 * 8)) (ty := .int) (C := RX4) (T := TX4) (N := 3) hx hb hts inX4_takeBack_X4 tyX4 tyX4_ok nmX4 hown hK hP hD hS 0 (wHT_c0 _ _ _ _ _ _ _ _) rfl 1 (by decide) lkX4_takeBack_17 rfl (by decide +kernel) rfl rfl (Nat.le_of_ble_eq_true rfl) (ws' := wHT cy hi hp hh aa h2 a2 (iX (iV u u46) ((((hX u) + 8) - 1) - (((hX u) + 8) - 1) / 8 * 8))) (wHT_s0_1 _ _ _ _ _ _ _ _ _) dX4_takeBack_51 (fun H locs hP hD hS => ?_)
        refine lv_aload_n hx hb dX4_takeBack_54 rfl (lv_at hl 2 rfl) ?_
        refine lv_dup hx hb dX4_takeBack_55 rfl ?_
        refine k_get (v := .int (hY (iX (iV u u46) ((((hX u) + 8) - 1) - (((hX u) + 8) - 1) / 8 * 8)))) (C := RX4) (T := TX4) (N := 3) hx hb hts inX4_takeBack_X4 hown hK hP 0 (wHT_c0 _ _ _ _ _ _ _ _) rfl 2 (by decide) lkX4_takeBack_21 rfl dX4_takeBack_56 ?_
        refine lv_iconst (v := 1) hx hb dX4_takeBack_59 rfl ?_
        refine lv_isub hx hb dX4_takeBack_60 ?_
        refine k_put (v := .int ((hY (iX (iV u u46) ((((hX u) + 8) - 1) - (((hX u) + 8) - 1) / 8 * 8))) - 1)) (ty := .int) (C := RX4) (T := TX4) (N := 3) hx hb hts inX4_takeBack_X4 tyX4 tyX4_ok nmX4 hown hK hP hD hS 0 (wHT_c0 _ _ _ _ _ _ _ _) rfl 2 (by decide) lkX4_takeBack_21 rfl (by decide +kernel) rfl rfl (Nat.le_of_ble_eq_true rfl) (ws' := wHT cy hi hp hh aa h2 a2 (iY (iX (iV u u46) ((((hX u) + 8) - 1) - (((hX u) + 8) - 1) / 8 * 8)) ((hY (iX (iV u u46) ((((hX u) + 8) - 1) - (((hX u) + 8) - 1) / 8 * 8))) - 1))) (wHT_s0_2 _ _ _ _ _ _ _ _ _) dX4_takeBack_61 (fun H locs hP hD hS => ?_)
        refine lv_aload_n hx hb dX4_takeBack_64 rfl (lv_at hl 2 rfl) ?_
        refine k_get (v := .int (hY (iY (iX (iV u u46) ((((hX u) + 8) - 1) - (((hX u) + 8) - 1) / 8 * 8)) ((hY (iX (iV u u46) ((((hX u) + 8) - 1) - (((hX u) + 8) - 1) / 8 * 8))) - 1)))) (C := RX4) (T := TX4) (N := 3) hx hb hts inX4_takeBack_X4 hown hK hP 0 (wHT_c0 _ _ _ _ _ _ _ _) rfl 2 (by decide) lkX4_takeBack_21 rfl dX4_takeBack_65 ?_
        exact kret_i hx hb hr hlocks hP hD hS h1 dX4_takeBack_68
      replace h1 := Ok.neg c32_0 h1
      by_cases c32_1 : ((((hX u) + 8) - 1) - (((hX u) + 8) - 1) / 8 * 8) = 1
      · replace h1 := Ok.pos c32_1 h1
        refine k_aald (v := .ref (hh 5)) hx hb hK hP 1 (wHT_c1 _ _ _ _ _ _ _ _) g32 (by rw [c32_1]; rfl) dX4_takeBack_32 ?_
        refine lv_goto (tgt := 37) hx hb dX4_takeBack_33 (by decide) ?_
        refine lv_astore_n (lv' := [(3, .ref (hh 5)), (2, .int ((((hX u) + 8) - 1) - (((hX u) + 8) - 1) / 8 * 8)), (0, .ref hi), (1, .ref h2)]) hx hb dX4_takeBack_37 rfl hl (by decide) rfl (fun ls hl => ?_)
        refine lv_aload_n hx hb dX4_takeBack_38 rfl (lv_at hl 0 rfl) ?_
        refine lv_ifnonnull (tgt := 44) hx hb dX4_takeBack_39 (by decide) ?_
        refine lv_aload_n hx hb dX4_takeBack_44 rfl (lv_at hl 3 rfl) ?_
        refine lv_aload_n hx hb dX4_takeBack_45 rfl (lv_at hl 0 rfl) ?_
        refine kc_vV (b := h2) (As := [.ref (hh 5)]) (rest := []) h1 ⟨hx, hb, hml, hown, hts⟩ (cX8_copyFromM l D cy h2 a2 (hh 5) (aa 5) H.size (hV u) (hq1 u)) (cwV 1 hts gX4_takeBack_X8_copyFrom rfl rfl rfl hdX8_copyFrom ⟨Nat.le_of_ble_eq_true rfl, Nat.le_of_ble_eq_true rfl⟩) hK (wHT_sel1_3 _ _ _ _ _ _ _ _) hP hD hS hA (q0 := 0) rfl rfl rfl hl.1 rfl (Nat.le_of_ble_eq_true rfl) dX4_takeBack_46 ⟨Nat.zero_le _, Nat.zero_le _⟩ (fun u46 H locs h1 hP hD hS => ?_)
        replace hP := kP_perm (wHT_uns1_3_0 cy hi hp hh aa h2 a2 u u46).symm hP
        replace hD := kD_perm (wHT_uns1_3_0 cy hi hp hh aa h2 a2 u u46).symm hD
        refine lv_aload_n hx hb dX4_takeBack_49 rfl (lv_at hl 2 rfl) ?_
        refine lv_iload_n hx hb dX4_takeBack_50 rfl (lv_at hl 1 rfl) ?_
        refine k_put (v := .int ((((hX u) + 8) - 1) - (((hX u) + 8) - 1) / 8 * 8)) (ty := .int) (C := RX4) (T := TX4) (N := 3) hx hb hts inX4_takeBack_X4 tyX4 tyX4_ok nmX4 hown hK hP hD hS 0 (wHT_c0 _ _ _ _ _ _ _ _) rfl 1 (by decide) lkX4_takeBack_17 rfl (by decide +kernel) rfl rfl (Nat.le_of_ble_eq_true rfl) (ws' := wHT cy hi hp hh aa h2 a2 (iX (iV u u46) ((((hX u) + 8) - 1) - (((hX u) + 8) - 1) / 8 * 8))) (wHT_s0_1 _ _ _ _ _ _ _ _ _) dX4_takeBack_51 (fun H locs hP hD hS => ?_)
        refine lv_aload_n hx hb dX4_takeBack_54 rfl (lv_at hl 2 rfl) ?_
        refine lv_dup hx hb dX4_takeBack_55 rfl ?_
        refine k_get (v := .int (hY (iX (iV u u46) ((((hX u) + 8) - 1) - (((hX u) + 8) - 1) / 8 * 8)))) (C := RX4) (T := TX4) (N := 3) hx hb hts inX4_takeBack_X4 hown hK hP 0 (wHT_c0 _ _ _ _ _ _ _ _) rfl 2 (by decide) lkX4_takeBack_21 rfl dX4_takeBack_56 ?_
        refine lv_iconst (v := 1) hx hb dX4_takeBack_59 rfl ?_
        refine lv_isub hx hb dX4_takeBack_60 ?_
        refine k_put (v := .int ((hY (iX (iV u u46) ((((hX u) + 8) - 1) - (((hX u) + 8) - 1) / 8 * 8))) - 1)) (ty := .int) (C := RX4) (T := TX4) (N := 3) hx hb hts inX4_takeBack_X4 tyX4 tyX4_ok nmX4 hown hK hP hD hS 0 (wHT_c0 _ _ _ _ _ _ _ _) rfl 2 (by decide) lkX4_takeBack_21 rfl (by decide +kernel) rfl rfl (Nat.le_of_ble_eq_true rfl) (ws' := wHT cy hi hp hh aa h2 a2 (iY (iX (iV u u46) ((((hX u) + 8) - 1) - (((hX u) + 8) - 1) / 8 * 8)) ((hY (iX (iV u u46) ((((hX u) + 8) - 1) - (((hX u) + 8) - 1) / 8 * 8))) - 1))) (wHT_s0_2 _ _ _ _ _ _ _ _ _) dX4_takeBack_61 (fun H locs hP hD hS => ?_)
        refine lv_aload_n hx hb dX4_takeBack_64 rfl (lv_at hl 2 rfl) ?_
        refine k_get (v := .int (hY (iY (iX (iV u u46) ((((hX u) + 8) - 1) - (((hX u) + 8) - 1) / 8 * 8)) ((hY (iX (iV u u46) ((((hX u) + 8) - 1) - (((hX u) + 8) - 1) / 8 * 8))) - 1)))) (C := RX4) (T := TX4) (N := 3) hx hb hts inX4_takeBack_X4 hown hK hP 0 (wHT_c0 _ _ _ _ _ _ _ _) rfl 2 (by decide) lkX4_takeBack_21 rfl dX4_takeBack_65 ?_
        exact kret_i hx hb hr hlocks hP hD hS h1 dX4_takeBack_68
      replace h1 := Ok.neg c32_1 h1
      by_cases c32_2 : ((((hX u) + 8) - 1) - (((hX u) + 8) - 1) / 8 * 8) = 2
      · replace h1 := Ok.pos c32_2 h1
        refine k_aald (v := .ref (hh 6)) hx hb hK hP 1 (wHT_c1 _ _ _ _ _ _ _ _) g32 (by rw [c32_2]; rfl) dX4_takeBack_32 ?_
        refine lv_goto (tgt := 37) hx hb dX4_takeBack_33 (by decide) ?_
        refine lv_astore_n (lv' := [(3, .ref (hh 6)), (2, .int ((((hX u) + 8) - 1) - (((hX u) + 8) - 1) / 8 * 8)), (0, .ref hi), (1, .ref h2)]) hx hb dX4_takeBack_37 rfl hl (by decide) rfl (fun ls hl => ?_)
        refine lv_aload_n hx hb dX4_takeBack_38 rfl (lv_at hl 0 rfl) ?_
        refine lv_ifnonnull (tgt := 44) hx hb dX4_takeBack_39 (by decide) ?_
        refine lv_aload_n hx hb dX4_takeBack_44 rfl (lv_at hl 3 rfl) ?_
        refine lv_aload_n hx hb dX4_takeBack_45 rfl (lv_at hl 0 rfl) ?_
        refine kc_vV (b := h2) (As := [.ref (hh 6)]) (rest := []) h1 ⟨hx, hb, hml, hown, hts⟩ (cX8_copyFromM l D cy h2 a2 (hh 6) (aa 6) H.size (hV u) (hq2 u)) (cwV 1 hts gX4_takeBack_X8_copyFrom rfl rfl rfl hdX8_copyFrom ⟨Nat.le_of_ble_eq_true rfl, Nat.le_of_ble_eq_true rfl⟩) hK (wHT_sel1_4 _ _ _ _ _ _ _ _) hP hD hS hA (q0 := 0) rfl rfl rfl hl.1 rfl (Nat.le_of_ble_eq_true rfl) dX4_takeBack_46 ⟨Nat.zero_le _, Nat.zero_le _⟩ (fun u46 H locs h1 hP hD hS => ?_)
        replace hP := kP_perm (wHT_uns1_4_0 cy hi hp hh aa h2 a2 u u46).symm hP
        replace hD := kD_perm (wHT_uns1_4_0 cy hi hp hh aa h2 a2 u u46).symm hD
        refine lv_aload_n hx hb dX4_takeBack_49 rfl (lv_at hl 2 rfl) ?_
        refine lv_iload_n hx hb dX4_takeBack_50 rfl (lv_at hl 1 rfl) ?_
        refine k_put (v := .int ((((hX u) + 8) - 1) - (((hX u) + 8) - 1) / 8 * 8)) (ty := .int) (C := RX4) (T := TX4) (N := 3) hx hb hts inX4_takeBack_X4 tyX4 tyX4_ok nmX4 hown hK hP hD hS 0 (wHT_c0 _ _ _ _ _ _ _ _) rfl 1 (by decide) lkX4_takeBack_17 rfl (by decide +kernel) rfl rfl (Nat.le_of_ble_eq_true rfl) (ws' := wHT cy hi hp hh aa h2 a2 (iX (iV u u46) ((((hX u) + 8) - 1) - (((hX u) + 8) - 1) / 8 * 8))) (wHT_s0_1 _ _ _ _ _ _ _ _ _) dX4_takeBack_51 (fun H locs hP hD hS => ?_)
        refine lv_aload_n hx hb dX4_takeBack_54 rfl (lv_at hl 2 rfl) ?_
        refine lv_dup hx hb dX4_takeBack_55 rfl ?_
        refine k_get (v := .int (hY (iX (iV u u46) ((((hX u) + 8) - 1) - (((hX u) + 8) - 1) / 8 * 8)))) (C := RX4) (T := TX4) (N := 3) hx hb hts inX4_takeBack_X4 hown hK hP 0 (wHT_c0 _ _ _ _ _ _ _ _) rfl 2 (by decide) lkX4_takeBack_21 rfl dX4_takeBack_56 ?_
        refine lv_iconst (v := 1) hx hb dX4_takeBack_59 rfl ?_
        refine lv_isub hx hb dX4_takeBack_60 ?_
        refine k_put (v := .int ((hY (iX (iV u u46) ((((hX u) + 8) - 1) - (((hX u) + 8) - 1) / 8 * 8))) - 1)) (ty := .int) (C := RX4) (T := TX4) (N := 3) hx hb hts inX4_takeBack_X4 tyX4 tyX4_ok nmX4 hown hK hP hD hS 0 (wHT_c0 _ _ _ _ _ _ _ _) rfl 2 (by decide) lkX4_takeBack_21 rfl (by decide +kernel) rfl rfl (Nat.le_of_ble_eq_true rfl) (ws' := wHT cy hi hp hh aa h2 a2 (iY (iX (iV u u46) ((((hX u) + 8) - 1) - (((hX u) + 8) - 1) / 8 * 8)) ((hY (iX (iV u u46) ((((hX u) + 8) - 1) - (((hX u) + 8) - 1) / 8 * 8))) - 1))) (wHT_s0_2 _ _ _ _ _ _ _ _ _) dX4_takeBack_61 (fun H locs hP hD hS => ?_)
        refine lv_aload_n hx hb dX4_takeBack_64 rfl (lv_at hl 2 rfl) ?_
        refine k_get (v := .int (hY (iY (iX (iV u u46) ((((hX u) + 8) - 1) - (((hX u) + 8) - 1) / 8 * 8)) ((hY (iX (iV u u46) ((((hX u) + 8) - 1) - (((hX u) + 8) - 1) / 8 * 8))) - 1)))) (C := RX4) (T := TX4) (N := 3) hx hb hts inX4_takeBack_X4 hown hK hP 0 (wHT_c0 _ _ _ _ _ _ _ _) rfl 2 (by decide) lkX4_takeBack_21 rfl dX4_takeBack_65 ?_
        exact kret_i hx hb hr hlocks hP hD hS h1 dX4_takeBack_68
      replace h1 := Ok.neg c32_2 h1
      by_cases c32_3 : ((((hX u) + 8) - 1) - (((hX u) + 8) - 1) / 8 * 8) = 3
      · replace h1 := Ok.pos c32_3 h1
        refine k_aald (v := .ref (hh 7)) hx hb hK hP 1 (wHT_c1 _ _ _ _ _ _ _ _) g32 (by rw [c32_3]; rfl) dX4_takeBack_32 ?_
        refine lv_goto (tgt := 37) hx hb dX4_takeBack_33 (by decide) ?_
        refine lv_astore_n (lv' := [(3, .ref (hh 7)), (2, .int ((((hX u) + 8) - 1) - (((hX u) + 8) - 1) / 8 * 8)), (0, .ref hi), (1, .ref h2)]) hx hb dX4_takeBack_37 rfl hl (by decide) rfl (fun ls hl => ?_)
        refine lv_aload_n hx hb dX4_takeBack_38 rfl (lv_at hl 0 rfl) ?_
        refine lv_ifnonnull (tgt := 44) hx hb dX4_takeBack_39 (by decide) ?_
        refine lv_aload_n hx hb dX4_takeBack_44 rfl (lv_at hl 3 rfl) ?_
        refine lv_aload_n hx hb dX4_takeBack_45 rfl (lv_at hl 0 rfl) ?_
        refine kc_vV (b := h2) (As := [.ref (hh 7)]) (rest := []) h1 ⟨hx, hb, hml, hown, hts⟩ (cX8_copyFromM l D cy h2 a2 (hh 7) (aa 7) H.size (hV u) (hq3 u)) (cwV 1 hts gX4_takeBack_X8_copyFrom rfl rfl rfl hdX8_copyFrom ⟨Nat.le_of_ble_eq_true rfl, Nat.le_of_ble_eq_true rfl⟩) hK (wHT_sel1_5 _ _ _ _ _ _ _ _) hP hD hS hA (q0 := 0) rfl rfl rfl hl.1 rfl (Nat.le_of_ble_eq_true rfl) dX4_takeBack_46 ⟨Nat.zero_le _, Nat.zero_le _⟩ (fun u46 H locs h1 hP hD hS => ?_)
        replace hP := kP_perm (wHT_uns1_5_0 cy hi hp hh aa h2 a2 u u46).symm hP
        replace hD := kD_perm (wHT_uns1_5_0 cy hi hp hh aa h2 a2 u u46).symm hD
        refine lv_aload_n hx hb dX4_takeBack_49 rfl (lv_at hl 2 rfl) ?_
        refine lv_iload_n hx hb dX4_takeBack_50 rfl (lv_at hl 1 rfl) ?_
        refine k_put (v := .int ((((hX u) + 8) - 1) - (((hX u) + 8) - 1) / 8 * 8)) (ty := .int) (C := RX4) (T := TX4) (N := 3) hx hb hts inX4_takeBack_X4 tyX4 tyX4_ok nmX4 hown hK hP hD hS 0 (wHT_c0 _ _ _ _ _ _ _ _) rfl 1 (by decide) lkX4_takeBack_17 rfl (by decide +kernel) rfl rfl (Nat.le_of_ble_eq_true rfl) (ws' := wHT cy hi hp hh aa h2 a2 (iX (iV u u46) ((((hX u) + 8) - 1) - (((hX u) + 8) - 1) / 8 * 8))) (wHT_s0_1 _ _ _ _ _ _ _ _ _) dX4_takeBack_51 (fun H locs hP hD hS => ?_)
        refine lv_aload_n hx hb dX4_takeBack_54 rfl (lv_at hl 2 rfl) ?_
        refine lv_dup hx hb dX4_takeBack_55 rfl ?_
        refine k_get (v := .int (hY (iX (iV u u46) ((((hX u) + 8) - 1) - (((hX u) + 8) - 1) / 8 * 8)))) (C := RX4) (T := TX4) (N := 3) hx hb hts inX4_takeBack_X4 hown hK hP 0 (wHT_c0 _ _ _ _ _ _ _ _) rfl 2 (by decide) lkX4_takeBack_21 rfl dX4_takeBack_56 ?_
        refine lv_iconst (v := 1) hx hb dX4_takeBack_59 rfl ?_
        refine lv_isub hx hb dX4_takeBack_60 ?_
        refine k_put (v := .int ((hY (iX (iV u u46) ((((hX u) + 8) - 1) - (((hX u) + 8) - 1) / 8 * 8))) - 1)) (ty := .int) (C := RX4) (T := TX4) (N := 3) hx hb hts inX4_takeBack_X4 tyX4 tyX4_ok nmX4 hown hK hP hD hS 0 (wHT_c0 _ _ _ _ _ _ _ _) rfl 2 (by decide) lkX4_takeBack_21 rfl (by decide +kernel) rfl rfl (Nat.le_of_ble_eq_true rfl) (ws' := wHT cy hi hp hh aa h2 a2 (iY (iX (iV u u46) ((((hX u) + 8) - 1) - (((hX u) + 8) - 1) / 8 * 8)) ((hY (iX (iV u u46) ((((hX u) + 8) - 1) - (((hX u) + 8) - 1) / 8 * 8))) - 1))) (wHT_s0_2 _ _ _ _ _ _ _ _ _) dX4_takeBack_61 (fun H locs hP hD hS => ?_)
        refine lv_aload_n hx hb dX4_takeBack_64 rfl (lv_at hl 2 rfl) ?_
        refine k_get (v := .int (hY (iY (iX (iV u u46) ((((hX u) + 8) - 1) - (((hX u) + 8) - 1) / 8 * 8)) ((hY (iX (iV u u46) ((((hX u) + 8) - 1) - (((hX u) + 8) - 1) / 8 * 8))) - 1)))) (C := RX4) (T := TX4) (N := 3) hx hb hts inX4_takeBack_X4 hown hK hP 0 (wHT_c0 _ _ _ _ _ _ _ _) rfl 2 (by decide) lkX4_takeBack_21 rfl dX4_takeBack_65 ?_
        exact kret_i hx hb hr hlocks hP hD hS h1 dX4_takeBack_68
      replace h1 := Ok.neg c32_3 h1
      by_cases c32_4 : ((((hX u) + 8) - 1) - (((hX u) + 8) - 1) / 8 * 8) = 4
      · replace h1 := Ok.pos c32_4 h1
        refine k_aald (v := .ref (hh 8)) hx hb hK hP 1 (wHT_c1 _ _ _ _ _ _ _ _) g32 (by rw [c32_4]; rfl) dX4_takeBack_32 ?_
        refine lv_goto (tgt := 37) hx hb dX4_takeBack_33 (by decide) ?_
        refine lv_astore_n (lv' := [(3, .ref (hh 8)), (2, .int ((((hX u) + 8) - 1) - (((hX u) + 8) - 1) / 8 * 8)), (0, .ref hi), (1, .ref h2)]) hx hb dX4_takeBack_37 rfl hl (by decide) rfl (fun ls hl => ?_)
        refine lv_aload_n hx hb dX4_takeBack_38 rfl (lv_at hl 0 rfl) ?_
        refine lv_ifnonnull (tgt := 44) hx hb dX4_takeBack_39 (by decide) ?_
        refine lv_aload_n hx hb dX4_takeBack_44 rfl (lv_at hl 3 rfl) ?_
        refine lv_aload_n hx hb dX4_takeBack_45 rfl (lv_at hl 0 rfl) ?_
        refine kc_vV (b := h2) (As := [.ref (hh 8)]) (rest := []) h1 ⟨hx, hb, hml, hown, hts⟩ (cX8_copyFromM l D cy h2 a2 (hh 8) (aa 8) H.size (hV u) (hq4 u)) (cwV 1 hts gX4_takeBack_X8_copyFrom rfl rfl rfl hdX8_copyFrom ⟨Nat.le_of_ble_eq_true rfl, Nat.le_of_ble_eq_true rfl⟩) hK (wHT_sel1_6 _ _ _ _ _ _ _ _) hP hD hS hA (q0 := 0) rfl rfl rfl hl.1 rfl (Nat.le_of_ble_eq_true rfl) dX4_takeBack_46 ⟨Nat.zero_le _, Nat.zero_le _⟩ (fun u46 H locs h1 hP hD hS => ?_)
        replace hP := kP_perm (wHT_uns1_6_0 cy hi hp hh aa h2 a2 u u46).symm hP
        replace hD := kD_perm (wHT_uns1_6_0 cy hi hp hh aa h2 a2 u u46).symm hD
        refine lv_aload_n hx hb dX4_takeBack_49 rfl (lv_at hl 2 rfl) ?_
        refine lv_iload_n hx hb dX4_takeBack_50 rfl (lv_at hl 1 rfl) ?_
        refine k_put (v := .int ((((hX u) + 8) - 1) - (((hX u) + 8) - 1) / 8 * 8)) (ty := .int) (C := RX4) (T := TX4) (N := 3) hx hb hts inX4_takeBack_X4 tyX4 tyX4_ok nmX4 hown hK hP hD hS 0 (wHT_c0 _ _ _ _ _ _ _ _) rfl 1 (by decide) lkX4_takeBack_17 rfl (by decide +kernel) rfl rfl (Nat.le_of_ble_eq_true rfl) (ws' := wHT cy hi hp hh aa h2 a2 (iX (iV u u46) ((((hX u) + 8) - 1) - (((hX u) + 8) - 1) / 8 * 8))) (wHT_s0_1 _ _ _ _ _ _ _ _ _) dX4_takeBack_51 (fun H locs hP hD hS => ?_)
        refine lv_aload_n hx hb dX4_takeBack_54 rfl (lv_at hl 2 rfl) ?_
        refine lv_dup hx hb dX4_takeBack_55 rfl ?_
        refine k_get (v := .int (hY (iX (iV u u46) ((((hX u) + 8) - 1) - (((hX u) + 8) - 1) / 8 * 8)))) (C := RX4) (T := TX4) (N := 3) hx hb hts inX4_takeBack_X4 hown hK hP 0 (wHT_c0 _ _ _ _ _ _ _ _) rfl 2 (by decide) lkX4_takeBack_21 rfl dX4_takeBack_56 ?_
        refine lv_iconst (v := 1) hx hb dX4_takeBack_59 rfl ?_
        refine lv_isub hx hb dX4_takeBack_60 ?_
        refine k_put (v := .int ((hY (iX (iV u u46) ((((hX u) + 8) - 1) - (((hX u) + 8) - 1) / 8 * 8))) - 1)) (ty := .int) (C := RX4) (T := TX4) (N := 3) hx hb hts inX4_takeBack_X4 tyX4 tyX4_ok nmX4 hown hK hP hD hS 0 (wHT_c0 _ _ _ _ _ _ _ _) rfl 2 (by decide) lkX4_takeBack_21 rfl (by decide +kernel) rfl rfl (Nat.le_of_ble_eq_true rfl) (ws' := wHT cy hi hp hh aa h2 a2 (iY (iX (iV u u46) ((((hX u) + 8) - 1) - (((hX u) + 8) - 1) / 8 * 8)) ((hY (iX (iV u u46) ((((hX u) + 8) - 1) - (((hX u) + 8) - 1) / 8 * 8))) - 1))) (wHT_s0_2 _ _ _ _ _ _ _ _ _) dX4_takeBack_61 (fun H locs hP hD hS => ?_)
        refine lv_aload_n hx hb dX4_takeBack_64 rfl (lv_at hl 2 rfl) ?_
        refine k_get (v := .int (hY (iY (iX (iV u u46) ((((hX u) + 8) - 1) - (((hX u) + 8) - 1) / 8 * 8)) ((hY (iX (iV u u46) ((((hX u) + 8) - 1) - (((hX u) + 8) - 1) / 8 * 8))) - 1)))) (C := RX4) (T := TX4) (N := 3) hx hb hts inX4_takeBack_X4 hown hK hP 0 (wHT_c0 _ _ _ _ _ _ _ _) rfl 2 (by decide) lkX4_takeBack_21 rfl dX4_takeBack_65 ?_
        exact kret_i hx hb hr hlocks hP hD hS h1 dX4_takeBack_68
      replace h1 := Ok.neg c32_4 h1
      by_cases c32_5 : ((((hX u) + 8) - 1) - (((hX u) + 8) - 1) / 8 * 8) = 5
      · replace h1 := Ok.pos c32_5 h1
        refine k_aald (v := .ref (hh 9)) hx hb hK hP 1 (wHT_c1 _ _ _ _ _ _ _ _) g32 (by rw [c32_5]; rfl) dX4_takeBack_32 ?_
        refine lv_goto (tgt := 37) hx hb dX4_takeBack_33 (by decide) ?_
        refine lv_astore_n (lv' := [(3, .ref (hh 9)), (2, .int ((((hX u) + 8) - 1) - (((hX u) + 8) - 1) / 8 * 8)), (0, .ref hi), (1, .ref h2)]) hx hb dX4_takeBack_37 rfl hl (by decide) rfl (fun ls hl => ?_)
        refine lv_aload_n hx hb dX4_takeBack_38 rfl (lv_at hl 0 rfl) ?_
        refine lv_ifnonnull (tgt := 44) hx hb dX4_takeBack_39 (by decide) ?_
        refine lv_aload_n hx hb dX4_takeBack_44 rfl (lv_at hl 3 rfl) ?_
        refine lv_aload_n hx hb dX4_takeBack_45 rfl (lv_at hl 0 rfl) ?_
        refine kc_vV (b := h2) (As := [.ref (hh 9)]) (rest := []) h1 ⟨hx, hb, hml, hown, hts⟩ (cX8_copyFromM l D cy h2 a2 (hh 9) (aa 9) H.size (hV u) (hq5 u)) (cwV 1 hts gX4_takeBack_X8_copyFrom rfl rfl rfl hdX8_copyFrom ⟨Nat.le_of_ble_eq_true rfl, Nat.le_of_ble_eq_true rfl⟩) hK (wHT_sel1_7 _ _ _ _ _ _ _ _) hP hD hS hA (q0 := 0) rfl rfl rfl hl.1 rfl (Nat.le_of_ble_eq_true rfl) dX4_takeBack_46 ⟨Nat.zero_le _, Nat.zero_le _⟩ (fun u46 H locs h1 hP hD hS => ?_)
        replace hP := kP_perm (wHT_uns1_7_0 cy hi hp hh aa h2 a2 u u46).symm hP
        replace hD := kD_perm (wHT_uns1_7_0 cy hi hp hh aa h2 a2 u u46).symm hD
        refine lv_aload_n hx hb dX4_takeBack_49 rfl (lv_at hl 2 rfl) ?_
        refine lv_iload_n hx hb dX4_takeBack_50 rfl (lv_at hl 1 rfl) ?_
        refine k_put (v := .int ((((hX u) + 8) - 1) - (((hX u) + 8) - 1) / 8 * 8)) (ty := .int) (C := RX4) (T := TX4) (N := 3) hx hb hts inX4_takeBack_X4 tyX4 tyX4_ok nmX4 hown hK hP hD hS 0 (wHT_c0 _ _ _ _ _ _ _ _) rfl 1 (by decide) lkX4_takeBack_17 rfl (by decide +kernel) rfl rfl (Nat.le_of_ble_eq_true rfl) (ws' := wHT cy hi hp hh aa h2 a2 (iX (iV u u46) ((((hX u) + 8) - 1) - (((hX u) + 8) - 1) / 8 * 8))) (wHT_s0_1 _ _ _ _ _ _ _ _ _) dX4_takeBack_51 (fun H locs hP hD hS => ?_)
        refine lv_aload_n hx hb dX4_takeBack_54 rfl (lv_at hl 2 rfl) ?_
        refine lv_dup hx hb dX4_takeBack_55 rfl ?_
        refine k_get (v := .int (hY (iX (iV u u46) ((((hX u) + 8) - 1) - (((hX u) + 8) - 1) / 8 * 8)))) (C := RX4) (T := TX4) (N := 3) hx hb hts inX4_takeBack_X4 hown hK hP 0 (wHT_c0 _ _ _ _ _ _ _ _) rfl 2 (by decide) lkX4_takeBack_21 rfl dX4_takeBack_56 ?_
        refine lv_iconst (v := 1) hx hb dX4_takeBack_59 rfl ?_
        refine lv_isub hx hb dX4_takeBack_60 ?_
        refine k_put (v := .int ((hY (iX (iV u u46) ((((hX u) + 8) - 1) - (((hX u) + 8) - 1) / 8 * 8))) - 1)) (ty := .int) (C := RX4) (T := TX4) (N := 3) hx hb hts inX4_takeBack_X4 tyX4 tyX4_ok nmX4 hown hK hP hD hS 0 (wHT_c0 _ _ _ _ _ _ _ _) rfl 2 (by decide) lkX4_takeBack_21 rfl (by decide +kernel) rfl rfl (Nat.le_of_ble_eq_true rfl) (ws' := wHT cy hi hp hh aa h2 a2 (iY (iX (iV u u46) ((((hX u) + 8) - 1) - (((hX u) + 8) - 1) / 8 * 8)) ((hY (iX (iV u u46) ((((hX u) + 8) - 1) - (((hX u) + 8) - 1) / 8 * 8))) - 1))) (wHT_s0_2 _ _ _ _ _ _ _ _ _) dX4_takeBack_61 (fun H locs hP hD hS => ?_)
        refine lv_aload_n hx hb dX4_takeBack_64 rfl (lv_at hl 2 rfl) ?_
        refine k_get (v := .int (hY (iY (iX (iV u u46) ((((hX u) + 8) - 1) - (((hX u) + 8) - 1) / 8 * 8)) ((hY (iX (iV u u46) ((((hX u) + 8) - 1) - (((hX u) + 8) - 1) / 8 * 8))) - 1)))) (C := RX4) (T := TX4) (N := 3) hx hb hts inX4_takeBack_X4 hown hK hP 0 (wHT_c0 _ _ _ _ _ _ _ _) rfl 2 (by decide) lkX4_takeBack_21 rfl dX4_takeBack_65 ?_
        exact kret_i hx hb hr hlocks hP hD hS h1 dX4_takeBack_68
      replace h1 := Ok.neg c32_5 h1
      by_cases c32_6 : ((((hX u) + 8) - 1) - (((hX u) + 8) - 1) / 8 * 8) = 6
      · replace h1 := Ok.pos c32_6 h1
        refine k_aald (v := .ref (hh 10)) hx hb hK hP 1 (wHT_c1 _ _ _ _ _ _ _ _) g32 (by rw [c32_6]; rfl) dX4_takeBack_32 ?_
        refine lv_goto (tgt := 37) hx hb dX4_takeBack_33 (by decide) ?_
        refine lv_astore_n (lv' := [(3, .ref (hh 10)), (2, .int ((((hX u) + 8) - 1) - (((hX u) + 8) - 1) / 8 * 8)), (0, .ref hi), (1, .ref h2)]) hx hb dX4_takeBack_37 rfl hl (by decide) rfl (fun ls hl => ?_)
        refine lv_aload_n hx hb dX4_takeBack_38 rfl (lv_at hl 0 rfl) ?_
        refine lv_ifnonnull (tgt := 44) hx hb dX4_takeBack_39 (by decide) ?_
        refine lv_aload_n hx hb dX4_takeBack_44 rfl (lv_at hl 3 rfl) ?_
        refine lv_aload_n hx hb dX4_takeBack_45 rfl (lv_at hl 0 rfl) ?_
        refine kc_vV (b := h2) (As := [.ref (hh 10)]) (rest := []) h1 ⟨hx, hb, hml, hown, hts⟩ (cX8_copyFromM l D cy h2 a2 (hh 10) (aa 10) H.size (hV u) (hq6 u)) (cwV 1 hts gX4_takeBack_X8_copyFrom rfl rfl rfl hdX8_copyFrom ⟨Nat.le_of_ble_eq_true rfl, Nat.le_of_ble_eq_true rfl⟩) hK (wHT_sel1_8 _ _ _ _ _ _ _ _) hP hD hS hA (q0 := 0) rfl rfl rfl hl.1 rfl (Nat.le_of_ble_eq_true rfl) dX4_takeBack_46 ⟨Nat.zero_le _, Nat.zero_le _⟩ (fun u46 H locs h1 hP hD hS => ?_)
        replace hP := kP_perm (wHT_uns1_8_0 cy hi hp hh aa h2 a2 u u46).symm hP
        replace hD := kD_perm (wHT_uns1_8_0 cy hi hp hh aa h2 a2 u u46).symm hD
        refine lv_aload_n hx hb dX4_takeBack_49 rfl (lv_at hl 2 rfl) ?_
        refine lv_iload_n hx hb dX4_takeBack_50 rfl (lv_at hl 1 rfl) ?_
        refine k_put (v := .int ((((hX u) + 8) - 1) - (((hX u) + 8) - 1) / 8 * 8)) (ty := .int) (C := RX4) (T := TX4) (N := 3) hx hb hts inX4_takeBack_X4 tyX4 tyX4_ok nmX4 hown hK hP hD hS 0 (wHT_c0 _ _ _ _ _ _ _ _) rfl 1 (by decide) lkX4_takeBack_17 rfl (by decide +kernel) rfl rfl (Nat.le_of_ble_eq_true rfl) (ws' := wHT cy hi hp hh aa h2 a2 (iX (iV u u46) ((((hX u) + 8) - 1) - (((hX u) + 8) - 1) / 8 * 8))) (wHT_s0_1 _ _ _ _ _ _ _ _ _) dX4_takeBack_51 (fun H locs hP hD hS => ?_)
        refine lv_aload_n hx hb dX4_takeBack_54 rfl (lv_at hl 2 rfl) ?_
        refine lv_dup hx hb dX4_takeBack_55 rfl ?_
        refine k_get (v := .int (hY (iX (iV u u46) ((((hX u) + 8) - 1) - (((hX u) + 8) - 1) / 8 * 8)))) (C := RX4) (T := TX4) (N := 3) hx hb hts inX4_takeBack_X4 hown hK hP 0 (wHT_c0 _ _ _ _ _ _ _ _) rfl 2 (by decide) lkX4_takeBack_21 rfl dX4_takeBack_56 ?_
        refine lv_iconst (v := 1) hx hb dX4_takeBack_59 rfl ?_
        refine lv_isub hx hb dX4_takeBack_60 ?_
        refine k_put (v := .int ((hY (iX (iV u u46) ((((hX u) + 8) - 1) - (((hX u) + 8) - 1) / 8 * 8))) - 1)) (ty := .int) (C := RX4) (T := TX4) (N := 3) hx hb hts inX4_takeBack_X4 tyX4 tyX4_ok nmX4 hown hK hP hD hS 0 (wHT_c0 _ _ _ _ _ _ _ _) rfl 2 (by decide) lkX4_takeBack_21 rfl (by decide +kernel) rfl rfl (Nat.le_of_ble_eq_true rfl) (ws' := wHT cy hi hp hh aa h2 a2 (iY (iX (iV u u46) ((((hX u) + 8) - 1) - (((hX u) + 8) - 1) / 8 * 8)) ((hY (iX (iV u u46) ((((hX u) + 8) - 1) - (((hX u) + 8) - 1) / 8 * 8))) - 1))) (wHT_s0_2 _ _ _ _ _ _ _ _ _) dX4_takeBack_61 (fun H locs hP hD hS => ?_)
        refine lv_aload_n hx hb dX4_takeBack_64 rfl (lv_at hl 2 rfl) ?_
        refine k_get (v := .int (hY (iY (iX (iV u u46) ((((hX u) + 8) - 1) - (((hX u) + 8) - 1) / 8 * 8)) ((hY (iX (iV u u46) ((((hX u) + 8) - 1) - (((hX u) + 8) - 1) / 8 * 8))) - 1)))) (C := RX4) (T := TX4) (N := 3) hx hb hts inX4_takeBack_X4 hown hK hP 0 (wHT_c0 _ _ _ _ _ _ _ _) rfl 2 (by decide) lkX4_takeBack_21 rfl dX4_takeBack_65 ?_
        exact kret_i hx hb hr hlocks hP hD hS h1 dX4_takeBack_68
      replace h1 := Ok.neg c32_6 h1
      by_cases c32_7 : ((((hX u) + 8) - 1) - (((hX u) + 8) - 1) / 8 * 8) = 7
      · replace h1 := Ok.pos c32_7 h1
        refine k_aald (v := .ref (hh 11)) hx hb hK hP 1 (wHT_c1 _ _ _ _ _ _ _ _) g32 (by rw [c32_7]; rfl) dX4_takeBack_32 ?_
        refine lv_goto (tgt := 37) hx hb dX4_takeBack_33 (by decide) ?_
        refine lv_astore_n (lv' := [(3, .ref (hh 11)), (2, .int ((((hX u) + 8) - 1) - (((hX u) + 8) - 1) / 8 * 8)), (0, .ref hi), (1, .ref h2)]) hx hb dX4_takeBack_37 rfl hl (by decide) rfl (fun ls hl => ?_)
        refine lv_aload_n hx hb dX4_takeBack_38 rfl (lv_at hl 0 rfl) ?_
        refine lv_ifnonnull (tgt := 44) hx hb dX4_takeBack_39 (by decide) ?_
        refine lv_aload_n hx hb dX4_takeBack_44 rfl (lv_at hl 3 rfl) ?_
        refine lv_aload_n hx hb dX4_takeBack_45 rfl (lv_at hl 0 rfl) ?_
        refine kc_vV (b := h2) (As := [.ref (hh 11)]) (rest := []) h1 ⟨hx, hb, hml, hown, hts⟩ (cX8_copyFromM l D cy h2 a2 (hh 11) (aa 11) H.size (hV u) (hq7 u)) (cwV 1 hts gX4_takeBack_X8_copyFrom rfl rfl rfl hdX8_copyFrom ⟨Nat.le_of_ble_eq_true rfl, Nat.le_of_ble_eq_true rfl⟩) hK (wHT_sel1_9 _ _ _ _ _ _ _ _) hP hD hS hA (q0 := 0) rfl rfl rfl hl.1 rfl (Nat.le_of_ble_eq_true rfl) dX4_takeBack_46 ⟨Nat.zero_le _, Nat.zero_le _⟩ (fun u46 H locs h1 hP hD hS => ?_)
        replace hP := kP_perm (wHT_uns1_9_0 cy hi hp hh aa h2 a2 u u46).symm hP
        replace hD := kD_perm (wHT_uns1_9_0 cy hi hp hh aa h2 a2 u u46).symm hD
        refine lv_aload_n hx hb dX4_takeBack_49 rfl (lv_at hl 2 rfl) ?_
        refine lv_iload_n hx hb dX4_takeBack_50 rfl (lv_at hl 1 rfl) ?_
        refine k_put (v := .int ((((hX u) + 8) - 1) - (((hX u) + 8) - 1) / 8 * 8)) (ty := .int) (C := RX4) (T := TX4) (N := 3) hx hb hts inX4_takeBack_X4 tyX4 tyX4_ok nmX4 hown hK hP hD hS 0 (wHT_c0 _ _ _ _ _ _ _ _) rfl 1 (by decide) lkX4_takeBack_17 rfl (by decide +kernel) rfl rfl (Nat.le_of_ble_eq_true rfl) (ws' := wHT cy hi hp hh aa h2 a2 (iX (iV u u46) ((((hX u) + 8) - 1) - (((hX u) + 8) - 1) / 8 * 8))) (wHT_s0_1 _ _ _ _ _ _ _ _ _) dX4_takeBack_51 (fun H locs hP hD hS => ?_)
        refine lv_aload_n hx hb dX4_takeBack_54 rfl (lv_at hl 2 rfl) ?_
        refine lv_dup hx hb dX4_takeBack_55 rfl ?_
        refine k_get (v := .int (hY (iX (iV u u46) ((((hX u) + 8) - 1) - (((hX u) + 8) - 1) / 8 * 8)))) (C := RX4) (T := TX4) (N := 3) hx hb hts inX4_takeBack_X4 hown hK hP 0 (wHT_c0 _ _ _ _ _ _ _ _) rfl 2 (by decide) lkX4_takeBack_21 rfl dX4_takeBack_56 ?_
        refine lv_iconst (v := 1) hx hb dX4_takeBack_59 rfl ?_
        refine lv_isub hx hb dX4_takeBack_60 ?_
        refine k_put (v := .int ((hY (iX (iV u u46) ((((hX u) + 8) - 1) - (((hX u) + 8) - 1) / 8 * 8))) - 1)) (ty := .int) (C := RX4) (T := TX4) (N := 3) hx hb hts inX4_takeBack_X4 tyX4 tyX4_ok nmX4 hown hK hP hD hS 0 (wHT_c0 _ _ _ _ _ _ _ _) rfl 2 (by decide) lkX4_takeBack_21 rfl (by decide +kernel) rfl rfl (Nat.le_of_ble_eq_true rfl) (ws' := wHT cy hi hp hh aa h2 a2 (iY (iX (iV u u46) ((((hX u) + 8) - 1) - (((hX u) + 8) - 1) / 8 * 8)) ((hY (iX (iV u u46) ((((hX u) + 8) - 1) - (((hX u) + 8) - 1) / 8 * 8))) - 1))) (wHT_s0_2 _ _ _ _ _ _ _ _ _) dX4_takeBack_61 (fun H locs hP hD hS => ?_)
        refine lv_aload_n hx hb dX4_takeBack_64 rfl (lv_at hl 2 rfl) ?_
        refine k_get (v := .int (hY (iY (iX (iV u u46) ((((hX u) + 8) - 1) - (((hX u) + 8) - 1) / 8 * 8)) ((hY (iX (iV u u46) ((((hX u) + 8) - 1) - (((hX u) + 8) - 1) / 8 * 8))) - 1)))) (C := RX4) (T := TX4) (N := 3) hx hb hts inX4_takeBack_X4 hown hK hP 0 (wHT_c0 _ _ _ _ _ _ _ _) rfl 2 (by decide) lkX4_takeBack_21 rfl dX4_takeBack_65 ?_
        exact kret_i hx hb hr hlocks hP hD hS h1 dX4_takeBack_68
      replace h1 := Ok.neg c32_7 h1
      exact h1.no
  · replace h1 := Ok.neg c5 h1
    refine lv_iconst (v := (-1)) hx hb dX4_takeBack_8 rfl ?_
    exact kret_i hx hb hr hlocks hP hD hS h1 dX4_takeBack_9
def fX4_takeBack (u : HT) : Option (Int32 × HT) := fX4_takeBack_b0 u
set_option maxHeartbeats 4000000 in
set_option maxRecDepth 100000 in
theorem cX4_takeBackM (l : Launch) (D : va_G) (cy : Nat → ClassId) (hi : Nat) (hp : Nat) (hh : Nat → Nat) (aa : Nat → Nat → Nat) (h2 : Nat) (a2 : Nat → Nat) (sz : Nat) (u : HT) : ∀ (K : Int32 → HT → Prop), Ok (fX4_takeBack u) (fun q => K q.1 q.2) → Met l yX4_takeBack wsX4_takeBack rmX4_takeBack (va_Pc [.ref hi, .ref h2] (kPre D cy sz (wHT cy hi hp hh aa h2 a2 u))) (va_Qi K (fun q => kPost D (va_A (wHT cy hi hp hh aa h2 a2 u) sz) (wHT cy hi hp hh aa h2 a2 q)) (va_A (wHT cy hi hp hh aa h2 a2 u) sz)) 0 0 (va_A (wHT cy hi hp hh aa h2 a2 u) sz) := by
  intro K h1
  refine Met.ofW (cc := cX4_takeBack) (maxL := 4) (ret := (some .int)) (by decide) rfl ?_
  intro p e s m args below meth c s₁ B hml hv
  obtain ⟨rfl, hsz, hP, hK, hD0⟩ := hv
  subst hsz
  have E : mE D cy RX4 cX4_takeBack 4 (some .int) wsX4_takeBack (va_A (wHT cy hi hp hh aa h2 a2 u) s.heap.size) p s m _ meth c := ⟨B.exec, B.bytes, B.returns, hml, findClass_of_methodNamed B.named, atoms_spec (ws := wsX4_takeBack) B.pre, B.notSynchronized, hK, fun q h => Or.inr h⟩
  have hl := lv_entry ([.ref hi, .ref h2]) (n := 4) (Nat.le_of_ble_eq_true rfl)
  rw [lg_entry_eq]
  generalize (lg_sl ([.ref hi, .ref h2]) ++ List.replicate (4 - (lg_sl ([.ref hi, .ref h2])).length) Slot.unset).toArray = ls at hl ⊢
  exact tX4_takeBack_b0 (fun q => K q.1 q.2) E u _ _ _ hl hP hD0.self va_S.rf h1
-- X4_forget
theorem inX4_forget_X4 : ∀ w ∈ u_ws RX4 TX4 3, w ∈ wsX4_forget := k_lays 2 rfl
theorem lkX4_forget_21 : Cond.fieldLink RX4 21 "FerryRamp$History" "many" "I" ∈ wsX4_forget := List.mem_of_getElem? (i := 1) rfl
abbrev rmX4_forget : Room := { frames := 0, cells := 0, slots := 0, locals := 0 }
def fX4_forget_b0 (u : HT) : Option (HT) :=
  some (iY u 0)
set_option maxHeartbeats 4000000 in
set_option maxRecDepth 100000 in
theorem tX4_forget_b0 {p : Program} {l : Launch} {e : Env} {s : State} {m : MethodId} {args : Array Value} {below : List Frame} {meth : Method} {c : Code} {D : va_G} {cy : Nat → ClassId} {A : Nat → Prop} {hi : Nat} {hp : Nat} {hh : Nat → Nat} {aa : Nat → Nat → Nat} {h2 : Nat} {a2 : Nat → Nat} (K : HT → Prop) (E : mE D cy RX4 cX4_forget 1 none wsX4_forget A p s m args meth c)
     (u : HT) (H : Heap) (locs : List Loc) (ls : Array Slot) (hl : lv_has ls 1 [(0, .ref hi)]) (hP : va_P D kCl (wHT cy hi hp hh aa h2 a2 u) H) (hD : va_D A (wHT cy hi hp hh aa h2 a2 u)) (hS : va_S A s.heap H locs) (h1 : Ok (fX4_forget_b0 u) K) :
    kW p l e rmX4_forget s m args below meth c H locs (va_Qv K (fun q => kPost D A (wHT cy hi hp hh aa h2 a2 q)) A) A 0 ls [] := by
  obtain ⟨hx, hb, hr, hml, hown, hts, hlocks, hK, hA⟩ := id E
  unfold fX4_forget_b0 at h1
  refine lv_aload_n hx hb dX4_forget_0 rfl (lv_at hl 0 rfl) ?_
  refine lv_iconst (v := 0) hx hb dX4_forget_1 rfl ?_
  refine k_put (v := .int 0) (ty := .int) (C := RX4) (T := TX4) (N := 3) hx hb hts inX4_forget_X4 tyX4 tyX4_ok nmX4 hown hK hP hD hS 0 (wHT_c0 _ _ _ _ _ _ _ _) rfl 2 (by decide) lkX4_forget_21 rfl (by decide +kernel) rfl rfl (Nat.le_of_ble_eq_true rfl) (ws' := wHT cy hi hp hh aa h2 a2 (iY u 0)) (wHT_s0_2 _ _ _ _ _ _ _ _ _) dX4_forget_2 (fun H locs hP hD hS => ?_)
  exact kret_v hx hb hr hlocks hP hD hS h1 dX4_forget_5
def fX4_forget (u : HT) : Option (HT) := fX4_forget_b0 u
set_option maxHeartbeats 4000000 in
set_option maxRecDepth 100000 in
theorem cX4_forgetM (l : Launch) (D : va_G) (cy : Nat → ClassId) (hi : Nat) (hp : Nat) (hh : Nat → Nat) (aa : Nat → Nat → Nat) (h2 : Nat) (a2 : Nat → Nat) (sz : Nat) (u : HT) : ∀ (K : HT → Prop), Ok (fX4_forget u) K → Met l yX4_forget wsX4_forget rmX4_forget (va_Pc [.ref hi] (kPre D cy sz (wHT cy hi hp hh aa h2 a2 u))) (va_Qv K (fun q => kPost D (va_A (wHT cy hi hp hh aa h2 a2 u) sz) (wHT cy hi hp hh aa h2 a2 q)) (va_A (wHT cy hi hp hh aa h2 a2 u) sz)) 0 0 (va_A (wHT cy hi hp hh aa h2 a2 u) sz) := by
  intro K h1
  refine Met.ofW (cc := cX4_forget) (maxL := 1) (ret := none) (by decide) rfl ?_
  intro p e s m args below meth c s₁ B hml hv
  obtain ⟨rfl, hsz, hP, hK, hD0⟩ := hv
  subst hsz
  have E : mE D cy RX4 cX4_forget 1 none wsX4_forget (va_A (wHT cy hi hp hh aa h2 a2 u) s.heap.size) p s m _ meth c := ⟨B.exec, B.bytes, B.returns, hml, findClass_of_methodNamed B.named, atoms_spec (ws := wsX4_forget) B.pre, B.notSynchronized, hK, fun q h => Or.inr h⟩
  have hl := lv_entry ([.ref hi]) (n := 1) (Nat.le_of_ble_eq_true rfl)
  rw [lg_entry_eq]
  generalize (lg_sl ([.ref hi]) ++ List.replicate (1 - (lg_sl ([.ref hi])).length) Slot.unset).toArray = ls at hl ⊢
  exact tX4_forget_b0 K E u _ _ _ hl hP hD0.self va_S.rf h1
