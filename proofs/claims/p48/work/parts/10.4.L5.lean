-- L_lays
theorem inL_lays_L : ∀ w ∈ u_ws RL TL 4, w ∈ wsL_lays := k_lays 82 rfl
theorem lkL_lays_10 : Cond.fieldLink RL 10 "FerryRampLaw" "x" "LFerryRamp;" ∈ wsL_lays := List.mem_of_getElem? (i := 1) rfl
theorem heL_truncateText : yL_truncateText.cls ≠ "java/lang/invoke/MethodHandle" ∧ yL_truncateText.cls ≠ "java/lang/invoke/VarHandle" ∧ (parseMethodDescriptor yL_truncateText.desc).map (fun d => d.parameters.length) = some 2 := by decide +kernel
theorem heL_appendText : yL_appendText.cls ≠ "java/lang/invoke/MethodHandle" ∧ yL_appendText.cls ≠ "java/lang/invoke/VarHandle" ∧ (parseMethodDescriptor yL_appendText.desc).map (fun d => d.parameters.length) = some 2 := by decide +kernel
abbrev rmL_lays : Room := { frames := 4, cells := 0, slots := 0, locals := 85 }
def fL_lays_b65 (k15 : Int32 × FS → Option (Int32 × FS)) (k28 : Int32 × Int32 × Int32 × FS → Option (Int32 × FS)) (x2 : Int32) (x4 : Int32) (s0 : Int32) (s1 : Int32) (Y : YB) (un : Int32) (u : FS) (bm : Nat) (bc : Nat → Nat) : Option (Int32 × FS) :=
  k28 (x2, s0 ||| s1, x4 + 1, u)
set_option maxHeartbeats 4000000 in
set_option maxRecDepth 100000 in
theorem tL_lays_b65 {p : Program} {l : Launch} {e : Env} {s : State} {m : MethodId} {args : Array Value} {below : List Frame} {meth : Method} {c : Code} {D : va_G} {cy : Nat → ClassId} {A : Nat → Prop} {hLn : Nat} {lbn : Nat} {ad : Nat → Nat} {hh : Nat → Nat} {aa : Nat → Nat → Nat} {pa : Nat → Nat} {hs : Nat} {bv : Nat} {ba : Nat → Int32} {za zv : Nat → Nat} {Y : YB} (K : Int32 × FS → Prop) (E : mE D cy RL cL_lays 5 (some .boolean) wsL_lays A p s m args meth c) (hZ : mZ za zv A s s.heap) (hY : mY Y A s s.heap) (un : Int32) (bm : Nat) (bc : Nat → Nat) (hT : ∀ j, j < bm → ba j = sb_b (bc j) ∧ bc j < 256)
    (k15 : Int32 × FS → Option (Int32 × FS)) (hk15 : ∀ (x2 : Int32) (u : FS) (H : Heap) (locs : List Loc) (ls : Array Slot), lv_has ls 5 [(0, .ref hLn), (1, .ref hs), (2, .int x2)] → va_P D kCl (([lwW hLn (ad 0) Y.2.1 lbn un, wF cy ad hh aa pa u, wST cy hs bv bm ba] : List va_W).flatten) H → va_D A (([lwW hLn (ad 0) Y.2.1 lbn un, wF cy ad hh aa pa u, wST cy hs bv bm ba] : List va_W).flatten) → va_S A s.heap H locs → Ok (k15 (x2, u)) K → kW p l e rmL_lays s m args below meth c H locs (va_Qi (fun r q => K (r, q)) (fun q => kPost D A (([lwW hLn (ad 0) Y.2.1 lbn un, wF cy ad hh aa pa q, wST cy hs bv bm ba] : List va_W).flatten)) A) A 15 ls [])
    (k28 : Int32 × Int32 × Int32 × FS → Option (Int32 × FS)) (hk28 : ∀ (x2 : Int32) (x3 : Int32) (x4 : Int32) (u : FS) (H : Heap) (locs : List Loc) (ls : Array Slot), lv_has ls 5 [(0, .ref hLn), (1, .ref hs), (2, .int x2), (3, .int x3), (4, .int x4)] → va_P D kCl (([lwW hLn (ad 0) Y.2.1 lbn un, wF cy ad hh aa pa u, wST cy hs bv bm ba] : List va_W).flatten) H → va_D A (([lwW hLn (ad 0) Y.2.1 lbn un, wF cy ad hh aa pa u, wST cy hs bv bm ba] : List va_W).flatten) → va_S A s.heap H locs → Ok (k28 (x2, x3, x4, u)) K → kW p l e rmL_lays s m args below meth c H locs (va_Qi (fun r q => K (r, q)) (fun q => kPost D A (([lwW hLn (ad 0) Y.2.1 lbn un, wF cy ad hh aa pa q, wST cy hs bv bm ba] : List va_W).flatten)) A) A 28 ls [])
     (x2 : Int32) (x4 : Int32) (s0 : Int32) (s1 : Int32) (u : FS) (H : Heap) (locs : List Loc) (ls : Array Slot) (hl : lv_has ls 5 [(0, .ref hLn), (1, .ref hs), (2, .int x2), (4, .int x4)]) (hP : va_P D kCl (([lwW hLn (ad 0) Y.2.1 lbn un, wF cy ad hh aa pa u, wST cy hs bv bm ba] : List va_W).flatten) H) (hD : va_D A (([lwW hLn (ad 0) Y.2.1 lbn un, wF cy ad hh aa pa u, wST cy hs bv bm ba] : List va_W).flatten)) (hS : va_S A s.heap H locs) (h1 : Ok (fL_lays_b65 k15 k28 x2 x4 s0 s1 Y un u bm bc) K) :
    kW p l e rmL_lays s m args below meth c H locs (va_Qi (fun r q => K (r, q)) (fun q => kPost D A (([lwW hLn (ad 0) Y.2.1 lbn un, wF cy ad hh aa pa q, wST cy hs bv bm ba] : List va_W).flatten)) A) A 65 ls [.int s1, .int s0] := by
  obtain ⟨hx, hb, hr, hml, hown, hts, hlocks, hK, hA⟩ := id E
  unfold fL_lays_b65 at h1
  refine lv_ior hx hb dL_lays_65 ?_
  refine lv_istore_n (lv' := [(3, .int (s0 ||| s1)), (0, .ref hLn), (1, .ref hs), (2, .int x2), (4, .int x4)]) hx hb dL_lays_66 rfl hl (by decide) rfl (fun ls hl => ?_)
  refine lv_iinc (v := x4 + 1) (lv' := [(4, .int (x4 + 1)), (3, .int (s0 ||| s1)), (0, .ref hLn), (1, .ref hs), (2, .int x2)]) hx hb dL_lays_67 hl (k := 4) rfl rfl (by decide) rfl (fun ls hl => ?_)
  refine lv_goto (tgt := 28) hx hb dL_lays_70 (by decide) ?_
  exact hk28 x2 (s0 ||| s1) (x4 + 1) u H locs ls (lv_sub hl [2, 3, 4, 1, 0] rfl) hP hD hS h1
def fL_lays_b28 (k15 : Int32 × FS → Option (Int32 × FS)) (k28 : Int32 × Int32 × Int32 × FS → Option (Int32 × FS)) (x2 : Int32) (x3 : Int32) (x4 : Int32) (Y : YB) (un : Int32) (u : FS) (bm : Nat) (bc : Nat → Nat) : Option (Int32 × FS) :=
  (if 4 ≤ x4 then bnd2 (fL_appendText x3 u) (fun r78 u78 => (if r78 = (x2 + 4) then k15 (x2 + 4, u78) else some (0, u78))) else bnd (fJ0_lenP Y bm bc) (fun r43 => (if r43 ≤ (x2 + x4) then fL_lays_b65 k15 k28 x2 x4 (x3 <<< (8 &&& 31)) 0 Y un u bm bc else bnd (fJ0_chP (x2 + x4) Y bm bc) (fun r54 => fL_lays_b65 k15 k28 x2 x4 (x3 <<< (8 &&& 31)) (r54 &&& 255) Y un u bm bc))))
set_option maxHeartbeats 4000000 in
set_option maxRecDepth 100000 in
theorem tL_lays_b28 {p : Program} {l : Launch} {e : Env} {s : State} {m : MethodId} {args : Array Value} {below : List Frame} {meth : Method} {c : Code} {D : va_G} {cy : Nat → ClassId} {A : Nat → Prop} {hLn : Nat} {lbn : Nat} {ad : Nat → Nat} {hh : Nat → Nat} {aa : Nat → Nat → Nat} {pa : Nat → Nat} {hs : Nat} {bv : Nat} {ba : Nat → Int32} {za zv : Nat → Nat} {Y : YB} (K : Int32 × FS → Prop) (E : mE D cy RL cL_lays 5 (some .boolean) wsL_lays A p s m args meth c) (hZ : mZ za zv A s s.heap) (hY : mY Y A s s.heap) (un : Int32) (bm : Nat) (bc : Nat → Nat) (hT : ∀ j, j < bm → ba j = sb_b (bc j) ∧ bc j < 256)
    (k15 : Int32 × FS → Option (Int32 × FS)) (hk15 : ∀ (x2 : Int32) (u : FS) (H : Heap) (locs : List Loc) (ls : Array Slot), lv_has ls 5 [(0, .ref hLn), (1, .ref hs), (2, .int x2)] → va_P D kCl (([lwW hLn (ad 0) Y.2.1 lbn un, wF cy ad hh aa pa u, wST cy hs bv bm ba] : List va_W).flatten) H → va_D A (([lwW hLn (ad 0) Y.2.1 lbn un, wF cy ad hh aa pa u, wST cy hs bv bm ba] : List va_W).flatten) → va_S A s.heap H locs → Ok (k15 (x2, u)) K → kW p l e rmL_lays s m args below meth c H locs (va_Qi (fun r q => K (r, q)) (fun q => kPost D A (([lwW hLn (ad 0) Y.2.1 lbn un, wF cy ad hh aa pa q, wST cy hs bv bm ba] : List va_W).flatten)) A) A 15 ls [])
    (k28 : Int32 × Int32 × Int32 × FS → Option (Int32 × FS)) (hk28 : ∀ (x2 : Int32) (x3 : Int32) (x4 : Int32) (u : FS) (H : Heap) (locs : List Loc) (ls : Array Slot), lv_has ls 5 [(0, .ref hLn), (1, .ref hs), (2, .int x2), (3, .int x3), (4, .int x4)] → va_P D kCl (([lwW hLn (ad 0) Y.2.1 lbn un, wF cy ad hh aa pa u, wST cy hs bv bm ba] : List va_W).flatten) H → va_D A (([lwW hLn (ad 0) Y.2.1 lbn un, wF cy ad hh aa pa u, wST cy hs bv bm ba] : List va_W).flatten) → va_S A s.heap H locs → Ok (k28 (x2, x3, x4, u)) K → kW p l e rmL_lays s m args below meth c H locs (va_Qi (fun r q => K (r, q)) (fun q => kPost D A (([lwW hLn (ad 0) Y.2.1 lbn un, wF cy ad hh aa pa q, wST cy hs bv bm ba] : List va_W).flatten)) A) A 28 ls [])
     (x2 : Int32) (x3 : Int32) (x4 : Int32) (u : FS) (H : Heap) (locs : List Loc) (ls : Array Slot) (hl : lv_has ls 5 [(0, .ref hLn), (1, .ref hs), (2, .int x2), (3, .int x3), (4, .int x4)]) (hP : va_P D kCl (([lwW hLn (ad 0) Y.2.1 lbn un, wF cy ad hh aa pa u, wST cy hs bv bm ba] : List va_W).flatten) H) (hD : va_D A (([lwW hLn (ad 0) Y.2.1 lbn un, wF cy ad hh aa pa u, wST cy hs bv bm ba] : List va_W).flatten)) (hS : va_S A s.heap H locs) (h1 : Ok (fL_lays_b28 k15 k28 x2 x3 x4 Y un u bm bc) K) :
    kW p l e rmL_lays s m args below meth c H locs (va_Qi (fun r q => K (r, q)) (fun q => kPost D A (([lwW hLn (ad 0) Y.2.1 lbn un, wF cy ad hh aa pa q, wST cy hs bv bm ba] : List va_W).flatten)) A) A 28 ls [] := by
  obtain ⟨hx, hb, hr, hml, hown, hts, hlocks, hK, hA⟩ := id E
  unfold fL_lays_b28 at h1
  refine lv_iload hx hb dL_lays_28 (lv_at hl 4 rfl) ?_
  refine lv_iconst (v := 4) hx hb dL_lays_30 rfl ?_
  refine lv_icmp_ge (tgt := 73) hx hb dL_lays_31 (by decide) (fun c31 => ?_) (fun c31 => ?_)
  · replace h1 := Ok.pos c31 h1
    refine lv_aload_n hx hb dL_lays_73 rfl (lv_at hl 0 rfl) ?_
    refine k_get (v := .ref (ad 0)) (C := RL) (T := TL) (N := 4) hx hb hts inL_lays_L hown hK hP 0 rfl rfl 0 (by decide) lkL_lays_10 rfl dL_lays_74 ?_
    refine lv_iload_n hx hb dL_lays_77 rfl (lv_at hl 3 rfl) ?_
    refine kh_iS (As := [.ref (ad 0), .int x3]) (rest := []) h1 ⟨hx, hb, hml, hown, hts⟩ (cL_appendTextM l D cy ad hh aa pa H.size u x3) (vx_cwSW 2 hts gL_lays_L_appendText rfl rfl rfl heL_appendText ⟨Nat.le_of_ble_eq_true rfl, Nat.le_of_ble_eq_true rfl⟩) hK (k_sel1 (l := [lwW hLn (ad 0) Y.2.1 lbn un, wF cy ad hh aa pa u, wST cy hs bv bm ba]) (n := 3) 1 [0, 2] rfl rfl (by decide)) hP hD hS hA rfl hl.1 rfl (Nat.le_of_ble_eq_true rfl) dL_lays_78 ⟨Nat.zero_le _, Nat.zero_le _⟩ (fun r78 u78 H locs h1 hP hD hS => ?_)
    replace hP := kP_perm (List.Perm.symm (k_sel1 (l := [lwW hLn (ad 0) Y.2.1 lbn un, wF cy ad hh aa pa u78, wST cy hs bv bm ba]) (n := 3) 1 [0, 2] rfl rfl (by decide))) hP
    replace hD := kD_perm (List.Perm.symm (k_sel1 (l := [lwW hLn (ad 0) Y.2.1 lbn un, wF cy ad hh aa pa u78, wST cy hs bv bm ba]) (n := 3) 1 [0, 2] rfl rfl (by decide))) hD
    refine lv_iload_n hx hb dL_lays_81 rfl (lv_at hl 2 rfl) ?_
    refine lv_iconst (v := 4) hx hb dL_lays_82 rfl ?_
    refine lv_iadd hx hb dL_lays_83 ?_
    refine lv_icmp_eq (tgt := 89) hx hb dL_lays_84 (by decide) (fun c84 => ?_) (fun c84 => ?_)
    · replace h1 := Ok.pos c84 h1
      refine lv_iinc (v := x2 + 4) (lv' := [(2, .int (x2 + 4)), (0, .ref hLn), (1, .ref hs), (3, .int x3), (4, .int x4)]) hx hb dL_lays_89 hl (k := 2) rfl rfl (by decide) rfl (fun ls hl => ?_)
      refine lv_goto (tgt := 15) hx hb dL_lays_92 (by decide) ?_
      exact hk15 (x2 + 4) u78 H locs ls (lv_sub hl [1, 2, 0] rfl) hP hD hS h1
    · replace h1 := Ok.neg c84 h1
      refine lv_iconst (v := 0) hx hb dL_lays_87 rfl ?_
      exact kret_iz hx hb hr rfl hlocks hP hD hS h1 dL_lays_88
  · replace h1 := Ok.neg c31 h1
    refine lv_iload_n hx hb dL_lays_34 rfl (lv_at hl 3 rfl) ?_
    refine lv_bipush (v := 8) hx hb dL_lays_35 rfl ?_
    refine lv_ishl hx hb dL_lays_37 ?_
    refine lv_iload_n hx hb dL_lays_38 rfl (lv_at hl 2 rfl) ?_
    refine lv_iload hx hb dL_lays_39 (lv_at hl 4 rfl) ?_
    refine lv_iadd hx hb dL_lays_41 ?_
    refine lv_aload_n hx hb dL_lays_42 rfl (lv_at hl 1 rfl) ?_
    refine ky_rV (b := hs) (As := []) (rest := [.int (x2 + x4), .int (x3 <<< (8 &&& 31))]) h1 ⟨hx, hb, hml, hown, hts⟩ (cJ0_length_8abf5P l D cy za zv Y hs bv ba H.size bm bc hT) (cwV 0 hts gL_lays_J0_length_8abf5 rfl rfl rfl hdJ0_length_8abf5 ⟨Nat.le_of_ble_eq_true rfl, Nat.le_of_ble_eq_true rfl⟩) hY hZ hK (k_sel1 (l := [lwW hLn (ad 0) Y.2.1 lbn un, wF cy ad hh aa pa u, wST cy hs bv bm ba]) (n := 3) 2 [0, 1] rfl rfl (by decide)) hP hD hS hA (q0 := 0) rfl rfl rfl hl.1 rfl (Nat.le_of_ble_eq_true rfl) dL_lays_43 ⟨Nat.zero_le _, Nat.zero_le _⟩ (fun r43 H locs h1 hP hS => ?_)
    refine lv_icmp_ge (tgt := 64) hx hb dL_lays_46 (by decide) (fun c46 => ?_) (fun c46 => ?_)
    · replace h1 := Ok.pos c46 h1
      refine lv_iconst (v := 0) hx hb dL_lays_64 rfl ?_
      exact tL_lays_b65 K E hZ hY un bm bc hT k15 hk15 k28 hk28 x2 x4 (x3 <<< (8 &&& 31)) 0 u H locs ls (lv_sub hl [0, 1, 2, 4] rfl) hP hD hS h1
    · replace h1 := Ok.neg c46 h1
      refine lv_aload_n hx hb dL_lays_49 rfl (lv_at hl 1 rfl) ?_
      refine lv_iload_n hx hb dL_lays_50 rfl (lv_at hl 2 rfl) ?_
      refine lv_iload hx hb dL_lays_51 (lv_at hl 4 rfl) ?_
      refine lv_iadd hx hb dL_lays_53 ?_
      refine ky_rV (b := hs) (As := [.int (x2 + x4)]) (rest := [.int (x3 <<< (8 &&& 31))]) h1 ⟨hx, hb, hml, hown, hts⟩ (cJ0_charAt_5068eP l D cy za zv Y hs bv ba H.size bm bc hT (x2 + x4)) (cwV 1 hts gL_lays_J0_charAt_5068e rfl rfl rfl hdJ0_charAt_5068e ⟨Nat.le_of_ble_eq_true rfl, Nat.le_of_ble_eq_true rfl⟩) hY hZ hK (k_sel1 (l := [lwW hLn (ad 0) Y.2.1 lbn un, wF cy ad hh aa pa u, wST cy hs bv bm ba]) (n := 3) 2 [0, 1] rfl rfl (by decide)) hP hD hS hA (q0 := 0) rfl rfl rfl hl.1 rfl (Nat.le_of_ble_eq_true rfl) dL_lays_54 ⟨Nat.zero_le _, Nat.zero_le _⟩ (fun r54 H locs h1 hP hS => ?_)
      refine lv_sipush (v := 255) hx hb dL_lays_57 rfl ?_
      refine lv_iand hx hb dL_lays_60 ?_
      refine lv_goto (tgt := 65) hx hb dL_lays_61 (by decide) ?_
      exact tL_lays_b65 K E hZ hY un bm bc hT k15 hk15 k28 hk28 x2 x4 (x3 <<< (8 &&& 31)) (r54 &&& 255) u H locs ls (lv_sub hl [0, 1, 2, 4] rfl) hP hD hS h1
theorem tL_lays_l28 {p : Program} {l : Launch} {e : Env} {s : State} {m : MethodId} {args : Array Value} {below : List Frame} {meth : Method} {c : Code} {D : va_G} {cy : Nat → ClassId} {A : Nat → Prop} {hLn : Nat} {lbn : Nat} {ad : Nat → Nat} {hh : Nat → Nat} {aa : Nat → Nat → Nat} {pa : Nat → Nat} {hs : Nat} {bv : Nat} {ba : Nat → Int32} {za zv : Nat → Nat} {Y : YB} (K : Int32 × FS → Prop) (E : mE D cy RL cL_lays 5 (some .boolean) wsL_lays A p s m args meth c) (hZ : mZ za zv A s s.heap) (hY : mY Y A s s.heap) (un : Int32) (bm : Nat) (bc : Nat → Nat) (hT : ∀ j, j < bm → ba j = sb_b (bc j) ∧ bc j < 256)
    (k15 : Int32 × FS → Option (Int32 × FS)) (hk15 : ∀ (x2 : Int32) (u : FS) (H : Heap) (locs : List Loc) (ls : Array Slot), lv_has ls 5 [(0, .ref hLn), (1, .ref hs), (2, .int x2)] → va_P D kCl (([lwW hLn (ad 0) Y.2.1 lbn un, wF cy ad hh aa pa u, wST cy hs bv bm ba] : List va_W).flatten) H → va_D A (([lwW hLn (ad 0) Y.2.1 lbn un, wF cy ad hh aa pa u, wST cy hs bv bm ba] : List va_W).flatten) → va_S A s.heap H locs → Ok (k15 (x2, u)) K → kW p l e rmL_lays s m args below meth c H locs (va_Qi (fun r q => K (r, q)) (fun q => kPost D A (([lwW hLn (ad 0) Y.2.1 lbn un, wF cy ad hh aa pa q, wST cy hs bv bm ba] : List va_W).flatten)) A) A 15 ls []) : ∀ (n9 : Nat) (x2 : Int32) (x3 : Int32) (x4 : Int32) (u : FS) (H : Heap) (locs : List Loc) (ls : Array Slot), lv_has ls 5 [(0, .ref hLn), (1, .ref hs), (2, .int x2), (3, .int x3), (4, .int x4)] → va_P D kCl (([lwW hLn (ad 0) Y.2.1 lbn un, wF cy ad hh aa pa u, wST cy hs bv bm ba] : List va_W).flatten) H → va_D A (([lwW hLn (ad 0) Y.2.1 lbn un, wF cy ad hh aa pa u, wST cy hs bv bm ba] : List va_W).flatten) → va_S A s.heap H locs → Ok (lop (fun y z => fL_lays_b28 k15 y z.1 z.2.1 z.2.2.1 Y un z.2.2.2 bm bc) n9 (x2, x3, x4, u)) K → kW p l e rmL_lays s m args below meth c H locs (va_Qi (fun r q => K (r, q)) (fun q => kPost D A (([lwW hLn (ad 0) Y.2.1 lbn un, wF cy ad hh aa pa q, wST cy hs bv bm ba] : List va_W).flatten)) A) A 28 ls [] := by
  intro n9
  induction n9 with
  | zero =>
    intro x2 x3 x4 u H locs ls hl hP hD hS h1
    exact h1.no
  | succ n9 ih =>
    intro x2 x3 x4 u H locs ls hl hP hD hS h1
    exact tL_lays_b28 K E hZ hY un bm bc hT k15 hk15 (lop (fun y z => fL_lays_b28 k15 y z.1 z.2.1 z.2.2.1 Y un z.2.2.2 bm bc) n9) (fun x2 x3 x4 u H locs ls hl hP hD hS h1 => ih x2 x3 x4 u H locs ls hl hP hD hS h1) x2 x3 x4 u H locs ls hl hP hD hS h1
def fL_lays_b15 (k15 : Int32 × FS → Option (Int32 × FS)) (x2 : Int32) (Y : YB) (un : Int32) (u : FS) (bm : Nat) (bc : Nat → Nat) : Option (Int32 × FS) :=
  bnd (fJ0_lenP Y bm bc) (fun r17 => (if r17 ≤ x2 then bnd (fJ0_lenP Y bm bc) (fun r100 => bnd2 (fL_truncateText r100 u) (fun r103 u103 => bnd (fJ0_lenP Y bm bc) (fun r107 => (if r103 = r107 then some (1, u103) else some (0, u103))))) else lop (fun y z => fL_lays_b28 k15 y z.1 z.2.1 z.2.2.1 Y un z.2.2.2 bm bc) LF (x2, 0, 0, u)))
set_option maxHeartbeats 4000000 in
set_option maxRecDepth 100000 in
theorem tL_lays_b15 {p : Program} {l : Launch} {e : Env} {s : State} {m : MethodId} {args : Array Value} {below : List Frame} {meth : Method} {c : Code} {D : va_G} {cy : Nat → ClassId} {A : Nat → Prop} {hLn : Nat} {lbn : Nat} {ad : Nat → Nat} {hh : Nat → Nat} {aa : Nat → Nat → Nat} {pa : Nat → Nat} {hs : Nat} {bv : Nat} {ba : Nat → Int32} {za zv : Nat → Nat} {Y : YB} (K : Int32 × FS → Prop) (E : mE D cy RL cL_lays 5 (some .boolean) wsL_lays A p s m args meth c) (hZ : mZ za zv A s s.heap) (hY : mY Y A s s.heap) (un : Int32) (bm : Nat) (bc : Nat → Nat) (hT : ∀ j, j < bm → ba j = sb_b (bc j) ∧ bc j < 256)
    (k15 : Int32 × FS → Option (Int32 × FS)) (hk15 : ∀ (x2 : Int32) (u : FS) (H : Heap) (locs : List Loc) (ls : Array Slot), lv_has ls 5 [(0, .ref hLn), (1, .ref hs), (2, .int x2)] → va_P D kCl (([lwW hLn (ad 0) Y.2.1 lbn un, wF cy ad hh aa pa u, wST cy hs bv bm ba] : List va_W).flatten) H → va_D A (([lwW hLn (ad 0) Y.2.1 lbn un, wF cy ad hh aa pa u, wST cy hs bv bm ba] : List va_W).flatten) → va_S A s.heap H locs → Ok (k15 (x2, u)) K → kW p l e rmL_lays s m args below meth c H locs (va_Qi (fun r q => K (r, q)) (fun q => kPost D A (([lwW hLn (ad 0) Y.2.1 lbn un, wF cy ad hh aa pa q, wST cy hs bv bm ba] : List va_W).flatten)) A) A 15 ls [])
     (x2 : Int32) (u : FS) (H : Heap) (locs : List Loc) (ls : Array Slot) (hl : lv_has ls 5 [(0, .ref hLn), (1, .ref hs), (2, .int x2)]) (hP : va_P D kCl (([lwW hLn (ad 0) Y.2.1 lbn un, wF cy ad hh aa pa u, wST cy hs bv bm ba] : List va_W).flatten) H) (hD : va_D A (([lwW hLn (ad 0) Y.2.1 lbn un, wF cy ad hh aa pa u, wST cy hs bv bm ba] : List va_W).flatten)) (hS : va_S A s.heap H locs) (h1 : Ok (fL_lays_b15 k15 x2 Y un u bm bc) K) :
    kW p l e rmL_lays s m args below meth c H locs (va_Qi (fun r q => K (r, q)) (fun q => kPost D A (([lwW hLn (ad 0) Y.2.1 lbn un, wF cy ad hh aa pa q, wST cy hs bv bm ba] : List va_W).flatten)) A) A 15 ls [] := by
  obtain ⟨hx, hb, hr, hml, hown, hts, hlocks, hK, hA⟩ := id E
  unfold fL_lays_b15 at h1
  refine lv_iload_n hx hb dL_lays_15 rfl (lv_at hl 2 rfl) ?_
  refine lv_aload_n hx hb dL_lays_16 rfl (lv_at hl 1 rfl) ?_
  refine ky_rV (b := hs) (As := []) (rest := [.int x2]) h1 ⟨hx, hb, hml, hown, hts⟩ (cJ0_length_8abf5P l D cy za zv Y hs bv ba H.size bm bc hT) (cwV 0 hts gL_lays_J0_length_8abf5 rfl rfl rfl hdJ0_length_8abf5 ⟨Nat.le_of_ble_eq_true rfl, Nat.le_of_ble_eq_true rfl⟩) hY hZ hK (k_sel1 (l := [lwW hLn (ad 0) Y.2.1 lbn un, wF cy ad hh aa pa u, wST cy hs bv bm ba]) (n := 3) 2 [0, 1] rfl rfl (by decide)) hP hD hS hA (q0 := 0) rfl rfl rfl hl.1 rfl (Nat.le_of_ble_eq_true rfl) dL_lays_17 ⟨Nat.zero_le _, Nat.zero_le _⟩ (fun r17 H locs h1 hP hS => ?_)
  refine lv_icmp_ge (tgt := 95) hx hb dL_lays_20 (by decide) (fun c20 => ?_) (fun c20 => ?_)
  · replace h1 := Ok.pos c20 h1
    refine lv_aload_n hx hb dL_lays_95 rfl (lv_at hl 0 rfl) ?_
    refine k_get (v := .ref (ad 0)) (C := RL) (T := TL) (N := 4) hx hb hts inL_lays_L hown hK hP 0 rfl rfl 0 (by decide) lkL_lays_10 rfl dL_lays_96 ?_
    refine lv_aload_n hx hb dL_lays_99 rfl (lv_at hl 1 rfl) ?_
    refine ky_rV (b := hs) (As := []) (rest := [.ref (ad 0)]) h1 ⟨hx, hb, hml, hown, hts⟩ (cJ0_length_8abf5P l D cy za zv Y hs bv ba H.size bm bc hT) (cwV 0 hts gL_lays_J0_length_8abf5 rfl rfl rfl hdJ0_length_8abf5 ⟨Nat.le_of_ble_eq_true rfl, Nat.le_of_ble_eq_true rfl⟩) hY hZ hK (k_sel1 (l := [lwW hLn (ad 0) Y.2.1 lbn un, wF cy ad hh aa pa u, wST cy hs bv bm ba]) (n := 3) 2 [0, 1] rfl rfl (by decide)) hP hD hS hA (q0 := 0) rfl rfl rfl hl.1 rfl (Nat.le_of_ble_eq_true rfl) dL_lays_100 ⟨Nat.zero_le _, Nat.zero_le _⟩ (fun r100 H locs h1 hP hS => ?_)
    refine kh_iS (As := [.ref (ad 0), .int r100]) (rest := []) h1 ⟨hx, hb, hml, hown, hts⟩ (cL_truncateTextM l D cy ad hh aa pa H.size u r100) (vx_cwSW 2 hts gL_lays_L_truncateText rfl rfl rfl heL_truncateText ⟨Nat.le_of_ble_eq_true rfl, Nat.le_of_ble_eq_true rfl⟩) hK (k_sel1 (l := [lwW hLn (ad 0) Y.2.1 lbn un, wF cy ad hh aa pa u, wST cy hs bv bm ba]) (n := 3) 1 [0, 2] rfl rfl (by decide)) hP hD hS hA rfl hl.1 rfl (Nat.le_of_ble_eq_true rfl) dL_lays_103 ⟨Nat.zero_le _, Nat.zero_le _⟩ (fun r103 u103 H locs h1 hP hD hS => ?_)
    replace hP := kP_perm (List.Perm.symm (k_sel1 (l := [lwW hLn (ad 0) Y.2.1 lbn un, wF cy ad hh aa pa u103, wST cy hs bv bm ba]) (n := 3) 1 [0, 2] rfl rfl (by decide))) hP
    replace hD := kD_perm (List.Perm.symm (k_sel1 (l := [lwW hLn (ad 0) Y.2.1 lbn un, wF cy ad hh aa pa u103, wST cy hs bv bm ba]) (n := 3) 1 [0, 2] rfl rfl (by decide))) hD
    refine lv_aload_n hx hb dL_lays_106 rfl (lv_at hl 1 rfl) ?_
    refine ky_rV (b := hs) (As := []) (rest := [.int r103]) h1 ⟨hx, hb, hml, hown, hts⟩ (cJ0_length_8abf5P l D cy za zv Y hs bv ba H.size bm bc hT) (cwV 0 hts gL_lays_J0_length_8abf5 rfl rfl rfl hdJ0_length_8abf5 ⟨Nat.le_of_ble_eq_true rfl, Nat.le_of_ble_eq_true rfl⟩) hY hZ hK (k_sel1 (l := [lwW hLn (ad 0) Y.2.1 lbn un, wF cy ad hh aa pa u103, wST cy hs bv bm ba]) (n := 3) 2 [0, 1] rfl rfl (by decide)) hP hD hS hA (q0 := 0) rfl rfl rfl hl.1 rfl (Nat.le_of_ble_eq_true rfl) dL_lays_107 ⟨Nat.zero_le _, Nat.zero_le _⟩ (fun r107 H locs h1 hP hS => ?_)
    refine lv_icmp_ne (tgt := 117) hx hb dL_lays_110 (by decide) (fun c110 => ?_) (fun c110 => ?_)
    · replace h1 := Ok.neg c110 h1
      refine lv_iconst (v := 0) hx hb dL_lays_117 rfl ?_
      exact kret_iz hx hb hr rfl hlocks hP hD hS h1 dL_lays_118
    · replace h1 := Ok.pos c110 h1
      refine lv_iconst (v := 1) hx hb dL_lays_113 rfl ?_
      refine lv_goto (tgt := 118) hx hb dL_lays_114 (by decide) ?_
      exact kret_iz hx hb hr rfl hlocks hP hD hS h1 dL_lays_118
  · replace h1 := Ok.neg c20 h1
    refine lv_iconst (v := 0) hx hb dL_lays_23 rfl ?_
    refine lv_istore_n (lv' := [(3, .int 0), (0, .ref hLn), (1, .ref hs), (2, .int x2)]) hx hb dL_lays_24 rfl hl (by decide) rfl (fun ls hl => ?_)
    refine lv_iconst (v := 0) hx hb dL_lays_25 rfl ?_
    refine lv_istore (lv' := [(4, .int 0), (3, .int 0), (0, .ref hLn), (1, .ref hs), (2, .int x2)]) hx hb dL_lays_26 hl (by decide) rfl (fun ls hl => ?_)
    exact tL_lays_l28 K E hZ hY un bm bc hT k15 hk15 LF x2 0 0 u H locs ls (lv_sub hl [2, 3, 4, 1, 0] rfl) hP hD hS h1
theorem tL_lays_l15 {p : Program} {l : Launch} {e : Env} {s : State} {m : MethodId} {args : Array Value} {below : List Frame} {meth : Method} {c : Code} {D : va_G} {cy : Nat → ClassId} {A : Nat → Prop} {hLn : Nat} {lbn : Nat} {ad : Nat → Nat} {hh : Nat → Nat} {aa : Nat → Nat → Nat} {pa : Nat → Nat} {hs : Nat} {bv : Nat} {ba : Nat → Int32} {za zv : Nat → Nat} {Y : YB} (K : Int32 × FS → Prop) (E : mE D cy RL cL_lays 5 (some .boolean) wsL_lays A p s m args meth c) (hZ : mZ za zv A s s.heap) (hY : mY Y A s s.heap) (un : Int32) (bm : Nat) (bc : Nat → Nat) (hT : ∀ j, j < bm → ba j = sb_b (bc j) ∧ bc j < 256) : ∀ (n9 : Nat) (x2 : Int32) (u : FS) (H : Heap) (locs : List Loc) (ls : Array Slot), lv_has ls 5 [(0, .ref hLn), (1, .ref hs), (2, .int x2)] → va_P D kCl (([lwW hLn (ad 0) Y.2.1 lbn un, wF cy ad hh aa pa u, wST cy hs bv bm ba] : List va_W).flatten) H → va_D A (([lwW hLn (ad 0) Y.2.1 lbn un, wF cy ad hh aa pa u, wST cy hs bv bm ba] : List va_W).flatten) → va_S A s.heap H locs → Ok (lop (fun y z => fL_lays_b15 y z.1 Y un z.2 bm bc) n9 (x2, u)) K → kW p l e rmL_lays s m args below meth c H locs (va_Qi (fun r q => K (r, q)) (fun q => kPost D A (([lwW hLn (ad 0) Y.2.1 lbn un, wF cy ad hh aa pa q, wST cy hs bv bm ba] : List va_W).flatten)) A) A 15 ls [] := by
  intro n9
  induction n9 with
  | zero =>
    intro x2 u H locs ls hl hP hD hS h1
    exact h1.no
  | succ n9 ih =>
    intro x2 u H locs ls hl hP hD hS h1
    exact tL_lays_b15 K E hZ hY un bm bc hT (lop (fun y z => fL_lays_b15 y z.1 Y un z.2 bm bc) n9) (fun x2 u H locs ls hl hP hD hS h1 => ih x2 u H locs ls hl hP hD hS h1) x2 u H locs ls hl hP hD hS h1
def fL_lays_b0 (Y : YB) (un : Int32) (u : FS) (bm : Nat) (bc : Nat → Nat) : Option (Int32 × FS) :=
  bnd2 (fL_truncateText 0 u) (fun r5 u5 => (if r5 = 0 then lop (fun y z => fL_lays_b15 y z.1 Y un z.2 bm bc) LF (0, u5) else some (0, u5)))
set_option maxHeartbeats 4000000 in
set_option maxRecDepth 100000 in
theorem tL_lays_b0 {p : Program} {l : Launch} {e : Env} {s : State} {m : MethodId} {args : Array Value} {below : List Frame} {meth : Method} {c : Code} {D : va_G} {cy : Nat → ClassId} {A : Nat → Prop} {hLn : Nat} {lbn : Nat} {ad : Nat → Nat} {hh : Nat → Nat} {aa : Nat → Nat → Nat} {pa : Nat → Nat} {hs : Nat} {bv : Nat} {ba : Nat → Int32} {za zv : Nat → Nat} {Y : YB} (K : Int32 × FS → Prop) (E : mE D cy RL cL_lays 5 (some .boolean) wsL_lays A p s m args meth c) (hZ : mZ za zv A s s.heap) (hY : mY Y A s s.heap) (un : Int32) (bm : Nat) (bc : Nat → Nat) (hT : ∀ j, j < bm → ba j = sb_b (bc j) ∧ bc j < 256)
     (u : FS) (H : Heap) (locs : List Loc) (ls : Array Slot) (hl : lv_has ls 5 [(0, .ref hLn), (1, .ref hs)]) (hP : va_P D kCl (([lwW hLn (ad 0) Y.2.1 lbn un, wF cy ad hh aa pa u, wST cy hs bv bm ba] : List va_W).flatten) H) (hD : va_D A (([lwW hLn (ad 0) Y.2.1 lbn un, wF cy ad hh aa pa u, wST cy hs bv bm ba] : List va_W).flatten)) (hS : va_S A s.heap H locs) (h1 : Ok (fL_lays_b0 Y un u bm bc) K) :
    kW p l e rmL_lays s m args below meth c H locs (va_Qi (fun r q => K (r, q)) (fun q => kPost D A (([lwW hLn (ad 0) Y.2.1 lbn un, wF cy ad hh aa pa q, wST cy hs bv bm ba] : List va_W).flatten)) A) A 0 ls [] := by
  obtain ⟨hx, hb, hr, hml, hown, hts, hlocks, hK, hA⟩ := id E
  unfold fL_lays_b0 at h1
  refine lv_aload_n hx hb dL_lays_0 rfl (lv_at hl 0 rfl) ?_
  refine k_get (v := .ref (ad 0)) (C := RL) (T := TL) (N := 4) hx hb hts inL_lays_L hown hK hP 0 rfl rfl 0 (by decide) lkL_lays_10 rfl dL_lays_1 ?_
  refine lv_iconst (v := 0) hx hb dL_lays_4 rfl ?_
  refine kh_iS (As := [.ref (ad 0), .int 0]) (rest := []) h1 ⟨hx, hb, hml, hown, hts⟩ (cL_truncateTextM l D cy ad hh aa pa H.size u 0) (vx_cwSW 2 hts gL_lays_L_truncateText rfl rfl rfl heL_truncateText ⟨Nat.le_of_ble_eq_true rfl, Nat.le_of_ble_eq_true rfl⟩) hK (k_sel1 (l := [lwW hLn (ad 0) Y.2.1 lbn un, wF cy ad hh aa pa u, wST cy hs bv bm ba]) (n := 3) 1 [0, 2] rfl rfl (by decide)) hP hD hS hA rfl hl.1 rfl (Nat.le_of_ble_eq_true rfl) dL_lays_5 ⟨Nat.zero_le _, Nat.zero_le _⟩ (fun r5 u5 H locs h1 hP hD hS => ?_)
  replace hP := kP_perm (List.Perm.symm (k_sel1 (l := [lwW hLn (ad 0) Y.2.1 lbn un, wF cy ad hh aa pa u5, wST cy hs bv bm ba]) (n := 3) 1 [0, 2] rfl rfl (by decide))) hP
  replace hD := kD_perm (List.Perm.symm (k_sel1 (l := [lwW hLn (ad 0) Y.2.1 lbn un, wF cy ad hh aa pa u5, wST cy hs bv bm ba]) (n := 3) 1 [0, 2] rfl rfl (by decide))) hD
  refine lv_if_eq (tgt := 13) hx hb dL_lays_8 (by decide) (fun c8 => ?_) (fun c8 => ?_)
  · replace h1 := Ok.pos c8 h1
    refine lv_iconst (v := 0) hx hb dL_lays_13 rfl ?_
    refine lv_istore_n (lv' := [(2, .int 0), (0, .ref hLn), (1, .ref hs)]) hx hb dL_lays_14 rfl hl (by decide) rfl (fun ls hl => ?_)
    exact tL_lays_l15 K E hZ hY un bm bc hT LF 0 u5 H locs ls (lv_sub hl [1, 2, 0] rfl) hP hD hS h1
  · replace h1 := Ok.neg c8 h1
    refine lv_iconst (v := 0) hx hb dL_lays_11 rfl ?_
    exact kret_iz hx hb hr rfl hlocks hP hD hS h1 dL_lays_12
def fL_lays (Y : YB) (un : Int32) (u : FS) (bm : Nat) (bc : Nat → Nat) : Option (Int32 × FS) := fL_lays_b0 Y un u bm bc
set_option maxHeartbeats 4000000 in
set_option maxRecDepth 100000 in
theorem cL_laysM (l : Launch) (D : va_G) (cy : Nat → ClassId) (za zv : Nat → Nat) (Y : YB) (hLn : Nat) (lbn : Nat) (ad : Nat → Nat) (hh : Nat → Nat) (aa : Nat → Nat → Nat) (pa : Nat → Nat) (hs : Nat) (bv : Nat) (ba : Nat → Int32) (sz : Nat) (un : Int32) (u : FS) (bm : Nat) (bc : Nat → Nat) (hT : ∀ j, j < bm → ba j = sb_b (bc j) ∧ bc j < 256) : ∀ (K : Int32 → FS → Prop), Ok (fL_lays Y un u bm bc) (fun q => K q.1 q.2) → Met l yL_lays wsL_lays rmL_lays (va_Pc [.ref hLn, .ref hs] (kPreY D cy za zv Y sz (([lwW hLn (ad 0) Y.2.1 lbn un, wF cy ad hh aa pa u, wST cy hs bv bm ba] : List va_W).flatten))) (va_Qi K (fun q => kPost D (va_A (([lwW hLn (ad 0) Y.2.1 lbn un, wF cy ad hh aa pa u, wST cy hs bv bm ba] : List va_W).flatten) sz) (([lwW hLn (ad 0) Y.2.1 lbn un, wF cy ad hh aa pa q, wST cy hs bv bm ba] : List va_W).flatten)) (va_A (([lwW hLn (ad 0) Y.2.1 lbn un, wF cy ad hh aa pa u, wST cy hs bv bm ba] : List va_W).flatten) sz)) 0 0 (va_A (([lwW hLn (ad 0) Y.2.1 lbn un, wF cy ad hh aa pa u, wST cy hs bv bm ba] : List va_W).flatten) sz) := by
  intro K h1
  refine Met.ofW (cc := cL_lays) (maxL := 5) (ret := (some .boolean)) (by decide) rfl ?_
  intro p e s m args below meth c s₁ B hml hv
  obtain ⟨rfl, ⟨⟨hsz, hP, hK, hD0⟩, hZ⟩, hY⟩ := hv
  subst hsz
  have E : mE D cy RL cL_lays 5 (some .boolean) wsL_lays (va_A (([lwW hLn (ad 0) Y.2.1 lbn un, wF cy ad hh aa pa u, wST cy hs bv bm ba] : List va_W).flatten) s.heap.size) p s m _ meth c := ⟨B.exec, B.bytes, B.returns, hml, findClass_of_methodNamed B.named, atoms_spec (ws := wsL_lays) B.pre, B.notSynchronized, hK, fun q h => Or.inr h⟩
  have hl := lv_entry ([.ref hLn, .ref hs]) (n := 5) (Nat.le_of_ble_eq_true rfl)
  rw [lg_entry_eq]
  generalize (lg_sl ([.ref hLn, .ref hs]) ++ List.replicate (5 - (lg_sl ([.ref hLn, .ref hs])).length) Slot.unset).toArray = ls at hl ⊢
  exact tL_lays_b0 (fun q => K q.1 q.2) E hZ hY un bm bc hT u _ _ _ hl hP hD0.self va_S.rf h1
