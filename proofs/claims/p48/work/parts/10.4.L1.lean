-- L_ticks
theorem inL_ticks_L : ∀ w ∈ u_ws RL TL 4, w ∈ wsL_ticks := k_lays 229 rfl
theorem lkL_ticks_10 : Cond.fieldLink RL 10 "FerryRampLaw" "x" "LFerryRamp;" ∈ wsL_ticks := List.mem_of_getElem? (i := 1) rfl
theorem heL_count : yL_count.cls ≠ "java/lang/invoke/MethodHandle" ∧ yL_count.cls ≠ "java/lang/invoke/VarHandle" ∧ (parseMethodDescriptor yL_count.desc).map (fun d => d.parameters.length) = some 2 := by decide +kernel
theorem hdX9_queued : yX9_queued.cls = RX9 ∧ yX9_queued.cls ≠ "java/lang/invoke/MethodHandle" ∧ yX9_queued.cls ≠ "java/lang/invoke/VarHandle" ∧ (parseMethodDescriptor yX9_queued.desc).map (fun d => d.parameters.length) = some 1 := by decide +kernel
theorem hdX9_startIn : yX9_startIn.cls = RX9 ∧ yX9_startIn.cls ≠ "java/lang/invoke/MethodHandle" ∧ yX9_startIn.cls ≠ "java/lang/invoke/VarHandle" ∧ (parseMethodDescriptor yX9_startIn.desc).map (fun d => d.parameters.length) = some 0 := by decide +kernel
theorem heL_boardIn : yL_boardIn.cls ≠ "java/lang/invoke/MethodHandle" ∧ yL_boardIn.cls ≠ "java/lang/invoke/VarHandle" ∧ (parseMethodDescriptor yL_boardIn.desc).map (fun d => d.parameters.length) = some 2 := by decide +kernel
theorem hdX9_wakesIn : yX9_wakesIn.cls = RX9 ∧ yX9_wakesIn.cls ≠ "java/lang/invoke/MethodHandle" ∧ yX9_wakesIn.cls ≠ "java/lang/invoke/VarHandle" ∧ (parseMethodDescriptor yX9_wakesIn.desc).map (fun d => d.parameters.length) = some 0 := by decide +kernel
theorem heL_setting : yL_setting.cls ≠ "java/lang/invoke/MethodHandle" ∧ yL_setting.cls ≠ "java/lang/invoke/VarHandle" ∧ (parseMethodDescriptor yL_setting.desc).map (fun d => d.parameters.length) = some 2 := by decide +kernel
theorem heL_deck : yL_deck.cls ≠ "java/lang/invoke/MethodHandle" ∧ yL_deck.cls ≠ "java/lang/invoke/VarHandle" ∧ (parseMethodDescriptor yL_deck.desc).map (fun d => d.parameters.length) = some 2 := by decide +kernel
theorem heL_tick : yL_tick.cls ≠ "java/lang/invoke/MethodHandle" ∧ yL_tick.cls ≠ "java/lang/invoke/VarHandle" ∧ (parseMethodDescriptor yL_tick.desc).map (fun d => d.parameters.length) = some 2 := by decide +kernel
theorem heL_whyNot : yL_whyNot.cls ≠ "java/lang/invoke/MethodHandle" ∧ yL_whyNot.cls ≠ "java/lang/invoke/VarHandle" ∧ (parseMethodDescriptor yL_whyNot.desc).map (fun d => d.parameters.length) = some 2 := by decide +kernel
theorem heL_call : yL_call.cls ≠ "java/lang/invoke/MethodHandle" ∧ yL_call.cls ≠ "java/lang/invoke/VarHandle" ∧ (parseMethodDescriptor yL_call.desc).map (fun d => d.parameters.length) = some 3 := by decide +kernel
theorem heL_car : yL_car.cls ≠ "java/lang/invoke/MethodHandle" ∧ yL_car.cls ≠ "java/lang/invoke/VarHandle" ∧ (parseMethodDescriptor yL_car.desc).map (fun d => d.parameters.length) = some 3 := by decide +kernel
abbrev rmL_ticks : Room := { frames := 8, cells := 0, slots := 0, locals := 185 }
def fL_ticks_b831 (x8 : Int32) (s0 : Int32) (s1 : Int32) (Y : YB) (un : Int32) (u : FS) : Option (Int32 × FS) :=
  (if s0 = s1 then bnd (fL_count 11 u) (fun r840 => (if r840 = 0 then bnd (fL_setting 13 u) (fun r856 => (if (x8 + 1) < r856 then some (0, u) else some (1, u))) else some (0, u))) else some (0, u))
set_option maxHeartbeats 4000000 in
set_option maxRecDepth 100000 in
theorem tL_ticks_b831 {p : Program} {l : Launch} {e : Env} {s : State} {m : MethodId} {args : Array Value} {below : List Frame} {meth : Method} {c : Code} {D : va_G} {cy : Nat → ClassId} {A : Nat → Prop} {hLn : Nat} {lbn : Nat} {ad : Nat → Nat} {hh : Nat → Nat} {aa : Nat → Nat → Nat} {pa : Nat → Nat} {za zv : Nat → Nat} {Y : YB} (K : Int32 × FS → Prop) (E : mE D cy RL cL_ticks 23 (some .boolean) wsL_ticks A p s m args meth c) (hZ : mZ za zv A s s.heap) (hY : mY Y A s s.heap) (un : Int32)
     (x8 : Int32) (s0 : Int32) (s1 : Int32) (u : FS) (H : Heap) (locs : List Loc) (ls : Array Slot) (hl : lv_has ls 23 [(0, .ref hLn), (8, .int x8)]) (hP : va_P D kCl (([lwW hLn (ad 0) Y.2.1 lbn un, wF cy ad hh aa pa u] : List va_W).flatten) H) (hD : va_D A (([lwW hLn (ad 0) Y.2.1 lbn un, wF cy ad hh aa pa u] : List va_W).flatten)) (hS : va_S A s.heap H locs) (h1 : Ok (fL_ticks_b831 x8 s0 s1 Y un u) K) :
    kW p l e rmL_ticks s m args below meth c H locs (va_Qi (fun r q => K (r, q)) (fun q => kPost D A (([lwW hLn (ad 0) Y.2.1 lbn un, wF cy ad hh aa pa q] : List va_W).flatten)) A) A 831 ls [.int s1, .int s0] := by
  obtain ⟨hx, hb, hr, hml, hown, hts, hlocks, hK, hA⟩ := id E
  unfold fL_ticks_b831 at h1
  refine lv_icmp_ne (tgt := 866) hx hb dL_ticks_831 (by decide) (fun c831 => ?_) (fun c831 => ?_)
  · replace h1 := Ok.neg c831 h1
    refine lv_iconst (v := 0) hx hb dL_ticks_866 rfl ?_
    exact kret_iz hx hb hr rfl hlocks hP hD hS h1 dL_ticks_867
  · replace h1 := Ok.pos c831 h1
    refine lv_aload_n hx hb dL_ticks_834 rfl (lv_at hl 0 rfl) ?_
    refine k_get (v := .ref (ad 0)) (C := RL) (T := TL) (N := 4) hx hb hts inL_ticks_L hown hK hP 0 rfl rfl 0 (by decide) lkL_ticks_10 rfl dL_ticks_835 ?_
    refine lv_bipush (v := 11) hx hb dL_ticks_838 rfl ?_
    refine kh_rS (As := [.ref (ad 0), .int 11]) (rest := []) h1 ⟨hx, hb, hml, hown, hts⟩ (cL_countM l D cy ad hh aa pa H.size u 11) (vx_cwSW 2 hts gL_ticks_L_count rfl rfl rfl heL_count ⟨Nat.le_of_ble_eq_true rfl, Nat.le_of_ble_eq_true rfl⟩) hK (k_sel1 (l := [lwW hLn (ad 0) Y.2.1 lbn un, wF cy ad hh aa pa u]) (n := 2) 1 [0] rfl rfl (by decide)) hP hD hS hA rfl hl.1 rfl (Nat.le_of_ble_eq_true rfl) dL_ticks_840 ⟨Nat.zero_le _, Nat.zero_le _⟩ (fun r840 H locs h1 hP hS => ?_)
    refine lv_if_ne (tgt := 866) hx hb dL_ticks_843 (by decide) (fun c843 => ?_) (fun c843 => ?_)
    · replace h1 := Ok.neg c843 h1
      refine lv_iconst (v := 0) hx hb dL_ticks_866 rfl ?_
      exact kret_iz hx hb hr rfl hlocks hP hD hS h1 dL_ticks_867
    · replace h1 := Ok.pos c843 h1
      refine lv_iload hx hb dL_ticks_846 (lv_at hl 1 rfl) ?_
      refine lv_iconst (v := 1) hx hb dL_ticks_848 rfl ?_
      refine lv_iadd hx hb dL_ticks_849 ?_
      refine lv_aload_n hx hb dL_ticks_850 rfl (lv_at hl 0 rfl) ?_
      refine k_get (v := .ref (ad 0)) (C := RL) (T := TL) (N := 4) hx hb hts inL_ticks_L hown hK hP 0 rfl rfl 0 (by decide) lkL_ticks_10 rfl dL_ticks_851 ?_
      refine lv_bipush (v := 13) hx hb dL_ticks_854 rfl ?_
      refine kh_rS (As := [.ref (ad 0), .int 13]) (rest := [.int (x8 + 1)]) h1 ⟨hx, hb, hml, hown, hts⟩ (cL_settingM l D cy ad hh aa pa H.size u 13) (vx_cwSW 2 hts gL_ticks_L_setting rfl rfl rfl heL_setting ⟨Nat.le_of_ble_eq_true rfl, Nat.le_of_ble_eq_true rfl⟩) hK (k_sel1 (l := [lwW hLn (ad 0) Y.2.1 lbn un, wF cy ad hh aa pa u]) (n := 2) 1 [0] rfl rfl (by decide)) hP hD hS hA rfl hl.1 rfl (Nat.le_of_ble_eq_true rfl) dL_ticks_856 ⟨Nat.zero_le _, Nat.zero_le _⟩ (fun r856 H locs h1 hP hS => ?_)
      refine lv_icmp_lt (tgt := 866) hx hb dL_ticks_859 (by decide) (fun c859 => ?_) (fun c859 => ?_)
      · replace h1 := Ok.pos c859 h1
        refine lv_iconst (v := 0) hx hb dL_ticks_866 rfl ?_
        exact kret_iz hx hb hr rfl hlocks hP hD hS h1 dL_ticks_867
      · replace h1 := Ok.neg c859 h1
        refine lv_iconst (v := 1) hx hb dL_ticks_862 rfl ?_
        refine lv_goto (tgt := 867) hx hb dL_ticks_863 (by decide) ?_
        exact kret_iz hx hb hr rfl hlocks hP hD hS h1 dL_ticks_867
def fL_ticks_b734 (x7 : Int32) (x8 : Int32) (x9 : Int32) (x21 : Int32) (x22 : Int32) (Y : YB) (un : Int32) (u : FS) : Option (Int32 × FS) :=
  bnd (fL_count 12 u) (fun r740 => (if r740 ≤ x9 then (if x22 = 0 then bnd (fL_count 11 u) (fun r879 => (if r879 = x8 then some (1, u) else bnd (fL_count 11 u) (fun r893 => (if r893 = (x8 + 1) then bnd (fL_whyNot x7 u) (fun r909 => (if r909 ≤ 2 then some (0, u) else some (1, u))) else some (0, u))))) else some (1, u)) else bnd (fL_count 12 u) (fun r754 => (if r754 = (x9 + 1) then bnd (fL_call 0 0 u) (fun r770 => bnd (fL_count 0 u) (fun r778 => (if r770 = r778 then bnd (fL_call 0 1 u) (fun r790 => (if r790 = x7 then bnd (fL_call 0 2 u) (fun r804 => (if r804 ≤ 1 then some (0, u) else bnd (fL_call 0 3 u) (fun r817 => (if x22 = 0 then fL_ticks_b831 x8 r817 (-1) Y un u else fL_ticks_b831 x8 r817 x21 Y un u)))) else some (0, u))) else some (0, u)))) else some (0, u)))))
set_option maxHeartbeats 4000000 in
set_option maxRecDepth 100000 in
theorem tL_ticks_b734 {p : Program} {l : Launch} {e : Env} {s : State} {m : MethodId} {args : Array Value} {below : List Frame} {meth : Method} {c : Code} {D : va_G} {cy : Nat → ClassId} {A : Nat → Prop} {hLn : Nat} {lbn : Nat} {ad : Nat → Nat} {hh : Nat → Nat} {aa : Nat → Nat → Nat} {pa : Nat → Nat} {za zv : Nat → Nat} {Y : YB} (K : Int32 × FS → Prop) (E : mE D cy RL cL_ticks 23 (some .boolean) wsL_ticks A p s m args meth c) (hZ : mZ za zv A s s.heap) (hY : mY Y A s s.heap) (un : Int32)
     (x7 : Int32) (x8 : Int32) (x9 : Int32) (x21 : Int32) (x22 : Int32) (u : FS) (H : Heap) (locs : List Loc) (ls : Array Slot) (hl : lv_has ls 23 [(0, .ref hLn), (7, .int x7), (8, .int x8), (9, .int x9), (21, .int x21), (22, .int x22)]) (hP : va_P D kCl (([lwW hLn (ad 0) Y.2.1 lbn un, wF cy ad hh aa pa u] : List va_W).flatten) H) (hD : va_D A (([lwW hLn (ad 0) Y.2.1 lbn un, wF cy ad hh aa pa u] : List va_W).flatten)) (hS : va_S A s.heap H locs) (h1 : Ok (fL_ticks_b734 x7 x8 x9 x21 x22 Y un u) K) :
    kW p l e rmL_ticks s m args below meth c H locs (va_Qi (fun r q => K (r, q)) (fun q => kPost D A (([lwW hLn (ad 0) Y.2.1 lbn un, wF cy ad hh aa pa q] : List va_W).flatten)) A) A 734 ls [] := by
  obtain ⟨hx, hb, hr, hml, hown, hts, hlocks, hK, hA⟩ := id E
  unfold fL_ticks_b734 at h1
  refine lv_aload_n hx hb dL_ticks_734 rfl (lv_at hl 0 rfl) ?_
  refine k_get (v := .ref (ad 0)) (C := RL) (T := TL) (N := 4) hx hb hts inL_ticks_L hown hK hP 0 rfl rfl 0 (by decide) lkL_ticks_10 rfl dL_ticks_735 ?_
  refine lv_bipush (v := 12) hx hb dL_ticks_738 rfl ?_
  refine kh_rS (As := [.ref (ad 0), .int 12]) (rest := []) h1 ⟨hx, hb, hml, hown, hts⟩ (cL_countM l D cy ad hh aa pa H.size u 12) (vx_cwSW 2 hts gL_ticks_L_count rfl rfl rfl heL_count ⟨Nat.le_of_ble_eq_true rfl, Nat.le_of_ble_eq_true rfl⟩) hK (k_sel1 (l := [lwW hLn (ad 0) Y.2.1 lbn un, wF cy ad hh aa pa u]) (n := 2) 1 [0] rfl rfl (by decide)) hP hD hS hA rfl hl.1 rfl (Nat.le_of_ble_eq_true rfl) dL_ticks_740 ⟨Nat.zero_le _, Nat.zero_le _⟩ (fun r740 H locs h1 hP hS => ?_)
  refine lv_iload hx hb dL_ticks_743 (lv_at hl 3 rfl) ?_
  refine lv_icmp_le (tgt := 868) hx hb dL_ticks_745 (by decide) (fun c745 => ?_) (fun c745 => ?_)
  · replace h1 := Ok.pos c745 h1
    refine lv_iload hx hb dL_ticks_868 (lv_at hl 5 rfl) ?_
    refine lv_if_ne (tgt := 916) hx hb dL_ticks_870 (by decide) (fun c870 => ?_) (fun c870 => ?_)
    · replace h1 := Ok.neg c870 h1
      refine lv_iconst (v := 1) hx hb dL_ticks_916 rfl ?_
      refine lv_goto (tgt := 921) hx hb dL_ticks_917 (by decide) ?_
      exact kret_iz hx hb hr rfl hlocks hP hD hS h1 dL_ticks_921
    · replace h1 := Ok.pos c870 h1
      refine lv_aload_n hx hb dL_ticks_873 rfl (lv_at hl 0 rfl) ?_
      refine k_get (v := .ref (ad 0)) (C := RL) (T := TL) (N := 4) hx hb hts inL_ticks_L hown hK hP 0 rfl rfl 0 (by decide) lkL_ticks_10 rfl dL_ticks_874 ?_
      refine lv_bipush (v := 11) hx hb dL_ticks_877 rfl ?_
      refine kh_rS (As := [.ref (ad 0), .int 11]) (rest := []) h1 ⟨hx, hb, hml, hown, hts⟩ (cL_countM l D cy ad hh aa pa H.size u 11) (vx_cwSW 2 hts gL_ticks_L_count rfl rfl rfl heL_count ⟨Nat.le_of_ble_eq_true rfl, Nat.le_of_ble_eq_true rfl⟩) hK (k_sel1 (l := [lwW hLn (ad 0) Y.2.1 lbn un, wF cy ad hh aa pa u]) (n := 2) 1 [0] rfl rfl (by decide)) hP hD hS hA rfl hl.1 rfl (Nat.le_of_ble_eq_true rfl) dL_ticks_879 ⟨Nat.zero_le _, Nat.zero_le _⟩ (fun r879 H locs h1 hP hS => ?_)
      refine lv_iload hx hb dL_ticks_882 (lv_at hl 2 rfl) ?_
      refine lv_icmp_eq (tgt := 916) hx hb dL_ticks_884 (by decide) (fun c884 => ?_) (fun c884 => ?_)
      · replace h1 := Ok.pos c884 h1
        refine lv_iconst (v := 1) hx hb dL_ticks_916 rfl ?_
        refine lv_goto (tgt := 921) hx hb dL_ticks_917 (by decide) ?_
        exact kret_iz hx hb hr rfl hlocks hP hD hS h1 dL_ticks_921
      · replace h1 := Ok.neg c884 h1
        refine lv_aload_n hx hb dL_ticks_887 rfl (lv_at hl 0 rfl) ?_
        refine k_get (v := .ref (ad 0)) (C := RL) (T := TL) (N := 4) hx hb hts inL_ticks_L hown hK hP 0 rfl rfl 0 (by decide) lkL_ticks_10 rfl dL_ticks_888 ?_
        refine lv_bipush (v := 11) hx hb dL_ticks_891 rfl ?_
        refine kh_rS (As := [.ref (ad 0), .int 11]) (rest := []) h1 ⟨hx, hb, hml, hown, hts⟩ (cL_countM l D cy ad hh aa pa H.size u 11) (vx_cwSW 2 hts gL_ticks_L_count rfl rfl rfl heL_count ⟨Nat.le_of_ble_eq_true rfl, Nat.le_of_ble_eq_true rfl⟩) hK (k_sel1 (l := [lwW hLn (ad 0) Y.2.1 lbn un, wF cy ad hh aa pa u]) (n := 2) 1 [0] rfl rfl (by decide)) hP hD hS hA rfl hl.1 rfl (Nat.le_of_ble_eq_true rfl) dL_ticks_893 ⟨Nat.zero_le _, Nat.zero_le _⟩ (fun r893 H locs h1 hP hS => ?_)
        refine lv_iload hx hb dL_ticks_896 (lv_at hl 2 rfl) ?_
        refine lv_iconst (v := 1) hx hb dL_ticks_898 rfl ?_
        refine lv_iadd hx hb dL_ticks_899 ?_
        refine lv_icmp_ne (tgt := 920) hx hb dL_ticks_900 (by decide) (fun c900 => ?_) (fun c900 => ?_)
        · replace h1 := Ok.neg c900 h1
          refine lv_iconst (v := 0) hx hb dL_ticks_920 rfl ?_
          exact kret_iz hx hb hr rfl hlocks hP hD hS h1 dL_ticks_921
        · replace h1 := Ok.pos c900 h1
          refine lv_aload_n hx hb dL_ticks_903 rfl (lv_at hl 0 rfl) ?_
          refine k_get (v := .ref (ad 0)) (C := RL) (T := TL) (N := 4) hx hb hts inL_ticks_L hown hK hP 0 rfl rfl 0 (by decide) lkL_ticks_10 rfl dL_ticks_904 ?_
          refine lv_iload hx hb dL_ticks_907 (lv_at hl 1 rfl) ?_
          refine kh_rS (As := [.ref (ad 0), .int x7]) (rest := []) h1 ⟨hx, hb, hml, hown, hts⟩ (cL_whyNotM l D cy ad hh aa pa H.size u x7) (vx_cwSW 2 hts gL_ticks_L_whyNot rfl rfl rfl heL_whyNot ⟨Nat.le_of_ble_eq_true rfl, Nat.le_of_ble_eq_true rfl⟩) hK (k_sel1 (l := [lwW hLn (ad 0) Y.2.1 lbn un, wF cy ad hh aa pa u]) (n := 2) 1 [0] rfl rfl (by decide)) hP hD hS hA rfl hl.1 rfl (Nat.le_of_ble_eq_true rfl) dL_ticks_909 ⟨Nat.zero_le _, Nat.zero_le _⟩ (fun r909 H locs h1 hP hS => ?_)
          refine lv_iconst (v := 2) hx hb dL_ticks_912 rfl ?_
          refine lv_icmp_le (tgt := 920) hx hb dL_ticks_913 (by decide) (fun c913 => ?_) (fun c913 => ?_)
          · replace h1 := Ok.pos c913 h1
            refine lv_iconst (v := 0) hx hb dL_ticks_920 rfl ?_
            exact kret_iz hx hb hr rfl hlocks hP hD hS h1 dL_ticks_921
          · replace h1 := Ok.neg c913 h1
            refine lv_iconst (v := 1) hx hb dL_ticks_916 rfl ?_
            refine lv_goto (tgt := 921) hx hb dL_ticks_917 (by decide) ?_
            exact kret_iz hx hb hr rfl hlocks hP hD hS h1 dL_ticks_921
  · replace h1 := Ok.neg c745 h1
    refine lv_aload_n hx hb dL_ticks_748 rfl (lv_at hl 0 rfl) ?_
    refine k_get (v := .ref (ad 0)) (C := RL) (T := TL) (N := 4) hx hb hts inL_ticks_L hown hK hP 0 rfl rfl 0 (by decide) lkL_ticks_10 rfl dL_ticks_749 ?_
    refine lv_bipush (v := 12) hx hb dL_ticks_752 rfl ?_
    refine kh_rS (As := [.ref (ad 0), .int 12]) (rest := []) h1 ⟨hx, hb, hml, hown, hts⟩ (cL_countM l D cy ad hh aa pa H.size u 12) (vx_cwSW 2 hts gL_ticks_L_count rfl rfl rfl heL_count ⟨Nat.le_of_ble_eq_true rfl, Nat.le_of_ble_eq_true rfl⟩) hK (k_sel1 (l := [lwW hLn (ad 0) Y.2.1 lbn un, wF cy ad hh aa pa u]) (n := 2) 1 [0] rfl rfl (by decide)) hP hD hS hA rfl hl.1 rfl (Nat.le_of_ble_eq_true rfl) dL_ticks_754 ⟨Nat.zero_le _, Nat.zero_le _⟩ (fun r754 H locs h1 hP hS => ?_)
    refine lv_iload hx hb dL_ticks_757 (lv_at hl 3 rfl) ?_
    refine lv_iconst (v := 1) hx hb dL_ticks_759 rfl ?_
    refine lv_iadd hx hb dL_ticks_760 ?_
    refine lv_icmp_ne (tgt := 866) hx hb dL_ticks_761 (by decide) (fun c761 => ?_) (fun c761 => ?_)
    · replace h1 := Ok.neg c761 h1
      refine lv_iconst (v := 0) hx hb dL_ticks_866 rfl ?_
      exact kret_iz hx hb hr rfl hlocks hP hD hS h1 dL_ticks_867
    · replace h1 := Ok.pos c761 h1
      refine lv_aload_n hx hb dL_ticks_764 rfl (lv_at hl 0 rfl) ?_
      refine k_get (v := .ref (ad 0)) (C := RL) (T := TL) (N := 4) hx hb hts inL_ticks_L hown hK hP 0 rfl rfl 0 (by decide) lkL_ticks_10 rfl dL_ticks_765 ?_
      refine lv_iconst (v := 0) hx hb dL_ticks_768 rfl ?_
      refine lv_iconst (v := 0) hx hb dL_ticks_769 rfl ?_
      refine kh_rS (As := [.ref (ad 0), .int 0, .int 0]) (rest := []) h1 ⟨hx, hb, hml, hown, hts⟩ (cL_callM l D cy ad hh aa pa H.size u 0 0) (vx_cwSW 3 hts gL_ticks_L_call rfl rfl rfl heL_call ⟨Nat.le_of_ble_eq_true rfl, Nat.le_of_ble_eq_true rfl⟩) hK (k_sel1 (l := [lwW hLn (ad 0) Y.2.1 lbn un, wF cy ad hh aa pa u]) (n := 2) 1 [0] rfl rfl (by decide)) hP hD hS hA rfl hl.1 rfl (Nat.le_of_ble_eq_true rfl) dL_ticks_770 ⟨Nat.zero_le _, Nat.zero_le _⟩ (fun r770 H locs h1 hP hS => ?_)
      refine lv_aload_n hx hb dL_ticks_773 rfl (lv_at hl 0 rfl) ?_
      refine k_get (v := .ref (ad 0)) (C := RL) (T := TL) (N := 4) hx hb hts inL_ticks_L hown hK hP 0 rfl rfl 0 (by decide) lkL_ticks_10 rfl dL_ticks_774 ?_
      refine lv_iconst (v := 0) hx hb dL_ticks_777 rfl ?_
      refine kh_rS (As := [.ref (ad 0), .int 0]) (rest := [.int r770]) h1 ⟨hx, hb, hml, hown, hts⟩ (cL_countM l D cy ad hh aa pa H.size u 0) (vx_cwSW 2 hts gL_ticks_L_count rfl rfl rfl heL_count ⟨Nat.le_of_ble_eq_true rfl, Nat.le_of_ble_eq_true rfl⟩) hK (k_sel1 (l := [lwW hLn (ad 0) Y.2.1 lbn un, wF cy ad hh aa pa u]) (n := 2) 1 [0] rfl rfl (by decide)) hP hD hS hA rfl hl.1 rfl (Nat.le_of_ble_eq_true rfl) dL_ticks_778 ⟨Nat.zero_le _, Nat.zero_le _⟩ (fun r778 H locs h1 hP hS => ?_)
      refine lv_icmp_ne (tgt := 866) hx hb dL_ticks_781 (by decide) (fun c781 => ?_) (fun c781 => ?_)
      · replace h1 := Ok.neg c781 h1
        refine lv_iconst (v := 0) hx hb dL_ticks_866 rfl ?_
        exact kret_iz hx hb hr rfl hlocks hP hD hS h1 dL_ticks_867
      · replace h1 := Ok.pos c781 h1
        refine lv_aload_n hx hb dL_ticks_784 rfl (lv_at hl 0 rfl) ?_
        refine k_get (v := .ref (ad 0)) (C := RL) (T := TL) (N := 4) hx hb hts inL_ticks_L hown hK hP 0 rfl rfl 0 (by decide) lkL_ticks_10 rfl dL_ticks_785 ?_
        refine lv_iconst (v := 0) hx hb dL_ticks_788 rfl ?_
        refine lv_iconst (v := 1) hx hb dL_ticks_789 rfl ?_
        refine kh_rS (As := [.ref (ad 0), .int 0, .int 1]) (rest := []) h1 ⟨hx, hb, hml, hown, hts⟩ (cL_callM l D cy ad hh aa pa H.size u 0 1) (vx_cwSW 3 hts gL_ticks_L_call rfl rfl rfl heL_call ⟨Nat.le_of_ble_eq_true rfl, Nat.le_of_ble_eq_true rfl⟩) hK (k_sel1 (l := [lwW hLn (ad 0) Y.2.1 lbn un, wF cy ad hh aa pa u]) (n := 2) 1 [0] rfl rfl (by decide)) hP hD hS hA rfl hl.1 rfl (Nat.le_of_ble_eq_true rfl) dL_ticks_790 ⟨Nat.zero_le _, Nat.zero_le _⟩ (fun r790 H locs h1 hP hS => ?_)
        refine lv_iload hx hb dL_ticks_793 (lv_at hl 1 rfl) ?_
        refine lv_icmp_ne (tgt := 866) hx hb dL_ticks_795 (by decide) (fun c795 => ?_) (fun c795 => ?_)
        · replace h1 := Ok.neg c795 h1
          refine lv_iconst (v := 0) hx hb dL_ticks_866 rfl ?_
          exact kret_iz hx hb hr rfl hlocks hP hD hS h1 dL_ticks_867
        · replace h1 := Ok.pos c795 h1
          refine lv_aload_n hx hb dL_ticks_798 rfl (lv_at hl 0 rfl) ?_
          refine k_get (v := .ref (ad 0)) (C := RL) (T := TL) (N := 4) hx hb hts inL_ticks_L hown hK hP 0 rfl rfl 0 (by decide) lkL_ticks_10 rfl dL_ticks_799 ?_
          refine lv_iconst (v := 0) hx hb dL_ticks_802 rfl ?_
          refine lv_iconst (v := 2) hx hb dL_ticks_803 rfl ?_
          refine kh_rS (As := [.ref (ad 0), .int 0, .int 2]) (rest := []) h1 ⟨hx, hb, hml, hown, hts⟩ (cL_callM l D cy ad hh aa pa H.size u 0 2) (vx_cwSW 3 hts gL_ticks_L_call rfl rfl rfl heL_call ⟨Nat.le_of_ble_eq_true rfl, Nat.le_of_ble_eq_true rfl⟩) hK (k_sel1 (l := [lwW hLn (ad 0) Y.2.1 lbn un, wF cy ad hh aa pa u]) (n := 2) 1 [0] rfl rfl (by decide)) hP hD hS hA rfl hl.1 rfl (Nat.le_of_ble_eq_true rfl) dL_ticks_804 ⟨Nat.zero_le _, Nat.zero_le _⟩ (fun r804 H locs h1 hP hS => ?_)
          refine lv_iconst (v := 1) hx hb dL_ticks_807 rfl ?_
          refine lv_icmp_le (tgt := 866) hx hb dL_ticks_808 (by decide) (fun c808 => ?_) (fun c808 => ?_)
          · replace h1 := Ok.pos c808 h1
            refine lv_iconst (v := 0) hx hb dL_ticks_866 rfl ?_
            exact kret_iz hx hb hr rfl hlocks hP hD hS h1 dL_ticks_867
          · replace h1 := Ok.neg c808 h1
            refine lv_aload_n hx hb dL_ticks_811 rfl (lv_at hl 0 rfl) ?_
            refine k_get (v := .ref (ad 0)) (C := RL) (T := TL) (N := 4) hx hb hts inL_ticks_L hown hK hP 0 rfl rfl 0 (by decide) lkL_ticks_10 rfl dL_ticks_812 ?_
            refine lv_iconst (v := 0) hx hb dL_ticks_815 rfl ?_
            refine lv_iconst (v := 3) hx hb dL_ticks_816 rfl ?_
            refine kh_rS (As := [.ref (ad 0), .int 0, .int 3]) (rest := []) h1 ⟨hx, hb, hml, hown, hts⟩ (cL_callM l D cy ad hh aa pa H.size u 0 3) (vx_cwSW 3 hts gL_ticks_L_call rfl rfl rfl heL_call ⟨Nat.le_of_ble_eq_true rfl, Nat.le_of_ble_eq_true rfl⟩) hK (k_sel1 (l := [lwW hLn (ad 0) Y.2.1 lbn un, wF cy ad hh aa pa u]) (n := 2) 1 [0] rfl rfl (by decide)) hP hD hS hA rfl hl.1 rfl (Nat.le_of_ble_eq_true rfl) dL_ticks_817 ⟨Nat.zero_le _, Nat.zero_le _⟩ (fun r817 H locs h1 hP hS => ?_)
            refine lv_iload hx hb dL_ticks_820 (lv_at hl 5 rfl) ?_
            refine lv_if_eq (tgt := 830) hx hb dL_ticks_822 (by decide) (fun c822 => ?_) (fun c822 => ?_)
            · replace h1 := Ok.pos c822 h1
              refine lv_iconst (v := (-1)) hx hb dL_ticks_830 rfl ?_
              exact tL_ticks_b831 K E hZ hY un x8 r817 (-1) u H locs ls (lv_sub hl [0, 2] rfl) hP hD hS h1
            · replace h1 := Ok.neg c822 h1
              refine lv_iload hx hb dL_ticks_825 (lv_at hl 4 rfl) ?_
              refine lv_goto (tgt := 831) hx hb dL_ticks_827 (by decide) ?_
              exact tL_ticks_b831 K E hZ hY un x8 r817 x21 u H locs ls (lv_sub hl [0, 2] rfl) hP hD hS h1
def fL_ticks_b690 (x7 : Int32) (x8 : Int32) (x9 : Int32) (x21 : Int32) (x22 : Int32) (Y : YB) (un : Int32) (u : FS) : Option (Int32 × FS) :=
  bnd (fL_count 12 u) (fun r698 => (if r698 < x9 then some (0, u) else (if x22 = 0 then fL_ticks_b734 x7 x8 x9 x21 x22 Y un u else (if x21 = x7 then fL_ticks_b734 x7 x8 x9 x21 x22 Y un u else bnd (fL_count 12 u) (fun r722 => (if r722 = (x9 + 1) then fL_ticks_b734 x7 x8 x9 x21 x22 Y un u else some (0, u)))))))
set_option maxHeartbeats 4000000 in
set_option maxRecDepth 100000 in
theorem tL_ticks_b690 {p : Program} {l : Launch} {e : Env} {s : State} {m : MethodId} {args : Array Value} {below : List Frame} {meth : Method} {c : Code} {D : va_G} {cy : Nat → ClassId} {A : Nat → Prop} {hLn : Nat} {lbn : Nat} {ad : Nat → Nat} {hh : Nat → Nat} {aa : Nat → Nat → Nat} {pa : Nat → Nat} {za zv : Nat → Nat} {Y : YB} (K : Int32 × FS → Prop) (E : mE D cy RL cL_ticks 23 (some .boolean) wsL_ticks A p s m args meth c) (hZ : mZ za zv A s s.heap) (hY : mY Y A s s.heap) (un : Int32)
     (x7 : Int32) (x8 : Int32) (x9 : Int32) (x21 : Int32) (x22 : Int32) (u : FS) (H : Heap) (locs : List Loc) (ls : Array Slot) (hl : lv_has ls 23 [(0, .ref hLn), (7, .int x7), (8, .int x8), (9, .int x9), (21, .int x21), (22, .int x22)]) (hP : va_P D kCl (([lwW hLn (ad 0) Y.2.1 lbn un, wF cy ad hh aa pa u] : List va_W).flatten) H) (hD : va_D A (([lwW hLn (ad 0) Y.2.1 lbn un, wF cy ad hh aa pa u] : List va_W).flatten)) (hS : va_S A s.heap H locs) (h1 : Ok (fL_ticks_b690 x7 x8 x9 x21 x22 Y un u) K) :
    kW p l e rmL_ticks s m args below meth c H locs (va_Qi (fun r q => K (r, q)) (fun q => kPost D A (([lwW hLn (ad 0) Y.2.1 lbn un, wF cy ad hh aa pa q] : List va_W).flatten)) A) A 690 ls [] := by
  obtain ⟨hx, hb, hr, hml, hown, hts, hlocks, hK, hA⟩ := id E
  unfold fL_ticks_b690 at h1
  refine lv_iload hx hb dL_ticks_690 (lv_at hl 3 rfl) ?_
  refine lv_aload_n hx hb dL_ticks_692 rfl (lv_at hl 0 rfl) ?_
  refine k_get (v := .ref (ad 0)) (C := RL) (T := TL) (N := 4) hx hb hts inL_ticks_L hown hK hP 0 rfl rfl 0 (by decide) lkL_ticks_10 rfl dL_ticks_693 ?_
  refine lv_bipush (v := 12) hx hb dL_ticks_696 rfl ?_
  refine kh_rS (As := [.ref (ad 0), .int 12]) (rest := [.int x9]) h1 ⟨hx, hb, hml, hown, hts⟩ (cL_countM l D cy ad hh aa pa H.size u 12) (vx_cwSW 2 hts gL_ticks_L_count rfl rfl rfl heL_count ⟨Nat.le_of_ble_eq_true rfl, Nat.le_of_ble_eq_true rfl⟩) hK (k_sel1 (l := [lwW hLn (ad 0) Y.2.1 lbn un, wF cy ad hh aa pa u]) (n := 2) 1 [0] rfl rfl (by decide)) hP hD hS hA rfl hl.1 rfl (Nat.le_of_ble_eq_true rfl) dL_ticks_698 ⟨Nat.zero_le _, Nat.zero_le _⟩ (fun r698 H locs h1 hP hS => ?_)
  refine lv_icmp_gt (tgt := 732) hx hb dL_ticks_701 (by decide) (fun c701 => ?_) (fun c701 => ?_)
  · replace h1 := Ok.pos c701 h1
    refine lv_iconst (v := 0) hx hb dL_ticks_732 rfl ?_
    exact kret_iz hx hb hr rfl hlocks hP hD hS h1 dL_ticks_733
  · replace h1 := Ok.neg c701 h1
    refine lv_iload hx hb dL_ticks_704 (lv_at hl 5 rfl) ?_
    refine lv_if_eq (tgt := 734) hx hb dL_ticks_706 (by decide) (fun c706 => ?_) (fun c706 => ?_)
    · replace h1 := Ok.pos c706 h1
      exact tL_ticks_b734 K E hZ hY un x7 x8 x9 x21 x22 u H locs ls (lv_sub hl [0, 1, 2, 3, 4, 5] rfl) hP hD hS h1
    · replace h1 := Ok.neg c706 h1
      refine lv_iload hx hb dL_ticks_709 (lv_at hl 4 rfl) ?_
      refine lv_iload hx hb dL_ticks_711 (lv_at hl 1 rfl) ?_
      refine lv_icmp_eq (tgt := 734) hx hb dL_ticks_713 (by decide) (fun c713 => ?_) (fun c713 => ?_)
      · replace h1 := Ok.pos c713 h1
        exact tL_ticks_b734 K E hZ hY un x7 x8 x9 x21 x22 u H locs ls (lv_sub hl [0, 1, 2, 3, 4, 5] rfl) hP hD hS h1
      · replace h1 := Ok.neg c713 h1
        refine lv_aload_n hx hb dL_ticks_716 rfl (lv_at hl 0 rfl) ?_
        refine k_get (v := .ref (ad 0)) (C := RL) (T := TL) (N := 4) hx hb hts inL_ticks_L hown hK hP 0 rfl rfl 0 (by decide) lkL_ticks_10 rfl dL_ticks_717 ?_
        refine lv_bipush (v := 12) hx hb dL_ticks_720 rfl ?_
        refine kh_rS (As := [.ref (ad 0), .int 12]) (rest := []) h1 ⟨hx, hb, hml, hown, hts⟩ (cL_countM l D cy ad hh aa pa H.size u 12) (vx_cwSW 2 hts gL_ticks_L_count rfl rfl rfl heL_count ⟨Nat.le_of_ble_eq_true rfl, Nat.le_of_ble_eq_true rfl⟩) hK (k_sel1 (l := [lwW hLn (ad 0) Y.2.1 lbn un, wF cy ad hh aa pa u]) (n := 2) 1 [0] rfl rfl (by decide)) hP hD hS hA rfl hl.1 rfl (Nat.le_of_ble_eq_true rfl) dL_ticks_722 ⟨Nat.zero_le _, Nat.zero_le _⟩ (fun r722 H locs h1 hP hS => ?_)
        refine lv_iload hx hb dL_ticks_725 (lv_at hl 3 rfl) ?_
        refine lv_iconst (v := 1) hx hb dL_ticks_727 rfl ?_
        refine lv_iadd hx hb dL_ticks_728 ?_
        refine lv_icmp_eq (tgt := 734) hx hb dL_ticks_729 (by decide) (fun c729 => ?_) (fun c729 => ?_)
        · replace h1 := Ok.pos c729 h1
          exact tL_ticks_b734 K E hZ hY un x7 x8 x9 x21 x22 u H locs ls (lv_sub hl [0, 1, 2, 3, 4, 5] rfl) hP hD hS h1
        · replace h1 := Ok.neg c729 h1
          refine lv_iconst (v := 0) hx hb dL_ticks_732 rfl ?_
          exact kret_iz hx hb hr rfl hlocks hP hD hS h1 dL_ticks_733
def fL_ticks_b668 (x7 : Int32) (x8 : Int32) (x9 : Int32) (x21 : Int32) (x22 : Int32) (s0 : Int32) (Y : YB) (un : Int32) (u : FS) : Option (Int32 × FS) :=
  (if s0 = x22 then (if x22 = 0 then fL_ticks_b690 x7 x8 x9 x21 x22 Y un u else bnd (fL_count 11 u) (fun r684 => (if r684 = 0 then fL_ticks_b690 x7 x8 x9 x21 x22 Y un u else some (0, u)))) else some (0, u))
set_option maxHeartbeats 4000000 in
set_option maxRecDepth 100000 in
theorem tL_ticks_b668 {p : Program} {l : Launch} {e : Env} {s : State} {m : MethodId} {args : Array Value} {below : List Frame} {meth : Method} {c : Code} {D : va_G} {cy : Nat → ClassId} {A : Nat → Prop} {hLn : Nat} {lbn : Nat} {ad : Nat → Nat} {hh : Nat → Nat} {aa : Nat → Nat → Nat} {pa : Nat → Nat} {za zv : Nat → Nat} {Y : YB} (K : Int32 × FS → Prop) (E : mE D cy RL cL_ticks 23 (some .boolean) wsL_ticks A p s m args meth c) (hZ : mZ za zv A s s.heap) (hY : mY Y A s s.heap) (un : Int32)
     (x7 : Int32) (x8 : Int32) (x9 : Int32) (x21 : Int32) (x22 : Int32) (s0 : Int32) (u : FS) (H : Heap) (locs : List Loc) (ls : Array Slot) (hl : lv_has ls 23 [(0, .ref hLn), (7, .int x7), (8, .int x8), (9, .int x9), (21, .int x21), (22, .int x22)]) (hP : va_P D kCl (([lwW hLn (ad 0) Y.2.1 lbn un, wF cy ad hh aa pa u] : List va_W).flatten) H) (hD : va_D A (([lwW hLn (ad 0) Y.2.1 lbn un, wF cy ad hh aa pa u] : List va_W).flatten)) (hS : va_S A s.heap H locs) (h1 : Ok (fL_ticks_b668 x7 x8 x9 x21 x22 s0 Y un u) K) :
    kW p l e rmL_ticks s m args below meth c H locs (va_Qi (fun r q => K (r, q)) (fun q => kPost D A (([lwW hLn (ad 0) Y.2.1 lbn un, wF cy ad hh aa pa q] : List va_W).flatten)) A) A 668 ls [.int s0] := by
  obtain ⟨hx, hb, hr, hml, hown, hts, hlocks, hK, hA⟩ := id E
  unfold fL_ticks_b668 at h1
  refine lv_iload hx hb dL_ticks_668 (lv_at hl 5 rfl) ?_
  refine lv_icmp_ne (tgt := 732) hx hb dL_ticks_670 (by decide) (fun c670 => ?_) (fun c670 => ?_)
  · replace h1 := Ok.neg c670 h1
    refine lv_iconst (v := 0) hx hb dL_ticks_732 rfl ?_
    exact kret_iz hx hb hr rfl hlocks hP hD hS h1 dL_ticks_733
  · replace h1 := Ok.pos c670 h1
    refine lv_iload hx hb dL_ticks_673 (lv_at hl 5 rfl) ?_
    refine lv_if_eq (tgt := 690) hx hb dL_ticks_675 (by decide) (fun c675 => ?_) (fun c675 => ?_)
    · replace h1 := Ok.pos c675 h1
      exact tL_ticks_b690 K E hZ hY un x7 x8 x9 x21 x22 u H locs ls (lv_sub hl [0, 1, 2, 3, 4, 5] rfl) hP hD hS h1
    · replace h1 := Ok.neg c675 h1
      refine lv_aload_n hx hb dL_ticks_678 rfl (lv_at hl 0 rfl) ?_
      refine k_get (v := .ref (ad 0)) (C := RL) (T := TL) (N := 4) hx hb hts inL_ticks_L hown hK hP 0 rfl rfl 0 (by decide) lkL_ticks_10 rfl dL_ticks_679 ?_
      refine lv_bipush (v := 11) hx hb dL_ticks_682 rfl ?_
      refine kh_rS (As := [.ref (ad 0), .int 11]) (rest := []) h1 ⟨hx, hb, hml, hown, hts⟩ (cL_countM l D cy ad hh aa pa H.size u 11) (vx_cwSW 2 hts gL_ticks_L_count rfl rfl rfl heL_count ⟨Nat.le_of_ble_eq_true rfl, Nat.le_of_ble_eq_true rfl⟩) hK (k_sel1 (l := [lwW hLn (ad 0) Y.2.1 lbn un, wF cy ad hh aa pa u]) (n := 2) 1 [0] rfl rfl (by decide)) hP hD hS hA rfl hl.1 rfl (Nat.le_of_ble_eq_true rfl) dL_ticks_684 ⟨Nat.zero_le _, Nat.zero_le _⟩ (fun r684 H locs h1 hP hS => ?_)
      refine lv_if_ne (tgt := 732) hx hb dL_ticks_687 (by decide) (fun c687 => ?_) (fun c687 => ?_)
      · replace h1 := Ok.neg c687 h1
        refine lv_iconst (v := 0) hx hb dL_ticks_732 rfl ?_
        exact kret_iz hx hb hr rfl hlocks hP hD hS h1 dL_ticks_733
      · replace h1 := Ok.pos c687 h1
        exact tL_ticks_b690 K E hZ hY un x7 x8 x9 x21 x22 u H locs ls (lv_sub hl [0, 1, 2, 3, 4, 5] rfl) hP hD hS h1
def fL_ticks_b655 (x7 : Int32) (x8 : Int32) (x9 : Int32) (x10 : Int32) (x21 : Int32) (s0 : Int32) (Y : YB) (un : Int32) (u : FS) : Option (Int32 × FS) :=
  (if x10 = 1 then fL_ticks_b668 x7 x8 x9 x21 s0 1 Y un u else fL_ticks_b668 x7 x8 x9 x21 s0 0 Y un u)
set_option maxHeartbeats 4000000 in
set_option maxRecDepth 100000 in
theorem tL_ticks_b655 {p : Program} {l : Launch} {e : Env} {s : State} {m : MethodId} {args : Array Value} {below : List Frame} {meth : Method} {c : Code} {D : va_G} {cy : Nat → ClassId} {A : Nat → Prop} {hLn : Nat} {lbn : Nat} {ad : Nat → Nat} {hh : Nat → Nat} {aa : Nat → Nat → Nat} {pa : Nat → Nat} {za zv : Nat → Nat} {Y : YB} (K : Int32 × FS → Prop) (E : mE D cy RL cL_ticks 23 (some .boolean) wsL_ticks A p s m args meth c) (hZ : mZ za zv A s s.heap) (hY : mY Y A s s.heap) (un : Int32)
     (x7 : Int32) (x8 : Int32) (x9 : Int32) (x10 : Int32) (x21 : Int32) (s0 : Int32) (u : FS) (H : Heap) (locs : List Loc) (ls : Array Slot) (hl : lv_has ls 23 [(0, .ref hLn), (7, .int x7), (8, .int x8), (9, .int x9), (10, .int x10), (21, .int x21)]) (hP : va_P D kCl (([lwW hLn (ad 0) Y.2.1 lbn un, wF cy ad hh aa pa u] : List va_W).flatten) H) (hD : va_D A (([lwW hLn (ad 0) Y.2.1 lbn un, wF cy ad hh aa pa u] : List va_W).flatten)) (hS : va_S A s.heap H locs) (h1 : Ok (fL_ticks_b655 x7 x8 x9 x10 x21 s0 Y un u) K) :
    kW p l e rmL_ticks s m args below meth c H locs (va_Qi (fun r q => K (r, q)) (fun q => kPost D A (([lwW hLn (ad 0) Y.2.1 lbn un, wF cy ad hh aa pa q] : List va_W).flatten)) A) A 655 ls [.int s0] := by
  obtain ⟨hx, hb, hr, hml, hown, hts, hlocks, hK, hA⟩ := id E
  unfold fL_ticks_b655 at h1
  refine lv_istore (lv' := [(22, .int s0), (0, .ref hLn), (7, .int x7), (8, .int x8), (9, .int x9), (10, .int x10), (21, .int x21)]) hx hb dL_ticks_655 hl (by decide) rfl (fun ls hl => ?_)
  refine lv_iload hx hb dL_ticks_657 (lv_at hl 5 rfl) ?_
  refine lv_iconst (v := 1) hx hb dL_ticks_659 rfl ?_
  refine lv_icmp_ne (tgt := 667) hx hb dL_ticks_660 (by decide) (fun c660 => ?_) (fun c660 => ?_)
  · replace h1 := Ok.neg c660 h1
    refine lv_iconst (v := 0) hx hb dL_ticks_667 rfl ?_
    exact tL_ticks_b668 K E hZ hY un x7 x8 x9 x21 s0 0 u H locs ls (lv_sub hl [1, 2, 3, 4, 6, 0] rfl) hP hD hS h1
  · replace h1 := Ok.pos c660 h1
    refine lv_iconst (v := 1) hx hb dL_ticks_663 rfl ?_
    refine lv_goto (tgt := 668) hx hb dL_ticks_664 (by decide) ?_
    exact tL_ticks_b668 K E hZ hY un x7 x8 x9 x21 s0 1 u H locs ls (lv_sub hl [1, 2, 3, 4, 6, 0] rfl) hP hD hS h1
def fL_ticks_b654 (x7 : Int32) (x8 : Int32) (x9 : Int32) (x10 : Int32) (x21 : Int32) (Y : YB) (un : Int32) (u : FS) : Option (Int32 × FS) :=
  fL_ticks_b655 x7 x8 x9 x10 x21 0 Y un u
set_option maxHeartbeats 4000000 in
set_option maxRecDepth 100000 in
theorem tL_ticks_b654 {p : Program} {l : Launch} {e : Env} {s : State} {m : MethodId} {args : Array Value} {below : List Frame} {meth : Method} {c : Code} {D : va_G} {cy : Nat → ClassId} {A : Nat → Prop} {hLn : Nat} {lbn : Nat} {ad : Nat → Nat} {hh : Nat → Nat} {aa : Nat → Nat → Nat} {pa : Nat → Nat} {za zv : Nat → Nat} {Y : YB} (K : Int32 × FS → Prop) (E : mE D cy RL cL_ticks 23 (some .boolean) wsL_ticks A p s m args meth c) (hZ : mZ za zv A s s.heap) (hY : mY Y A s s.heap) (un : Int32)
     (x7 : Int32) (x8 : Int32) (x9 : Int32) (x10 : Int32) (x21 : Int32) (u : FS) (H : Heap) (locs : List Loc) (ls : Array Slot) (hl : lv_has ls 23 [(0, .ref hLn), (7, .int x7), (8, .int x8), (9, .int x9), (10, .int x10), (21, .int x21)]) (hP : va_P D kCl (([lwW hLn (ad 0) Y.2.1 lbn un, wF cy ad hh aa pa u] : List va_W).flatten) H) (hD : va_D A (([lwW hLn (ad 0) Y.2.1 lbn un, wF cy ad hh aa pa u] : List va_W).flatten)) (hS : va_S A s.heap H locs) (h1 : Ok (fL_ticks_b654 x7 x8 x9 x10 x21 Y un u) K) :
    kW p l e rmL_ticks s m args below meth c H locs (va_Qi (fun r q => K (r, q)) (fun q => kPost D A (([lwW hLn (ad 0) Y.2.1 lbn un, wF cy ad hh aa pa q] : List va_W).flatten)) A) A 654 ls [] := by
  obtain ⟨hx, hb, hr, hml, hown, hts, hlocks, hK, hA⟩ := id E
  unfold fL_ticks_b654 at h1
  refine lv_iconst (v := 0) hx hb dL_ticks_654 rfl ?_
  exact tL_ticks_b655 K E hZ hY un x7 x8 x9 x10 x21 0 u H locs ls (lv_sub hl [0, 1, 2, 3, 4, 5] rfl) hP hD hS h1
def fL_ticks_b613 (x7 : Int32) (x8 : Int32) (x9 : Int32) (x10 : Int32) (Y : YB) (un : Int32) (u : FS) : Option (Int32 × FS) :=
  bnd (fL_count 8 u) (fun r619 => (if r619 < 0 then fL_ticks_b654 x7 x8 x9 x10 r619 Y un u else bnd (fL_car r619 5 u) (fun r636 => bnd (fL_count 0 u) (fun r644 => (if r636 = r644 then fL_ticks_b655 x7 x8 x9 x10 r619 1 Y un u else fL_ticks_b654 x7 x8 x9 x10 r619 Y un u)))))
set_option maxHeartbeats 4000000 in
set_option maxRecDepth 100000 in
theorem tL_ticks_b613 {p : Program} {l : Launch} {e : Env} {s : State} {m : MethodId} {args : Array Value} {below : List Frame} {meth : Method} {c : Code} {D : va_G} {cy : Nat → ClassId} {A : Nat → Prop} {hLn : Nat} {lbn : Nat} {ad : Nat → Nat} {hh : Nat → Nat} {aa : Nat → Nat → Nat} {pa : Nat → Nat} {za zv : Nat → Nat} {Y : YB} (K : Int32 × FS → Prop) (E : mE D cy RL cL_ticks 23 (some .boolean) wsL_ticks A p s m args meth c) (hZ : mZ za zv A s s.heap) (hY : mY Y A s s.heap) (un : Int32)
     (x7 : Int32) (x8 : Int32) (x9 : Int32) (x10 : Int32) (u : FS) (H : Heap) (locs : List Loc) (ls : Array Slot) (hl : lv_has ls 23 [(0, .ref hLn), (7, .int x7), (8, .int x8), (9, .int x9), (10, .int x10)]) (hP : va_P D kCl (([lwW hLn (ad 0) Y.2.1 lbn un, wF cy ad hh aa pa u] : List va_W).flatten) H) (hD : va_D A (([lwW hLn (ad 0) Y.2.1 lbn un, wF cy ad hh aa pa u] : List va_W).flatten)) (hS : va_S A s.heap H locs) (h1 : Ok (fL_ticks_b613 x7 x8 x9 x10 Y un u) K) :
    kW p l e rmL_ticks s m args below meth c H locs (va_Qi (fun r q => K (r, q)) (fun q => kPost D A (([lwW hLn (ad 0) Y.2.1 lbn un, wF cy ad hh aa pa q] : List va_W).flatten)) A) A 613 ls [] := by
  obtain ⟨hx, hb, hr, hml, hown, hts, hlocks, hK, hA⟩ := id E
  unfold fL_ticks_b613 at h1
  refine lv_aload_n hx hb dL_ticks_613 rfl (lv_at hl 0 rfl) ?_
  refine k_get (v := .ref (ad 0)) (C := RL) (T := TL) (N := 4) hx hb hts inL_ticks_L hown hK hP 0 rfl rfl 0 (by decide) lkL_ticks_10 rfl dL_ticks_614 ?_
  refine lv_bipush (v := 8) hx hb dL_ticks_617 rfl ?_
  refine kh_rS (As := [.ref (ad 0), .int 8]) (rest := []) h1 ⟨hx, hb, hml, hown, hts⟩ (cL_countM l D cy ad hh aa pa H.size u 8) (vx_cwSW 2 hts gL_ticks_L_count rfl rfl rfl heL_count ⟨Nat.le_of_ble_eq_true rfl, Nat.le_of_ble_eq_true rfl⟩) hK (k_sel1 (l := [lwW hLn (ad 0) Y.2.1 lbn un, wF cy ad hh aa pa u]) (n := 2) 1 [0] rfl rfl (by decide)) hP hD hS hA rfl hl.1 rfl (Nat.le_of_ble_eq_true rfl) dL_ticks_619 ⟨Nat.zero_le _, Nat.zero_le _⟩ (fun r619 H locs h1 hP hS => ?_)
  refine lv_istore (lv' := [(21, .int r619), (0, .ref hLn), (7, .int x7), (8, .int x8), (9, .int x9), (10, .int x10)]) hx hb dL_ticks_622 hl (by decide) rfl (fun ls hl => ?_)
  refine lv_iload hx hb dL_ticks_624 (lv_at hl 0 rfl) ?_
  refine lv_if_lt (tgt := 654) hx hb dL_ticks_626 (by decide) (fun c626 => ?_) (fun c626 => ?_)
  · replace h1 := Ok.pos c626 h1
    exact tL_ticks_b654 K E hZ hY un x7 x8 x9 x10 r619 u H locs ls (lv_sub hl [1, 2, 3, 4, 5, 0] rfl) hP hD hS h1
  · replace h1 := Ok.neg c626 h1
    refine lv_aload_n hx hb dL_ticks_629 rfl (lv_at hl 1 rfl) ?_
    refine k_get (v := .ref (ad 0)) (C := RL) (T := TL) (N := 4) hx hb hts inL_ticks_L hown hK hP 0 rfl rfl 0 (by decide) lkL_ticks_10 rfl dL_ticks_630 ?_
    refine lv_iload hx hb dL_ticks_633 (lv_at hl 0 rfl) ?_
    refine lv_iconst (v := 5) hx hb dL_ticks_635 rfl ?_
    refine kh_rS (As := [.ref (ad 0), .int r619, .int 5]) (rest := []) h1 ⟨hx, hb, hml, hown, hts⟩ (cL_carM l D cy ad hh aa pa H.size u r619 5) (vx_cwSW 3 hts gL_ticks_L_car rfl rfl rfl heL_car ⟨Nat.le_of_ble_eq_true rfl, Nat.le_of_ble_eq_true rfl⟩) hK (k_sel1 (l := [lwW hLn (ad 0) Y.2.1 lbn un, wF cy ad hh aa pa u]) (n := 2) 1 [0] rfl rfl (by decide)) hP hD hS hA rfl hl.1 rfl (Nat.le_of_ble_eq_true rfl) dL_ticks_636 ⟨Nat.zero_le _, Nat.zero_le _⟩ (fun r636 H locs h1 hP hS => ?_)
    refine lv_aload_n hx hb dL_ticks_639 rfl (lv_at hl 1 rfl) ?_
    refine k_get (v := .ref (ad 0)) (C := RL) (T := TL) (N := 4) hx hb hts inL_ticks_L hown hK hP 0 rfl rfl 0 (by decide) lkL_ticks_10 rfl dL_ticks_640 ?_
    refine lv_iconst (v := 0) hx hb dL_ticks_643 rfl ?_
    refine kh_rS (As := [.ref (ad 0), .int 0]) (rest := [.int r636]) h1 ⟨hx, hb, hml, hown, hts⟩ (cL_countM l D cy ad hh aa pa H.size u 0) (vx_cwSW 2 hts gL_ticks_L_count rfl rfl rfl heL_count ⟨Nat.le_of_ble_eq_true rfl, Nat.le_of_ble_eq_true rfl⟩) hK (k_sel1 (l := [lwW hLn (ad 0) Y.2.1 lbn un, wF cy ad hh aa pa u]) (n := 2) 1 [0] rfl rfl (by decide)) hP hD hS hA rfl hl.1 rfl (Nat.le_of_ble_eq_true rfl) dL_ticks_644 ⟨Nat.zero_le _, Nat.zero_le _⟩ (fun r644 H locs h1 hP hS => ?_)
    refine lv_icmp_ne (tgt := 654) hx hb dL_ticks_647 (by decide) (fun c647 => ?_) (fun c647 => ?_)
    · replace h1 := Ok.neg c647 h1
      exact tL_ticks_b654 K E hZ hY un x7 x8 x9 x10 r619 u H locs ls (lv_sub hl [1, 2, 3, 4, 5, 0] rfl) hP hD hS h1
    · replace h1 := Ok.pos c647 h1
      refine lv_iconst (v := 1) hx hb dL_ticks_650 rfl ?_
      refine lv_goto (tgt := 655) hx hb dL_ticks_651 (by decide) ?_
      exact tL_ticks_b655 K E hZ hY un x7 x8 x9 x10 r619 1 u H locs ls (lv_sub hl [1, 2, 3, 4, 5, 0] rfl) hP hD hS h1
def fL_ticks_b563 (x1 : Int32) (x2 : Int32) (x3 : Int32) (x7 : Int32) (x8 : Int32) (x9 : Int32) (x10 : Int32) (x17 : Int32) (Y : YB) (un : Int32) (u : FS) : Option (Int32 × FS) :=
  (if x1 < 0 then fL_ticks_b613 x7 x8 x9 x10 Y un u else bnd (fL_count 10 u) (fun r573 => (if r573 ≤ x3 then fL_ticks_b613 x7 x8 x9 x10 Y un u else (if 0 < x17 then some (0, u) else bnd (fL_count 9 u) (fun r591 => (if r591 = x2 then bnd (fL_count 8 u) (fun r604 => (if r604 = x1 then fL_ticks_b613 x7 x8 x9 x10 Y un u else some (0, u))) else some (0, u)))))))
set_option maxHeartbeats 4000000 in
set_option maxRecDepth 100000 in
theorem tL_ticks_b563 {p : Program} {l : Launch} {e : Env} {s : State} {m : MethodId} {args : Array Value} {below : List Frame} {meth : Method} {c : Code} {D : va_G} {cy : Nat → ClassId} {A : Nat → Prop} {hLn : Nat} {lbn : Nat} {ad : Nat → Nat} {hh : Nat → Nat} {aa : Nat → Nat → Nat} {pa : Nat → Nat} {za zv : Nat → Nat} {Y : YB} (K : Int32 × FS → Prop) (E : mE D cy RL cL_ticks 23 (some .boolean) wsL_ticks A p s m args meth c) (hZ : mZ za zv A s s.heap) (hY : mY Y A s s.heap) (un : Int32)
     (x1 : Int32) (x2 : Int32) (x3 : Int32) (x7 : Int32) (x8 : Int32) (x9 : Int32) (x10 : Int32) (x17 : Int32) (u : FS) (H : Heap) (locs : List Loc) (ls : Array Slot) (hl : lv_has ls 23 [(0, .ref hLn), (1, .int x1), (2, .int x2), (3, .int x3), (7, .int x7), (8, .int x8), (9, .int x9), (10, .int x10), (17, .int x17)]) (hP : va_P D kCl (([lwW hLn (ad 0) Y.2.1 lbn un, wF cy ad hh aa pa u] : List va_W).flatten) H) (hD : va_D A (([lwW hLn (ad 0) Y.2.1 lbn un, wF cy ad hh aa pa u] : List va_W).flatten)) (hS : va_S A s.heap H locs) (h1 : Ok (fL_ticks_b563 x1 x2 x3 x7 x8 x9 x10 x17 Y un u) K) :
    kW p l e rmL_ticks s m args below meth c H locs (va_Qi (fun r q => K (r, q)) (fun q => kPost D A (([lwW hLn (ad 0) Y.2.1 lbn un, wF cy ad hh aa pa q] : List va_W).flatten)) A) A 563 ls [] := by
  obtain ⟨hx, hb, hr, hml, hown, hts, hlocks, hK, hA⟩ := id E
  unfold fL_ticks_b563 at h1
  refine lv_iload_n hx hb dL_ticks_563 rfl (lv_at hl 1 rfl) ?_
  refine lv_if_lt (tgt := 613) hx hb dL_ticks_564 (by decide) (fun c564 => ?_) (fun c564 => ?_)
  · replace h1 := Ok.pos c564 h1
    exact tL_ticks_b613 K E hZ hY un x7 x8 x9 x10 u H locs ls (lv_sub hl [0, 4, 5, 6, 7] rfl) hP hD hS h1
  · replace h1 := Ok.neg c564 h1
    refine lv_aload_n hx hb dL_ticks_567 rfl (lv_at hl 0 rfl) ?_
    refine k_get (v := .ref (ad 0)) (C := RL) (T := TL) (N := 4) hx hb hts inL_ticks_L hown hK hP 0 rfl rfl 0 (by decide) lkL_ticks_10 rfl dL_ticks_568 ?_
    refine lv_bipush (v := 10) hx hb dL_ticks_571 rfl ?_
    refine kh_rS (As := [.ref (ad 0), .int 10]) (rest := []) h1 ⟨hx, hb, hml, hown, hts⟩ (cL_countM l D cy ad hh aa pa H.size u 10) (vx_cwSW 2 hts gL_ticks_L_count rfl rfl rfl heL_count ⟨Nat.le_of_ble_eq_true rfl, Nat.le_of_ble_eq_true rfl⟩) hK (k_sel1 (l := [lwW hLn (ad 0) Y.2.1 lbn un, wF cy ad hh aa pa u]) (n := 2) 1 [0] rfl rfl (by decide)) hP hD hS hA rfl hl.1 rfl (Nat.le_of_ble_eq_true rfl) dL_ticks_573 ⟨Nat.zero_le _, Nat.zero_le _⟩ (fun r573 H locs h1 hP hS => ?_)
    refine lv_iload_n hx hb dL_ticks_576 rfl (lv_at hl 3 rfl) ?_
    refine lv_icmp_le (tgt := 613) hx hb dL_ticks_577 (by decide) (fun c577 => ?_) (fun c577 => ?_)
    · replace h1 := Ok.pos c577 h1
      exact tL_ticks_b613 K E hZ hY un x7 x8 x9 x10 u H locs ls (lv_sub hl [0, 4, 5, 6, 7] rfl) hP hD hS h1
    · replace h1 := Ok.neg c577 h1
      refine lv_iload hx hb dL_ticks_580 (lv_at hl 8 rfl) ?_
      refine lv_if_gt (tgt := 611) hx hb dL_ticks_582 (by decide) (fun c582 => ?_) (fun c582 => ?_)
      · replace h1 := Ok.pos c582 h1
        refine lv_iconst (v := 0) hx hb dL_ticks_611 rfl ?_
        exact kret_iz hx hb hr rfl hlocks hP hD hS h1 dL_ticks_612
      · replace h1 := Ok.neg c582 h1
        refine lv_aload_n hx hb dL_ticks_585 rfl (lv_at hl 0 rfl) ?_
        refine k_get (v := .ref (ad 0)) (C := RL) (T := TL) (N := 4) hx hb hts inL_ticks_L hown hK hP 0 rfl rfl 0 (by decide) lkL_ticks_10 rfl dL_ticks_586 ?_
        refine lv_bipush (v := 9) hx hb dL_ticks_589 rfl ?_
        refine kh_rS (As := [.ref (ad 0), .int 9]) (rest := []) h1 ⟨hx, hb, hml, hown, hts⟩ (cL_countM l D cy ad hh aa pa H.size u 9) (vx_cwSW 2 hts gL_ticks_L_count rfl rfl rfl heL_count ⟨Nat.le_of_ble_eq_true rfl, Nat.le_of_ble_eq_true rfl⟩) hK (k_sel1 (l := [lwW hLn (ad 0) Y.2.1 lbn un, wF cy ad hh aa pa u]) (n := 2) 1 [0] rfl rfl (by decide)) hP hD hS hA rfl hl.1 rfl (Nat.le_of_ble_eq_true rfl) dL_ticks_591 ⟨Nat.zero_le _, Nat.zero_le _⟩ (fun r591 H locs h1 hP hS => ?_)
        refine lv_iload_n hx hb dL_ticks_594 rfl (lv_at hl 2 rfl) ?_
        refine lv_icmp_ne (tgt := 611) hx hb dL_ticks_595 (by decide) (fun c595 => ?_) (fun c595 => ?_)
        · replace h1 := Ok.neg c595 h1
          refine lv_iconst (v := 0) hx hb dL_ticks_611 rfl ?_
          exact kret_iz hx hb hr rfl hlocks hP hD hS h1 dL_ticks_612
        · replace h1 := Ok.pos c595 h1
          refine lv_aload_n hx hb dL_ticks_598 rfl (lv_at hl 0 rfl) ?_
          refine k_get (v := .ref (ad 0)) (C := RL) (T := TL) (N := 4) hx hb hts inL_ticks_L hown hK hP 0 rfl rfl 0 (by decide) lkL_ticks_10 rfl dL_ticks_599 ?_
          refine lv_bipush (v := 8) hx hb dL_ticks_602 rfl ?_
          refine kh_rS (As := [.ref (ad 0), .int 8]) (rest := []) h1 ⟨hx, hb, hml, hown, hts⟩ (cL_countM l D cy ad hh aa pa H.size u 8) (vx_cwSW 2 hts gL_ticks_L_count rfl rfl rfl heL_count ⟨Nat.le_of_ble_eq_true rfl, Nat.le_of_ble_eq_true rfl⟩) hK (k_sel1 (l := [lwW hLn (ad 0) Y.2.1 lbn un, wF cy ad hh aa pa u]) (n := 2) 1 [0] rfl rfl (by decide)) hP hD hS hA rfl hl.1 rfl (Nat.le_of_ble_eq_true rfl) dL_ticks_604 ⟨Nat.zero_le _, Nat.zero_le _⟩ (fun r604 H locs h1 hP hS => ?_)
          refine lv_iload_n hx hb dL_ticks_607 rfl (lv_at hl 1 rfl) ?_
          refine lv_icmp_eq (tgt := 613) hx hb dL_ticks_608 (by decide) (fun c608 => ?_) (fun c608 => ?_)
          · replace h1 := Ok.pos c608 h1
            exact tL_ticks_b613 K E hZ hY un x7 x8 x9 x10 u H locs ls (lv_sub hl [0, 4, 5, 6, 7] rfl) hP hD hS h1
          · replace h1 := Ok.neg c608 h1
            refine lv_iconst (v := 0) hx hb dL_ticks_611 rfl ?_
            exact kret_iz hx hb hr rfl hlocks hP hD hS h1 dL_ticks_612
def fL_ticks_b526 (x1 : Int32) (x2 : Int32) (x3 : Int32) (x7 : Int32) (x8 : Int32) (x9 : Int32) (x10 : Int32) (x17 : Int32) (Y : YB) (un : Int32) (u : FS) : Option (Int32 × FS) :=
  (if x1 < 0 then fL_ticks_b563 x1 x2 x3 x7 x8 x9 x10 x17 Y un u else (if x17 = 0 then bnd (fL_count 10 u) (fun r541 => (if r541 = x3 then bnd (fL_count 9 u) (fun r554 => (if r554 = (x2 + 1) then fL_ticks_b563 x1 x2 x3 x7 x8 x9 x10 x17 Y un u else some (0, u))) else fL_ticks_b563 x1 x2 x3 x7 x8 x9 x10 x17 Y un u)) else fL_ticks_b563 x1 x2 x3 x7 x8 x9 x10 x17 Y un u))
set_option maxHeartbeats 4000000 in
set_option maxRecDepth 100000 in
theorem tL_ticks_b526 {p : Program} {l : Launch} {e : Env} {s : State} {m : MethodId} {args : Array Value} {below : List Frame} {meth : Method} {c : Code} {D : va_G} {cy : Nat → ClassId} {A : Nat → Prop} {hLn : Nat} {lbn : Nat} {ad : Nat → Nat} {hh : Nat → Nat} {aa : Nat → Nat → Nat} {pa : Nat → Nat} {za zv : Nat → Nat} {Y : YB} (K : Int32 × FS → Prop) (E : mE D cy RL cL_ticks 23 (some .boolean) wsL_ticks A p s m args meth c) (hZ : mZ za zv A s s.heap) (hY : mY Y A s s.heap) (un : Int32)
     (x1 : Int32) (x2 : Int32) (x3 : Int32) (x7 : Int32) (x8 : Int32) (x9 : Int32) (x10 : Int32) (x17 : Int32) (u : FS) (H : Heap) (locs : List Loc) (ls : Array Slot) (hl : lv_has ls 23 [(0, .ref hLn), (1, .int x1), (2, .int x2), (3, .int x3), (7, .int x7), (8, .int x8), (9, .int x9), (10, .int x10), (17, .int x17)]) (hP : va_P D kCl (([lwW hLn (ad 0) Y.2.1 lbn un, wF cy ad hh aa pa u] : List va_W).flatten) H) (hD : va_D A (([lwW hLn (ad 0) Y.2.1 lbn un, wF cy ad hh aa pa u] : List va_W).flatten)) (hS : va_S A s.heap H locs) (h1 : Ok (fL_ticks_b526 x1 x2 x3 x7 x8 x9 x10 x17 Y un u) K) :
    kW p l e rmL_ticks s m args below meth c H locs (va_Qi (fun r q => K (r, q)) (fun q => kPost D A (([lwW hLn (ad 0) Y.2.1 lbn un, wF cy ad hh aa pa q] : List va_W).flatten)) A) A 526 ls [] := by
  obtain ⟨hx, hb, hr, hml, hown, hts, hlocks, hK, hA⟩ := id E
  unfold fL_ticks_b526 at h1
  refine lv_iload_n hx hb dL_ticks_526 rfl (lv_at hl 1 rfl) ?_
  refine lv_if_lt (tgt := 563) hx hb dL_ticks_527 (by decide) (fun c527 => ?_) (fun c527 => ?_)
  · replace h1 := Ok.pos c527 h1
    exact tL_ticks_b563 K E hZ hY un x1 x2 x3 x7 x8 x9 x10 x17 u H locs ls (lv_sub hl [0, 1, 2, 3, 4, 5, 6, 7, 8] rfl) hP hD hS h1
  · replace h1 := Ok.neg c527 h1
    refine lv_iload hx hb dL_ticks_530 (lv_at hl 8 rfl) ?_
    refine lv_if_ne (tgt := 563) hx hb dL_ticks_532 (by decide) (fun c532 => ?_) (fun c532 => ?_)
    · replace h1 := Ok.neg c532 h1
      exact tL_ticks_b563 K E hZ hY un x1 x2 x3 x7 x8 x9 x10 x17 u H locs ls (lv_sub hl [0, 1, 2, 3, 4, 5, 6, 7, 8] rfl) hP hD hS h1
    · replace h1 := Ok.pos c532 h1
      refine lv_aload_n hx hb dL_ticks_535 rfl (lv_at hl 0 rfl) ?_
      refine k_get (v := .ref (ad 0)) (C := RL) (T := TL) (N := 4) hx hb hts inL_ticks_L hown hK hP 0 rfl rfl 0 (by decide) lkL_ticks_10 rfl dL_ticks_536 ?_
      refine lv_bipush (v := 10) hx hb dL_ticks_539 rfl ?_
      refine kh_rS (As := [.ref (ad 0), .int 10]) (rest := []) h1 ⟨hx, hb, hml, hown, hts⟩ (cL_countM l D cy ad hh aa pa H.size u 10) (vx_cwSW 2 hts gL_ticks_L_count rfl rfl rfl heL_count ⟨Nat.le_of_ble_eq_true rfl, Nat.le_of_ble_eq_true rfl⟩) hK (k_sel1 (l := [lwW hLn (ad 0) Y.2.1 lbn un, wF cy ad hh aa pa u]) (n := 2) 1 [0] rfl rfl (by decide)) hP hD hS hA rfl hl.1 rfl (Nat.le_of_ble_eq_true rfl) dL_ticks_541 ⟨Nat.zero_le _, Nat.zero_le _⟩ (fun r541 H locs h1 hP hS => ?_)
      refine lv_iload_n hx hb dL_ticks_544 rfl (lv_at hl 3 rfl) ?_
      refine lv_icmp_ne (tgt := 563) hx hb dL_ticks_545 (by decide) (fun c545 => ?_) (fun c545 => ?_)
      · replace h1 := Ok.neg c545 h1
        exact tL_ticks_b563 K E hZ hY un x1 x2 x3 x7 x8 x9 x10 x17 u H locs ls (lv_sub hl [0, 1, 2, 3, 4, 5, 6, 7, 8] rfl) hP hD hS h1
      · replace h1 := Ok.pos c545 h1
        refine lv_aload_n hx hb dL_ticks_548 rfl (lv_at hl 0 rfl) ?_
        refine k_get (v := .ref (ad 0)) (C := RL) (T := TL) (N := 4) hx hb hts inL_ticks_L hown hK hP 0 rfl rfl 0 (by decide) lkL_ticks_10 rfl dL_ticks_549 ?_
        refine lv_bipush (v := 9) hx hb dL_ticks_552 rfl ?_
        refine kh_rS (As := [.ref (ad 0), .int 9]) (rest := []) h1 ⟨hx, hb, hml, hown, hts⟩ (cL_countM l D cy ad hh aa pa H.size u 9) (vx_cwSW 2 hts gL_ticks_L_count rfl rfl rfl heL_count ⟨Nat.le_of_ble_eq_true rfl, Nat.le_of_ble_eq_true rfl⟩) hK (k_sel1 (l := [lwW hLn (ad 0) Y.2.1 lbn un, wF cy ad hh aa pa u]) (n := 2) 1 [0] rfl rfl (by decide)) hP hD hS hA rfl hl.1 rfl (Nat.le_of_ble_eq_true rfl) dL_ticks_554 ⟨Nat.zero_le _, Nat.zero_le _⟩ (fun r554 H locs h1 hP hS => ?_)
        refine lv_iload_n hx hb dL_ticks_557 rfl (lv_at hl 2 rfl) ?_
        refine lv_iconst (v := 1) hx hb dL_ticks_558 rfl ?_
        refine lv_iadd hx hb dL_ticks_559 ?_
        refine lv_icmp_ne (tgt := 611) hx hb dL_ticks_560 (by decide) (fun c560 => ?_) (fun c560 => ?_)
        · replace h1 := Ok.neg c560 h1
          refine lv_iconst (v := 0) hx hb dL_ticks_611 rfl ?_
          exact kret_iz hx hb hr rfl hlocks hP hD hS h1 dL_ticks_612
        · replace h1 := Ok.pos c560 h1
          exact tL_ticks_b563 K E hZ hY un x1 x2 x3 x7 x8 x9 x10 x17 u H locs ls (lv_sub hl [0, 1, 2, 3, 4, 5, 6, 7, 8] rfl) hP hD hS h1
def fL_ticks_b508 (x1 : Int32) (x2 : Int32) (x3 : Int32) (x5 : Int32) (x7 : Int32) (x8 : Int32) (x9 : Int32) (x10 : Int32) (x12 : Int32) (x17 : Int32) (x18 : Int32) (Y : YB) (un : Int32) (u : FS) : Option (Int32 × FS) :=
  (if x12 = 1 then fL_ticks_b526 x1 x2 x3 x7 x8 x9 x10 x17 Y un u else (if x5 = 0 then (if x18 ≤ 0 then fL_ticks_b526 x1 x2 x3 x7 x8 x9 x10 x17 Y un u else some (0, u)) else fL_ticks_b526 x1 x2 x3 x7 x8 x9 x10 x17 Y un u))
set_option maxHeartbeats 4000000 in
set_option maxRecDepth 100000 in
theorem tL_ticks_b508 {p : Program} {l : Launch} {e : Env} {s : State} {m : MethodId} {args : Array Value} {below : List Frame} {meth : Method} {c : Code} {D : va_G} {cy : Nat → ClassId} {A : Nat → Prop} {hLn : Nat} {lbn : Nat} {ad : Nat → Nat} {hh : Nat → Nat} {aa : Nat → Nat → Nat} {pa : Nat → Nat} {za zv : Nat → Nat} {Y : YB} (K : Int32 × FS → Prop) (E : mE D cy RL cL_ticks 23 (some .boolean) wsL_ticks A p s m args meth c) (hZ : mZ za zv A s s.heap) (hY : mY Y A s s.heap) (un : Int32)
     (x1 : Int32) (x2 : Int32) (x3 : Int32) (x5 : Int32) (x7 : Int32) (x8 : Int32) (x9 : Int32) (x10 : Int32) (x12 : Int32) (x17 : Int32) (x18 : Int32) (u : FS) (H : Heap) (locs : List Loc) (ls : Array Slot) (hl : lv_has ls 23 [(0, .ref hLn), (1, .int x1), (2, .int x2), (3, .int x3), (5, .int x5), (7, .int x7), (8, .int x8), (9, .int x9), (10, .int x10), (12, .int x12), (17, .int x17), (18, .int x18)]) (hP : va_P D kCl (([lwW hLn (ad 0) Y.2.1 lbn un, wF cy ad hh aa pa u] : List va_W).flatten) H) (hD : va_D A (([lwW hLn (ad 0) Y.2.1 lbn un, wF cy ad hh aa pa u] : List va_W).flatten)) (hS : va_S A s.heap H locs) (h1 : Ok (fL_ticks_b508 x1 x2 x3 x5 x7 x8 x9 x10 x12 x17 x18 Y un u) K) :
    kW p l e rmL_ticks s m args below meth c H locs (va_Qi (fun r q => K (r, q)) (fun q => kPost D A (([lwW hLn (ad 0) Y.2.1 lbn un, wF cy ad hh aa pa q] : List va_W).flatten)) A) A 508 ls [] := by
  obtain ⟨hx, hb, hr, hml, hown, hts, hlocks, hK, hA⟩ := id E
  unfold fL_ticks_b508 at h1
  refine lv_iload hx hb dL_ticks_508 (lv_at hl 9 rfl) ?_
  refine lv_iconst (v := 1) hx hb dL_ticks_510 rfl ?_
  refine lv_icmp_eq (tgt := 526) hx hb dL_ticks_511 (by decide) (fun c511 => ?_) (fun c511 => ?_)
  · replace h1 := Ok.pos c511 h1
    exact tL_ticks_b526 K E hZ hY un x1 x2 x3 x7 x8 x9 x10 x17 u H locs ls (lv_sub hl [0, 1, 2, 3, 5, 6, 7, 8, 10] rfl) hP hD hS h1
  · replace h1 := Ok.neg c511 h1
    refine lv_iload hx hb dL_ticks_514 (lv_at hl 4 rfl) ?_
    refine lv_if_ne (tgt := 526) hx hb dL_ticks_516 (by decide) (fun c516 => ?_) (fun c516 => ?_)
    · replace h1 := Ok.neg c516 h1
      exact tL_ticks_b526 K E hZ hY un x1 x2 x3 x7 x8 x9 x10 x17 u H locs ls (lv_sub hl [0, 1, 2, 3, 5, 6, 7, 8, 10] rfl) hP hD hS h1
    · replace h1 := Ok.pos c516 h1
      refine lv_iload hx hb dL_ticks_519 (lv_at hl 11 rfl) ?_
      refine lv_if_le (tgt := 526) hx hb dL_ticks_521 (by decide) (fun c521 => ?_) (fun c521 => ?_)
      · replace h1 := Ok.pos c521 h1
        exact tL_ticks_b526 K E hZ hY un x1 x2 x3 x7 x8 x9 x10 x17 u H locs ls (lv_sub hl [0, 1, 2, 3, 5, 6, 7, 8, 10] rfl) hP hD hS h1
      · replace h1 := Ok.neg c521 h1
        refine lv_iconst (v := 0) hx hb dL_ticks_524 rfl ?_
        exact kret_iz hx hb hr rfl hlocks hP hD hS h1 dL_ticks_525
def fL_ticks_b494 (x1 : Int32) (x2 : Int32) (x3 : Int32) (x5 : Int32) (x7 : Int32) (x8 : Int32) (x9 : Int32) (x10 : Int32) (x12 : Int32) (x17 : Int32) (x18 : Int32) (s0 : Int32) (s1 : Int32) (Y : YB) (un : Int32) (u : FS) : Option (Int32 × FS) :=
  (if s0 = s1 then (if x12 = 1 then (if x18 = 0 then some (0, u) else fL_ticks_b508 x1 x2 x3 x5 x7 x8 x9 x10 x12 x17 x18 Y un u) else fL_ticks_b508 x1 x2 x3 x5 x7 x8 x9 x10 x12 x17 x18 Y un u) else some (0, u))
set_option maxHeartbeats 4000000 in
set_option maxRecDepth 100000 in
theorem tL_ticks_b494 {p : Program} {l : Launch} {e : Env} {s : State} {m : MethodId} {args : Array Value} {below : List Frame} {meth : Method} {c : Code} {D : va_G} {cy : Nat → ClassId} {A : Nat → Prop} {hLn : Nat} {lbn : Nat} {ad : Nat → Nat} {hh : Nat → Nat} {aa : Nat → Nat → Nat} {pa : Nat → Nat} {za zv : Nat → Nat} {Y : YB} (K : Int32 × FS → Prop) (E : mE D cy RL cL_ticks 23 (some .boolean) wsL_ticks A p s m args meth c) (hZ : mZ za zv A s s.heap) (hY : mY Y A s s.heap) (un : Int32)
     (x1 : Int32) (x2 : Int32) (x3 : Int32) (x5 : Int32) (x7 : Int32) (x8 : Int32) (x9 : Int32) (x10 : Int32) (x12 : Int32) (x17 : Int32) (x18 : Int32) (s0 : Int32) (s1 : Int32) (u : FS) (H : Heap) (locs : List Loc) (ls : Array Slot) (hl : lv_has ls 23 [(0, .ref hLn), (1, .int x1), (2, .int x2), (3, .int x3), (5, .int x5), (7, .int x7), (8, .int x8), (9, .int x9), (10, .int x10), (12, .int x12), (17, .int x17), (18, .int x18)]) (hP : va_P D kCl (([lwW hLn (ad 0) Y.2.1 lbn un, wF cy ad hh aa pa u] : List va_W).flatten) H) (hD : va_D A (([lwW hLn (ad 0) Y.2.1 lbn un, wF cy ad hh aa pa u] : List va_W).flatten)) (hS : va_S A s.heap H locs) (h1 : Ok (fL_ticks_b494 x1 x2 x3 x5 x7 x8 x9 x10 x12 x17 x18 s0 s1 Y un u) K) :
    kW p l e rmL_ticks s m args below meth c H locs (va_Qi (fun r q => K (r, q)) (fun q => kPost D A (([lwW hLn (ad 0) Y.2.1 lbn un, wF cy ad hh aa pa q] : List va_W).flatten)) A) A 494 ls [.int s1, .int s0] := by
  obtain ⟨hx, hb, hr, hml, hown, hts, hlocks, hK, hA⟩ := id E
  unfold fL_ticks_b494 at h1
  refine lv_icmp_ne (tgt := 524) hx hb dL_ticks_494 (by decide) (fun c494 => ?_) (fun c494 => ?_)
  · replace h1 := Ok.neg c494 h1
    refine lv_iconst (v := 0) hx hb dL_ticks_524 rfl ?_
    exact kret_iz hx hb hr rfl hlocks hP hD hS h1 dL_ticks_525
  · replace h1 := Ok.pos c494 h1
    refine lv_iload hx hb dL_ticks_497 (lv_at hl 9 rfl) ?_
    refine lv_iconst (v := 1) hx hb dL_ticks_499 rfl ?_
    refine lv_icmp_ne (tgt := 508) hx hb dL_ticks_500 (by decide) (fun c500 => ?_) (fun c500 => ?_)
    · replace h1 := Ok.neg c500 h1
      exact tL_ticks_b508 K E hZ hY un x1 x2 x3 x5 x7 x8 x9 x10 x12 x17 x18 u H locs ls (lv_sub hl [0, 1, 2, 3, 4, 5, 6, 7, 8, 9, 10, 11] rfl) hP hD hS h1
    · replace h1 := Ok.pos c500 h1
      refine lv_iload hx hb dL_ticks_503 (lv_at hl 11 rfl) ?_
      refine lv_if_eq (tgt := 524) hx hb dL_ticks_505 (by decide) (fun c505 => ?_) (fun c505 => ?_)
      · replace h1 := Ok.pos c505 h1
        refine lv_iconst (v := 0) hx hb dL_ticks_524 rfl ?_
        exact kret_iz hx hb hr rfl hlocks hP hD hS h1 dL_ticks_525
      · replace h1 := Ok.neg c505 h1
        exact tL_ticks_b508 K E hZ hY un x1 x2 x3 x5 x7 x8 x9 x10 x12 x17 x18 u H locs ls (lv_sub hl [0, 1, 2, 3, 4, 5, 6, 7, 8, 9, 10, 11] rfl) hP hD hS h1
def fL_ticks_b484 (x1 : Int32) (x2 : Int32) (x3 : Int32) (x5 : Int32) (x7 : Int32) (x8 : Int32) (x9 : Int32) (x10 : Int32) (x12 : Int32) (x17 : Int32) (x18 : Int32) (s0 : Int32) (Y : YB) (un : Int32) (u : FS) : Option (Int32 × FS) :=
  (if x5 ≤ 0 then fL_ticks_b494 x1 x2 x3 x5 x7 x8 x9 x10 x12 x17 x18 s0 0 Y un u else fL_ticks_b494 x1 x2 x3 x5 x7 x8 x9 x10 x12 x17 x18 s0 1 Y un u)
set_option maxHeartbeats 4000000 in
set_option maxRecDepth 100000 in
theorem tL_ticks_b484 {p : Program} {l : Launch} {e : Env} {s : State} {m : MethodId} {args : Array Value} {below : List Frame} {meth : Method} {c : Code} {D : va_G} {cy : Nat → ClassId} {A : Nat → Prop} {hLn : Nat} {lbn : Nat} {ad : Nat → Nat} {hh : Nat → Nat} {aa : Nat → Nat → Nat} {pa : Nat → Nat} {za zv : Nat → Nat} {Y : YB} (K : Int32 × FS → Prop) (E : mE D cy RL cL_ticks 23 (some .boolean) wsL_ticks A p s m args meth c) (hZ : mZ za zv A s s.heap) (hY : mY Y A s s.heap) (un : Int32)
     (x1 : Int32) (x2 : Int32) (x3 : Int32) (x5 : Int32) (x7 : Int32) (x8 : Int32) (x9 : Int32) (x10 : Int32) (x12 : Int32) (x17 : Int32) (x18 : Int32) (s0 : Int32) (u : FS) (H : Heap) (locs : List Loc) (ls : Array Slot) (hl : lv_has ls 23 [(0, .ref hLn), (1, .int x1), (2, .int x2), (3, .int x3), (5, .int x5), (7, .int x7), (8, .int x8), (9, .int x9), (10, .int x10), (12, .int x12), (17, .int x17), (18, .int x18)]) (hP : va_P D kCl (([lwW hLn (ad 0) Y.2.1 lbn un, wF cy ad hh aa pa u] : List va_W).flatten) H) (hD : va_D A (([lwW hLn (ad 0) Y.2.1 lbn un, wF cy ad hh aa pa u] : List va_W).flatten)) (hS : va_S A s.heap H locs) (h1 : Ok (fL_ticks_b484 x1 x2 x3 x5 x7 x8 x9 x10 x12 x17 x18 s0 Y un u) K) :
    kW p l e rmL_ticks s m args below meth c H locs (va_Qi (fun r q => K (r, q)) (fun q => kPost D A (([lwW hLn (ad 0) Y.2.1 lbn un, wF cy ad hh aa pa q] : List va_W).flatten)) A) A 484 ls [.int s0] := by
  obtain ⟨hx, hb, hr, hml, hown, hts, hlocks, hK, hA⟩ := id E
  unfold fL_ticks_b484 at h1
  refine lv_iload hx hb dL_ticks_484 (lv_at hl 4 rfl) ?_
  refine lv_if_le (tgt := 493) hx hb dL_ticks_486 (by decide) (fun c486 => ?_) (fun c486 => ?_)
  · replace h1 := Ok.pos c486 h1
    refine lv_iconst (v := 0) hx hb dL_ticks_493 rfl ?_
    exact tL_ticks_b494 K E hZ hY un x1 x2 x3 x5 x7 x8 x9 x10 x12 x17 x18 s0 0 u H locs ls (lv_sub hl [0, 1, 2, 3, 4, 5, 6, 7, 8, 9, 10, 11] rfl) hP hD hS h1
  · replace h1 := Ok.neg c486 h1
    refine lv_iconst (v := 1) hx hb dL_ticks_489 rfl ?_
    refine lv_goto (tgt := 494) hx hb dL_ticks_490 (by decide) ?_
    exact tL_ticks_b494 K E hZ hY un x1 x2 x3 x5 x7 x8 x9 x10 x12 x17 x18 s0 1 u H locs ls (lv_sub hl [0, 1, 2, 3, 4, 5, 6, 7, 8, 9, 10, 11] rfl) hP hD hS h1
def fL_ticks_b471 (x1 : Int32) (x2 : Int32) (x3 : Int32) (x5 : Int32) (x7 : Int32) (x8 : Int32) (x9 : Int32) (x10 : Int32) (x12 : Int32) (x17 : Int32) (x18 : Int32) (s0 : Int32) (s1 : Int32) (Y : YB) (un : Int32) (u : FS) : Option (Int32 × FS) :=
  (if s0 = s1 then (if x12 = 0 then fL_ticks_b484 x1 x2 x3 x5 x7 x8 x9 x10 x12 x17 x18 1 Y un u else fL_ticks_b484 x1 x2 x3 x5 x7 x8 x9 x10 x12 x17 x18 0 Y un u) else some (0, u))
set_option maxHeartbeats 4000000 in
set_option maxRecDepth 100000 in
theorem tL_ticks_b471 {p : Program} {l : Launch} {e : Env} {s : State} {m : MethodId} {args : Array Value} {below : List Frame} {meth : Method} {c : Code} {D : va_G} {cy : Nat → ClassId} {A : Nat → Prop} {hLn : Nat} {lbn : Nat} {ad : Nat → Nat} {hh : Nat → Nat} {aa : Nat → Nat → Nat} {pa : Nat → Nat} {za zv : Nat → Nat} {Y : YB} (K : Int32 × FS → Prop) (E : mE D cy RL cL_ticks 23 (some .boolean) wsL_ticks A p s m args meth c) (hZ : mZ za zv A s s.heap) (hY : mY Y A s s.heap) (un : Int32)
     (x1 : Int32) (x2 : Int32) (x3 : Int32) (x5 : Int32) (x7 : Int32) (x8 : Int32) (x9 : Int32) (x10 : Int32) (x12 : Int32) (x17 : Int32) (x18 : Int32) (s0 : Int32) (s1 : Int32) (u : FS) (H : Heap) (locs : List Loc) (ls : Array Slot) (hl : lv_has ls 23 [(0, .ref hLn), (1, .int x1), (2, .int x2), (3, .int x3), (5, .int x5), (7, .int x7), (8, .int x8), (9, .int x9), (10, .int x10), (12, .int x12), (17, .int x17), (18, .int x18)]) (hP : va_P D kCl (([lwW hLn (ad 0) Y.2.1 lbn un, wF cy ad hh aa pa u] : List va_W).flatten) H) (hD : va_D A (([lwW hLn (ad 0) Y.2.1 lbn un, wF cy ad hh aa pa u] : List va_W).flatten)) (hS : va_S A s.heap H locs) (h1 : Ok (fL_ticks_b471 x1 x2 x3 x5 x7 x8 x9 x10 x12 x17 x18 s0 s1 Y un u) K) :
    kW p l e rmL_ticks s m args below meth c H locs (va_Qi (fun r q => K (r, q)) (fun q => kPost D A (([lwW hLn (ad 0) Y.2.1 lbn un, wF cy ad hh aa pa q] : List va_W).flatten)) A) A 471 ls [.int s1, .int s0] := by
  obtain ⟨hx, hb, hr, hml, hown, hts, hlocks, hK, hA⟩ := id E
  unfold fL_ticks_b471 at h1
  refine lv_icmp_ne (tgt := 524) hx hb dL_ticks_471 (by decide) (fun c471 => ?_) (fun c471 => ?_)
  · replace h1 := Ok.neg c471 h1
    refine lv_iconst (v := 0) hx hb dL_ticks_524 rfl ?_
    exact kret_iz hx hb hr rfl hlocks hP hD hS h1 dL_ticks_525
  · replace h1 := Ok.pos c471 h1
    refine lv_iload hx hb dL_ticks_474 (lv_at hl 9 rfl) ?_
    refine lv_if_ne (tgt := 483) hx hb dL_ticks_476 (by decide) (fun c476 => ?_) (fun c476 => ?_)
    · replace h1 := Ok.neg c476 h1
      refine lv_iconst (v := 0) hx hb dL_ticks_483 rfl ?_
      exact tL_ticks_b484 K E hZ hY un x1 x2 x3 x5 x7 x8 x9 x10 x12 x17 x18 0 u H locs ls (lv_sub hl [0, 1, 2, 3, 4, 5, 6, 7, 8, 9, 10, 11] rfl) hP hD hS h1
    · replace h1 := Ok.pos c476 h1
      refine lv_iconst (v := 1) hx hb dL_ticks_479 rfl ?_
      refine lv_goto (tgt := 484) hx hb dL_ticks_480 (by decide) ?_
      exact tL_ticks_b484 K E hZ hY un x1 x2 x3 x5 x7 x8 x9 x10 x12 x17 x18 1 u H locs ls (lv_sub hl [0, 1, 2, 3, 4, 5, 6, 7, 8, 9, 10, 11] rfl) hP hD hS h1
def fL_ticks_b466 (x1 : Int32) (x2 : Int32) (x3 : Int32) (x5 : Int32) (x7 : Int32) (x8 : Int32) (x9 : Int32) (x10 : Int32) (x12 : Int32) (x17 : Int32) (x18 : Int32) (s0 : Int32) (Y : YB) (un : Int32) (u : FS) : Option (Int32 × FS) :=
  fL_ticks_b471 x1 x2 x3 x5 x7 x8 x9 x10 x12 x17 x18 s0 1 Y un u
set_option maxHeartbeats 4000000 in
set_option maxRecDepth 100000 in
theorem tL_ticks_b466 {p : Program} {l : Launch} {e : Env} {s : State} {m : MethodId} {args : Array Value} {below : List Frame} {meth : Method} {c : Code} {D : va_G} {cy : Nat → ClassId} {A : Nat → Prop} {hLn : Nat} {lbn : Nat} {ad : Nat → Nat} {hh : Nat → Nat} {aa : Nat → Nat → Nat} {pa : Nat → Nat} {za zv : Nat → Nat} {Y : YB} (K : Int32 × FS → Prop) (E : mE D cy RL cL_ticks 23 (some .boolean) wsL_ticks A p s m args meth c) (hZ : mZ za zv A s s.heap) (hY : mY Y A s s.heap) (un : Int32)
     (x1 : Int32) (x2 : Int32) (x3 : Int32) (x5 : Int32) (x7 : Int32) (x8 : Int32) (x9 : Int32) (x10 : Int32) (x12 : Int32) (x17 : Int32) (x18 : Int32) (s0 : Int32) (u : FS) (H : Heap) (locs : List Loc) (ls : Array Slot) (hl : lv_has ls 23 [(0, .ref hLn), (1, .int x1), (2, .int x2), (3, .int x3), (5, .int x5), (7, .int x7), (8, .int x8), (9, .int x9), (10, .int x10), (12, .int x12), (17, .int x17), (18, .int x18)]) (hP : va_P D kCl (([lwW hLn (ad 0) Y.2.1 lbn un, wF cy ad hh aa pa u] : List va_W).flatten) H) (hD : va_D A (([lwW hLn (ad 0) Y.2.1 lbn un, wF cy ad hh aa pa u] : List va_W).flatten)) (hS : va_S A s.heap H locs) (h1 : Ok (fL_ticks_b466 x1 x2 x3 x5 x7 x8 x9 x10 x12 x17 x18 s0 Y un u) K) :
    kW p l e rmL_ticks s m args below meth c H locs (va_Qi (fun r q => K (r, q)) (fun q => kPost D A (([lwW hLn (ad 0) Y.2.1 lbn un, wF cy ad hh aa pa q] : List va_W).flatten)) A) A 466 ls [.int s0] := by
  obtain ⟨hx, hb, hr, hml, hown, hts, hlocks, hK, hA⟩ := id E
  unfold fL_ticks_b466 at h1
  refine lv_iconst (v := 1) hx hb dL_ticks_466 rfl ?_
  refine lv_goto (tgt := 471) hx hb dL_ticks_467 (by decide) ?_
  exact tL_ticks_b471 K E hZ hY un x1 x2 x3 x5 x7 x8 x9 x10 x12 x17 x18 s0 1 u H locs ls (lv_sub hl [0, 1, 2, 3, 4, 5, 6, 7, 8, 9, 10, 11] rfl) hP hD hS h1
def fL_ticks_b456 (x1 : Int32) (x2 : Int32) (x3 : Int32) (x5 : Int32) (x7 : Int32) (x8 : Int32) (x9 : Int32) (x10 : Int32) (x12 : Int32) (x17 : Int32) (x18 : Int32) (s0 : Int32) (Y : YB) (un : Int32) (u : FS) : Option (Int32 × FS) :=
  (if x12 = 0 then fL_ticks_b466 x1 x2 x3 x5 x7 x8 x9 x10 x12 x17 x18 s0 Y un u else (if x12 ≤ 0 then fL_ticks_b471 x1 x2 x3 x5 x7 x8 x9 x10 x12 x17 x18 s0 0 Y un u else fL_ticks_b466 x1 x2 x3 x5 x7 x8 x9 x10 x12 x17 x18 s0 Y un u))
set_option maxHeartbeats 4000000 in
set_option maxRecDepth 100000 in
theorem tL_ticks_b456 {p : Program} {l : Launch} {e : Env} {s : State} {m : MethodId} {args : Array Value} {below : List Frame} {meth : Method} {c : Code} {D : va_G} {cy : Nat → ClassId} {A : Nat → Prop} {hLn : Nat} {lbn : Nat} {ad : Nat → Nat} {hh : Nat → Nat} {aa : Nat → Nat → Nat} {pa : Nat → Nat} {za zv : Nat → Nat} {Y : YB} (K : Int32 × FS → Prop) (E : mE D cy RL cL_ticks 23 (some .boolean) wsL_ticks A p s m args meth c) (hZ : mZ za zv A s s.heap) (hY : mY Y A s s.heap) (un : Int32)
     (x1 : Int32) (x2 : Int32) (x3 : Int32) (x5 : Int32) (x7 : Int32) (x8 : Int32) (x9 : Int32) (x10 : Int32) (x12 : Int32) (x17 : Int32) (x18 : Int32) (s0 : Int32) (u : FS) (H : Heap) (locs : List Loc) (ls : Array Slot) (hl : lv_has ls 23 [(0, .ref hLn), (1, .int x1), (2, .int x2), (3, .int x3), (5, .int x5), (7, .int x7), (8, .int x8), (9, .int x9), (10, .int x10), (12, .int x12), (17, .int x17), (18, .int x18)]) (hP : va_P D kCl (([lwW hLn (ad 0) Y.2.1 lbn un, wF cy ad hh aa pa u] : List va_W).flatten) H) (hD : va_D A (([lwW hLn (ad 0) Y.2.1 lbn un, wF cy ad hh aa pa u] : List va_W).flatten)) (hS : va_S A s.heap H locs) (h1 : Ok (fL_ticks_b456 x1 x2 x3 x5 x7 x8 x9 x10 x12 x17 x18 s0 Y un u) K) :
    kW p l e rmL_ticks s m args below meth c H locs (va_Qi (fun r q => K (r, q)) (fun q => kPost D A (([lwW hLn (ad 0) Y.2.1 lbn un, wF cy ad hh aa pa q] : List va_W).flatten)) A) A 456 ls [.int s0] := by
  obtain ⟨hx, hb, hr, hml, hown, hts, hlocks, hK, hA⟩ := id E
  unfold fL_ticks_b456 at h1
  refine lv_iload hx hb dL_ticks_456 (lv_at hl 9 rfl) ?_
  refine lv_if_eq (tgt := 466) hx hb dL_ticks_458 (by decide) (fun c458 => ?_) (fun c458 => ?_)
  · replace h1 := Ok.pos c458 h1
    exact tL_ticks_b466 K E hZ hY un x1 x2 x3 x5 x7 x8 x9 x10 x12 x17 x18 s0 u H locs ls (lv_sub hl [0, 1, 2, 3, 4, 5, 6, 7, 8, 9, 10, 11] rfl) hP hD hS h1
  · replace h1 := Ok.neg c458 h1
    refine lv_iload hx hb dL_ticks_461 (lv_at hl 9 rfl) ?_
    refine lv_if_le (tgt := 470) hx hb dL_ticks_463 (by decide) (fun c463 => ?_) (fun c463 => ?_)
    · replace h1 := Ok.pos c463 h1
      refine lv_iconst (v := 0) hx hb dL_ticks_470 rfl ?_
      exact tL_ticks_b471 K E hZ hY un x1 x2 x3 x5 x7 x8 x9 x10 x12 x17 x18 s0 0 u H locs ls (lv_sub hl [0, 1, 2, 3, 4, 5, 6, 7, 8, 9, 10, 11] rfl) hP hD hS h1
    · replace h1 := Ok.neg c463 h1
      exact tL_ticks_b466 K E hZ hY un x1 x2 x3 x5 x7 x8 x9 x10 x12 x17 x18 s0 u H locs ls (lv_sub hl [0, 1, 2, 3, 4, 5, 6, 7, 8, 9, 10, 11] rfl) hP hD hS h1
def fL_ticks_b446 (x1 : Int32) (x2 : Int32) (x3 : Int32) (x5 : Int32) (x7 : Int32) (x8 : Int32) (x9 : Int32) (x10 : Int32) (x12 : Int32) (x17 : Int32) (x18 : Int32) (Y : YB) (un : Int32) (u : FS) : Option (Int32 × FS) :=
  (if x12 < 0 then fL_ticks_b456 x1 x2 x3 x5 x7 x8 x9 x10 x12 x17 x18 0 Y un u else fL_ticks_b456 x1 x2 x3 x5 x7 x8 x9 x10 x12 x17 x18 1 Y un u)
set_option maxHeartbeats 4000000 in
set_option maxRecDepth 100000 in
theorem tL_ticks_b446 {p : Program} {l : Launch} {e : Env} {s : State} {m : MethodId} {args : Array Value} {below : List Frame} {meth : Method} {c : Code} {D : va_G} {cy : Nat → ClassId} {A : Nat → Prop} {hLn : Nat} {lbn : Nat} {ad : Nat → Nat} {hh : Nat → Nat} {aa : Nat → Nat → Nat} {pa : Nat → Nat} {za zv : Nat → Nat} {Y : YB} (K : Int32 × FS → Prop) (E : mE D cy RL cL_ticks 23 (some .boolean) wsL_ticks A p s m args meth c) (hZ : mZ za zv A s s.heap) (hY : mY Y A s s.heap) (un : Int32)
     (x1 : Int32) (x2 : Int32) (x3 : Int32) (x5 : Int32) (x7 : Int32) (x8 : Int32) (x9 : Int32) (x10 : Int32) (x12 : Int32) (x17 : Int32) (x18 : Int32) (u : FS) (H : Heap) (locs : List Loc) (ls : Array Slot) (hl : lv_has ls 23 [(0, .ref hLn), (1, .int x1), (2, .int x2), (3, .int x3), (5, .int x5), (7, .int x7), (8, .int x8), (9, .int x9), (10, .int x10), (12, .int x12), (17, .int x17), (18, .int x18)]) (hP : va_P D kCl (([lwW hLn (ad 0) Y.2.1 lbn un, wF cy ad hh aa pa u] : List va_W).flatten) H) (hD : va_D A (([lwW hLn (ad 0) Y.2.1 lbn un, wF cy ad hh aa pa u] : List va_W).flatten)) (hS : va_S A s.heap H locs) (h1 : Ok (fL_ticks_b446 x1 x2 x3 x5 x7 x8 x9 x10 x12 x17 x18 Y un u) K) :
    kW p l e rmL_ticks s m args below meth c H locs (va_Qi (fun r q => K (r, q)) (fun q => kPost D A (([lwW hLn (ad 0) Y.2.1 lbn un, wF cy ad hh aa pa q] : List va_W).flatten)) A) A 446 ls [] := by
  obtain ⟨hx, hb, hr, hml, hown, hts, hlocks, hK, hA⟩ := id E
  unfold fL_ticks_b446 at h1
  refine lv_iload hx hb dL_ticks_446 (lv_at hl 9 rfl) ?_
  refine lv_if_lt (tgt := 455) hx hb dL_ticks_448 (by decide) (fun c448 => ?_) (fun c448 => ?_)
  · replace h1 := Ok.pos c448 h1
    refine lv_iconst (v := 0) hx hb dL_ticks_455 rfl ?_
    exact tL_ticks_b456 K E hZ hY un x1 x2 x3 x5 x7 x8 x9 x10 x12 x17 x18 0 u H locs ls (lv_sub hl [0, 1, 2, 3, 4, 5, 6, 7, 8, 9, 10, 11] rfl) hP hD hS h1
  · replace h1 := Ok.neg c448 h1
    refine lv_iconst (v := 1) hx hb dL_ticks_451 rfl ?_
    refine lv_goto (tgt := 456) hx hb dL_ticks_452 (by decide) ?_
    exact tL_ticks_b456 K E hZ hY un x1 x2 x3 x5 x7 x8 x9 x10 x12 x17 x18 1 u H locs ls (lv_sub hl [0, 1, 2, 3, 4, 5, 6, 7, 8, 9, 10, 11] rfl) hP hD hS h1
def fL_ticks_b441 (x1 : Int32) (x2 : Int32) (x3 : Int32) (x5 : Int32) (x7 : Int32) (x8 : Int32) (x9 : Int32) (x10 : Int32) (x12 : Int32) (x17 : Int32) (x18 : Int32) (s0 : Int32) (s1 : Int32) (Y : YB) (un : Int32) (u : FS) : Option (Int32 × FS) :=
  (if s0 = s1 then fL_ticks_b446 x1 x2 x3 x5 x7 x8 x9 x10 x12 x17 x18 Y un u else some (0, u))
set_option maxHeartbeats 4000000 in
set_option maxRecDepth 100000 in
theorem tL_ticks_b441 {p : Program} {l : Launch} {e : Env} {s : State} {m : MethodId} {args : Array Value} {below : List Frame} {meth : Method} {c : Code} {D : va_G} {cy : Nat → ClassId} {A : Nat → Prop} {hLn : Nat} {lbn : Nat} {ad : Nat → Nat} {hh : Nat → Nat} {aa : Nat → Nat → Nat} {pa : Nat → Nat} {za zv : Nat → Nat} {Y : YB} (K : Int32 × FS → Prop) (E : mE D cy RL cL_ticks 23 (some .boolean) wsL_ticks A p s m args meth c) (hZ : mZ za zv A s s.heap) (hY : mY Y A s s.heap) (un : Int32)
     (x1 : Int32) (x2 : Int32) (x3 : Int32) (x5 : Int32) (x7 : Int32) (x8 : Int32) (x9 : Int32) (x10 : Int32) (x12 : Int32) (x17 : Int32) (x18 : Int32) (s0 : Int32) (s1 : Int32) (u : FS) (H : Heap) (locs : List Loc) (ls : Array Slot) (hl : lv_has ls 23 [(0, .ref hLn), (1, .int x1), (2, .int x2), (3, .int x3), (5, .int x5), (7, .int x7), (8, .int x8), (9, .int x9), (10, .int x10), (12, .int x12), (17, .int x17), (18, .int x18)]) (hP : va_P D kCl (([lwW hLn (ad 0) Y.2.1 lbn un, wF cy ad hh aa pa u] : List va_W).flatten) H) (hD : va_D A (([lwW hLn (ad 0) Y.2.1 lbn un, wF cy ad hh aa pa u] : List va_W).flatten)) (hS : va_S A s.heap H locs) (h1 : Ok (fL_ticks_b441 x1 x2 x3 x5 x7 x8 x9 x10 x12 x17 x18 s0 s1 Y un u) K) :
    kW p l e rmL_ticks s m args below meth c H locs (va_Qi (fun r q => K (r, q)) (fun q => kPost D A (([lwW hLn (ad 0) Y.2.1 lbn un, wF cy ad hh aa pa q] : List va_W).flatten)) A) A 441 ls [.int s1, .int s0] := by
  obtain ⟨hx, hb, hr, hml, hown, hts, hlocks, hK, hA⟩ := id E
  unfold fL_ticks_b441 at h1
  refine lv_icmp_eq (tgt := 446) hx hb dL_ticks_441 (by decide) (fun c441 => ?_) (fun c441 => ?_)
  · replace h1 := Ok.pos c441 h1
    exact tL_ticks_b446 K E hZ hY un x1 x2 x3 x5 x7 x8 x9 x10 x12 x17 x18 u H locs ls (lv_sub hl [0, 1, 2, 3, 4, 5, 6, 7, 8, 9, 10, 11] rfl) hP hD hS h1
  · replace h1 := Ok.neg c441 h1
    refine lv_iconst (v := 0) hx hb dL_ticks_444 rfl ?_
    exact kret_iz hx hb hr rfl hlocks hP hD hS h1 dL_ticks_445
def fL_ticks_b401 (x1 : Int32) (x2 : Int32) (x3 : Int32) (x5 : Int32) (x6 : Int32) (x7 : Int32) (x8 : Int32) (x9 : Int32) (x10 : Int32) (x12 : Int32) (x17 : Int32) (x18 : Int32) (s0 : Int32) (s1 : Int32) (Y : YB) (un : Int32) (u : FS) : Option (Int32 × FS) :=
  (if s0 = s1 then (if x18 = 1 then bnd (fL_count 6 u) (fun r416 => (if x5 = 1 then fL_ticks_b441 x1 x2 x3 x5 x7 x8 x9 x10 x12 x17 x18 r416 (x6 - 1) Y un u else bnd (fL_setting 11 u) (fun r438 => fL_ticks_b441 x1 x2 x3 x5 x7 x8 x9 x10 x12 x17 x18 r416 r438 Y un u))) else fL_ticks_b446 x1 x2 x3 x5 x7 x8 x9 x10 x12 x17 x18 Y un u) else some (0, u))
set_option maxHeartbeats 4000000 in
set_option maxRecDepth 100000 in
theorem tL_ticks_b401 {p : Program} {l : Launch} {e : Env} {s : State} {m : MethodId} {args : Array Value} {below : List Frame} {meth : Method} {c : Code} {D : va_G} {cy : Nat → ClassId} {A : Nat → Prop} {hLn : Nat} {lbn : Nat} {ad : Nat → Nat} {hh : Nat → Nat} {aa : Nat → Nat → Nat} {pa : Nat → Nat} {za zv : Nat → Nat} {Y : YB} (K : Int32 × FS → Prop) (E : mE D cy RL cL_ticks 23 (some .boolean) wsL_ticks A p s m args meth c) (hZ : mZ za zv A s s.heap) (hY : mY Y A s s.heap) (un : Int32)
     (x1 : Int32) (x2 : Int32) (x3 : Int32) (x5 : Int32) (x6 : Int32) (x7 : Int32) (x8 : Int32) (x9 : Int32) (x10 : Int32) (x12 : Int32) (x17 : Int32) (x18 : Int32) (s0 : Int32) (s1 : Int32) (u : FS) (H : Heap) (locs : List Loc) (ls : Array Slot) (hl : lv_has ls 23 [(0, .ref hLn), (1, .int x1), (2, .int x2), (3, .int x3), (5, .int x5), (6, .int x6), (7, .int x7), (8, .int x8), (9, .int x9), (10, .int x10), (12, .int x12), (17, .int x17), (18, .int x18)]) (hP : va_P D kCl (([lwW hLn (ad 0) Y.2.1 lbn un, wF cy ad hh aa pa u] : List va_W).flatten) H) (hD : va_D A (([lwW hLn (ad 0) Y.2.1 lbn un, wF cy ad hh aa pa u] : List va_W).flatten)) (hS : va_S A s.heap H locs) (h1 : Ok (fL_ticks_b401 x1 x2 x3 x5 x6 x7 x8 x9 x10 x12 x17 x18 s0 s1 Y un u) K) :
    kW p l e rmL_ticks s m args below meth c H locs (va_Qi (fun r q => K (r, q)) (fun q => kPost D A (([lwW hLn (ad 0) Y.2.1 lbn un, wF cy ad hh aa pa q] : List va_W).flatten)) A) A 401 ls [.int s1, .int s0] := by
  obtain ⟨hx, hb, hr, hml, hown, hts, hlocks, hK, hA⟩ := id E
  unfold fL_ticks_b401 at h1
  refine lv_icmp_ne (tgt := 444) hx hb dL_ticks_401 (by decide) (fun c401 => ?_) (fun c401 => ?_)
  · replace h1 := Ok.neg c401 h1
    refine lv_iconst (v := 0) hx hb dL_ticks_444 rfl ?_
    exact kret_iz hx hb hr rfl hlocks hP hD hS h1 dL_ticks_445
  · replace h1 := Ok.pos c401 h1
    refine lv_iload hx hb dL_ticks_404 (lv_at hl 12 rfl) ?_
    refine lv_iconst (v := 1) hx hb dL_ticks_406 rfl ?_
    refine lv_icmp_ne (tgt := 446) hx hb dL_ticks_407 (by decide) (fun c407 => ?_) (fun c407 => ?_)
    · replace h1 := Ok.neg c407 h1
      exact tL_ticks_b446 K E hZ hY un x1 x2 x3 x5 x7 x8 x9 x10 x12 x17 x18 u H locs ls (lv_sub hl [0, 1, 2, 3, 4, 6, 7, 8, 9, 10, 11, 12] rfl) hP hD hS h1
    · replace h1 := Ok.pos c407 h1
      refine lv_aload_n hx hb dL_ticks_410 rfl (lv_at hl 0 rfl) ?_
      refine k_get (v := .ref (ad 0)) (C := RL) (T := TL) (N := 4) hx hb hts inL_ticks_L hown hK hP 0 rfl rfl 0 (by decide) lkL_ticks_10 rfl dL_ticks_411 ?_
      refine lv_bipush (v := 6) hx hb dL_ticks_414 rfl ?_
      refine kh_rS (As := [.ref (ad 0), .int 6]) (rest := []) h1 ⟨hx, hb, hml, hown, hts⟩ (cL_countM l D cy ad hh aa pa H.size u 6) (vx_cwSW 2 hts gL_ticks_L_count rfl rfl rfl heL_count ⟨Nat.le_of_ble_eq_true rfl, Nat.le_of_ble_eq_true rfl⟩) hK (k_sel1 (l := [lwW hLn (ad 0) Y.2.1 lbn un, wF cy ad hh aa pa u]) (n := 2) 1 [0] rfl rfl (by decide)) hP hD hS hA rfl hl.1 rfl (Nat.le_of_ble_eq_true rfl) dL_ticks_416 ⟨Nat.zero_le _, Nat.zero_le _⟩ (fun r416 H locs h1 hP hS => ?_)
      refine lv_iload hx hb dL_ticks_419 (lv_at hl 4 rfl) ?_
      refine lv_iconst (v := 1) hx hb dL_ticks_421 rfl ?_
      refine lv_icmp_ne (tgt := 432) hx hb dL_ticks_422 (by decide) (fun c422 => ?_) (fun c422 => ?_)
      · replace h1 := Ok.neg c422 h1
        refine lv_aload_n hx hb dL_ticks_432 rfl (lv_at hl 0 rfl) ?_
        refine k_get (v := .ref (ad 0)) (C := RL) (T := TL) (N := 4) hx hb hts inL_ticks_L hown hK hP 0 rfl rfl 0 (by decide) lkL_ticks_10 rfl dL_ticks_433 ?_
        refine lv_bipush (v := 11) hx hb dL_ticks_436 rfl ?_
        refine kh_rS (As := [.ref (ad 0), .int 11]) (rest := [.int r416]) h1 ⟨hx, hb, hml, hown, hts⟩ (cL_settingM l D cy ad hh aa pa H.size u 11) (vx_cwSW 2 hts gL_ticks_L_setting rfl rfl rfl heL_setting ⟨Nat.le_of_ble_eq_true rfl, Nat.le_of_ble_eq_true rfl⟩) hK (k_sel1 (l := [lwW hLn (ad 0) Y.2.1 lbn un, wF cy ad hh aa pa u]) (n := 2) 1 [0] rfl rfl (by decide)) hP hD hS hA rfl hl.1 rfl (Nat.le_of_ble_eq_true rfl) dL_ticks_438 ⟨Nat.zero_le _, Nat.zero_le _⟩ (fun r438 H locs h1 hP hS => ?_)
        exact tL_ticks_b441 K E hZ hY un x1 x2 x3 x5 x7 x8 x9 x10 x12 x17 x18 r416 r438 u H locs ls (lv_sub hl [0, 1, 2, 3, 4, 6, 7, 8, 9, 10, 11, 12] rfl) hP hD hS h1
      · replace h1 := Ok.pos c422 h1
        refine lv_iload hx hb dL_ticks_425 (lv_at hl 5 rfl) ?_
        refine lv_iconst (v := 1) hx hb dL_ticks_427 rfl ?_
        refine lv_isub hx hb dL_ticks_428 ?_
        refine lv_goto (tgt := 441) hx hb dL_ticks_429 (by decide) ?_
        exact tL_ticks_b441 K E hZ hY un x1 x2 x3 x5 x7 x8 x9 x10 x12 x17 x18 r416 (x6 - 1) u H locs ls (lv_sub hl [0, 1, 2, 3, 4, 6, 7, 8, 9, 10, 11, 12] rfl) hP hD hS h1
def fL_ticks_b396 (x1 : Int32) (x2 : Int32) (x3 : Int32) (x5 : Int32) (x6 : Int32) (x7 : Int32) (x8 : Int32) (x9 : Int32) (x10 : Int32) (x12 : Int32) (x17 : Int32) (x18 : Int32) (s0 : Int32) (Y : YB) (un : Int32) (u : FS) : Option (Int32 × FS) :=
  fL_ticks_b401 x1 x2 x3 x5 x6 x7 x8 x9 x10 x12 x17 x18 s0 1 Y un u
set_option maxHeartbeats 4000000 in
set_option maxRecDepth 100000 in
theorem tL_ticks_b396 {p : Program} {l : Launch} {e : Env} {s : State} {m : MethodId} {args : Array Value} {below : List Frame} {meth : Method} {c : Code} {D : va_G} {cy : Nat → ClassId} {A : Nat → Prop} {hLn : Nat} {lbn : Nat} {ad : Nat → Nat} {hh : Nat → Nat} {aa : Nat → Nat → Nat} {pa : Nat → Nat} {za zv : Nat → Nat} {Y : YB} (K : Int32 × FS → Prop) (E : mE D cy RL cL_ticks 23 (some .boolean) wsL_ticks A p s m args meth c) (hZ : mZ za zv A s s.heap) (hY : mY Y A s s.heap) (un : Int32)
     (x1 : Int32) (x2 : Int32) (x3 : Int32) (x5 : Int32) (x6 : Int32) (x7 : Int32) (x8 : Int32) (x9 : Int32) (x10 : Int32) (x12 : Int32) (x17 : Int32) (x18 : Int32) (s0 : Int32) (u : FS) (H : Heap) (locs : List Loc) (ls : Array Slot) (hl : lv_has ls 23 [(0, .ref hLn), (1, .int x1), (2, .int x2), (3, .int x3), (5, .int x5), (6, .int x6), (7, .int x7), (8, .int x8), (9, .int x9), (10, .int x10), (12, .int x12), (17, .int x17), (18, .int x18)]) (hP : va_P D kCl (([lwW hLn (ad 0) Y.2.1 lbn un, wF cy ad hh aa pa u] : List va_W).flatten) H) (hD : va_D A (([lwW hLn (ad 0) Y.2.1 lbn un, wF cy ad hh aa pa u] : List va_W).flatten)) (hS : va_S A s.heap H locs) (h1 : Ok (fL_ticks_b396 x1 x2 x3 x5 x6 x7 x8 x9 x10 x12 x17 x18 s0 Y un u) K) :
    kW p l e rmL_ticks s m args below meth c H locs (va_Qi (fun r q => K (r, q)) (fun q => kPost D A (([lwW hLn (ad 0) Y.2.1 lbn un, wF cy ad hh aa pa q] : List va_W).flatten)) A) A 396 ls [.int s0] := by
  obtain ⟨hx, hb, hr, hml, hown, hts, hlocks, hK, hA⟩ := id E
  unfold fL_ticks_b396 at h1
  refine lv_iconst (v := 1) hx hb dL_ticks_396 rfl ?_
  refine lv_goto (tgt := 401) hx hb dL_ticks_397 (by decide) ?_
  exact tL_ticks_b401 K E hZ hY un x1 x2 x3 x5 x6 x7 x8 x9 x10 x12 x17 x18 s0 1 u H locs ls (lv_sub hl [0, 1, 2, 3, 4, 5, 6, 7, 8, 9, 10, 11, 12] rfl) hP hD hS h1
def fL_ticks_b358 (x1 : Int32) (x2 : Int32) (x3 : Int32) (x5 : Int32) (x6 : Int32) (x7 : Int32) (x8 : Int32) (x9 : Int32) (x10 : Int32) (x12 : Int32) (x14 : Int32) (x16 : Int32) (x17 : Int32) (x18 : Int32) (x19 : Int32) (x20 : Int32) (s0 : Int32) (s1 : Int32) (Y : YB) (un : Int32) (u : FS) : Option (Int32 × FS) :=
  (if s0 = s1 then (if x20 = 0 then (if x5 = 1 then fL_ticks_b396 x1 x2 x3 x5 x6 x7 x8 x9 x10 x12 x17 x18 x18 Y un u else (if x16 ≤ x14 then fL_ticks_b401 x1 x2 x3 x5 x6 x7 x8 x9 x10 x12 x17 x18 x18 0 Y un u else fL_ticks_b396 x1 x2 x3 x5 x6 x7 x8 x9 x10 x12 x17 x18 x18 Y un u)) else (if x16 = x19 then fL_ticks_b401 x1 x2 x3 x5 x6 x7 x8 x9 x10 x12 x17 x18 x18 0 Y un u else fL_ticks_b401 x1 x2 x3 x5 x6 x7 x8 x9 x10 x12 x17 x18 x18 2 Y un u)) else some (0, u))
set_option maxHeartbeats 4000000 in
set_option maxRecDepth 100000 in
theorem tL_ticks_b358 {p : Program} {l : Launch} {e : Env} {s : State} {m : MethodId} {args : Array Value} {below : List Frame} {meth : Method} {c : Code} {D : va_G} {cy : Nat → ClassId} {A : Nat → Prop} {hLn : Nat} {lbn : Nat} {ad : Nat → Nat} {hh : Nat → Nat} {aa : Nat → Nat → Nat} {pa : Nat → Nat} {za zv : Nat → Nat} {Y : YB} (K : Int32 × FS → Prop) (E : mE D cy RL cL_ticks 23 (some .boolean) wsL_ticks A p s m args meth c) (hZ : mZ za zv A s s.heap) (hY : mY Y A s s.heap) (un : Int32)
     (x1 : Int32) (x2 : Int32) (x3 : Int32) (x5 : Int32) (x6 : Int32) (x7 : Int32) (x8 : Int32) (x9 : Int32) (x10 : Int32) (x12 : Int32) (x14 : Int32) (x16 : Int32) (x17 : Int32) (x18 : Int32) (x19 : Int32) (x20 : Int32) (s0 : Int32) (s1 : Int32) (u : FS) (H : Heap) (locs : List Loc) (ls : Array Slot) (hl : lv_has ls 23 [(0, .ref hLn), (1, .int x1), (2, .int x2), (3, .int x3), (5, .int x5), (6, .int x6), (7, .int x7), (8, .int x8), (9, .int x9), (10, .int x10), (12, .int x12), (14, .int x14), (16, .int x16), (17, .int x17), (18, .int x18), (19, .int x19), (20, .int x20)]) (hP : va_P D kCl (([lwW hLn (ad 0) Y.2.1 lbn un, wF cy ad hh aa pa u] : List va_W).flatten) H) (hD : va_D A (([lwW hLn (ad 0) Y.2.1 lbn un, wF cy ad hh aa pa u] : List va_W).flatten)) (hS : va_S A s.heap H locs) (h1 : Ok (fL_ticks_b358 x1 x2 x3 x5 x6 x7 x8 x9 x10 x12 x14 x16 x17 x18 x19 x20 s0 s1 Y un u) K) :
    kW p l e rmL_ticks s m args below meth c H locs (va_Qi (fun r q => K (r, q)) (fun q => kPost D A (([lwW hLn (ad 0) Y.2.1 lbn un, wF cy ad hh aa pa q] : List va_W).flatten)) A) A 358 ls [.int s1, .int s0] := by
  obtain ⟨hx, hb, hr, hml, hown, hts, hlocks, hK, hA⟩ := id E
  unfold fL_ticks_b358 at h1
  refine lv_icmp_ne (tgt := 444) hx hb dL_ticks_358 (by decide) (fun c358 => ?_) (fun c358 => ?_)
  · replace h1 := Ok.neg c358 h1
    refine lv_iconst (v := 0) hx hb dL_ticks_444 rfl ?_
    exact kret_iz hx hb hr rfl hlocks hP hD hS h1 dL_ticks_445
  · replace h1 := Ok.pos c358 h1
    refine lv_iload hx hb dL_ticks_361 (lv_at hl 14 rfl) ?_
    refine lv_iload hx hb dL_ticks_363 (lv_at hl 16 rfl) ?_
    refine lv_if_eq (tgt := 383) hx hb dL_ticks_365 (by decide) (fun c365 => ?_) (fun c365 => ?_)
    · replace h1 := Ok.pos c365 h1
      refine lv_iload hx hb dL_ticks_383 (lv_at hl 4 rfl) ?_
      refine lv_iconst (v := 1) hx hb dL_ticks_385 rfl ?_
      refine lv_icmp_eq (tgt := 396) hx hb dL_ticks_386 (by decide) (fun c386 => ?_) (fun c386 => ?_)
      · replace h1 := Ok.pos c386 h1
        exact tL_ticks_b396 K E hZ hY un x1 x2 x3 x5 x6 x7 x8 x9 x10 x12 x17 x18 x18 u H locs ls (lv_sub hl [0, 1, 2, 3, 4, 5, 6, 7, 8, 9, 10, 13, 14] rfl) hP hD hS h1
      · replace h1 := Ok.neg c386 h1
        refine lv_iload hx hb dL_ticks_389 (lv_at hl 12 rfl) ?_
        refine lv_iload hx hb dL_ticks_391 (lv_at hl 11 rfl) ?_
        refine lv_icmp_le (tgt := 400) hx hb dL_ticks_393 (by decide) (fun c393 => ?_) (fun c393 => ?_)
        · replace h1 := Ok.pos c393 h1
          refine lv_iconst (v := 0) hx hb dL_ticks_400 rfl ?_
          exact tL_ticks_b401 K E hZ hY un x1 x2 x3 x5 x6 x7 x8 x9 x10 x12 x17 x18 x18 0 u H locs ls (lv_sub hl [0, 1, 2, 3, 4, 5, 6, 7, 8, 9, 10, 13, 14] rfl) hP hD hS h1
        · replace h1 := Ok.neg c393 h1
          exact tL_ticks_b396 K E hZ hY un x1 x2 x3 x5 x6 x7 x8 x9 x10 x12 x17 x18 x18 u H locs ls (lv_sub hl [0, 1, 2, 3, 4, 5, 6, 7, 8, 9, 10, 13, 14] rfl) hP hD hS h1
    · replace h1 := Ok.neg c365 h1
      refine lv_iload hx hb dL_ticks_368 (lv_at hl 12 rfl) ?_
      refine lv_iload hx hb dL_ticks_370 (lv_at hl 15 rfl) ?_
      refine lv_icmp_ne (tgt := 379) hx hb dL_ticks_372 (by decide) (fun c372 => ?_) (fun c372 => ?_)
      · replace h1 := Ok.neg c372 h1
        refine lv_iconst (v := 2) hx hb dL_ticks_379 rfl ?_
        refine lv_goto (tgt := 401) hx hb dL_ticks_380 (by decide) ?_
        exact tL_ticks_b401 K E hZ hY un x1 x2 x3 x5 x6 x7 x8 x9 x10 x12 x17 x18 x18 2 u H locs ls (lv_sub hl [0, 1, 2, 3, 4, 5, 6, 7, 8, 9, 10, 13, 14] rfl) hP hD hS h1
      · replace h1 := Ok.pos c372 h1
        refine lv_iconst (v := 0) hx hb dL_ticks_375 rfl ?_
        refine lv_goto (tgt := 401) hx hb dL_ticks_376 (by decide) ?_
        exact tL_ticks_b401 K E hZ hY un x1 x2 x3 x5 x6 x7 x8 x9 x10 x12 x17 x18 x18 0 u H locs ls (lv_sub hl [0, 1, 2, 3, 4, 5, 6, 7, 8, 9, 10, 13, 14] rfl) hP hD hS h1
def fL_ticks_b331 (x1 : Int32) (x2 : Int32) (x3 : Int32) (x5 : Int32) (x6 : Int32) (x7 : Int32) (x8 : Int32) (x9 : Int32) (x10 : Int32) (x12 : Int32) (x14 : Int32) (x16 : Int32) (x17 : Int32) (x18 : Int32) (x19 : Int32) (s0 : Int32) (Y : YB) (un : Int32) (u : FS) : Option (Int32 × FS) :=
  (if s0 = 0 then fL_ticks_b358 x1 x2 x3 x5 x6 x7 x8 x9 x10 x12 x14 x16 x17 x18 x19 s0 x19 0 Y un u else bnd (fL_setting 9 u) (fun r346 => fL_ticks_b358 x1 x2 x3 x5 x6 x7 x8 x9 x10 x12 x14 x16 x17 x18 x19 s0 x19 (if x16 < r346 then x16 else r346) Y un u))
set_option maxHeartbeats 4000000 in
set_option maxRecDepth 100000 in
theorem tL_ticks_b331 {p : Program} {l : Launch} {e : Env} {s : State} {m : MethodId} {args : Array Value} {below : List Frame} {meth : Method} {c : Code} {D : va_G} {cy : Nat → ClassId} {A : Nat → Prop} {hLn : Nat} {lbn : Nat} {ad : Nat → Nat} {hh : Nat → Nat} {aa : Nat → Nat → Nat} {pa : Nat → Nat} {za zv : Nat → Nat} {Y : YB} (K : Int32 × FS → Prop) (E : mE D cy RL cL_ticks 23 (some .boolean) wsL_ticks A p s m args meth c) (hZ : mZ za zv A s s.heap) (hY : mY Y A s s.heap) (un : Int32)
     (x1 : Int32) (x2 : Int32) (x3 : Int32) (x5 : Int32) (x6 : Int32) (x7 : Int32) (x8 : Int32) (x9 : Int32) (x10 : Int32) (x12 : Int32) (x14 : Int32) (x16 : Int32) (x17 : Int32) (x18 : Int32) (x19 : Int32) (s0 : Int32) (u : FS) (H : Heap) (locs : List Loc) (ls : Array Slot) (hl : lv_has ls 23 [(0, .ref hLn), (1, .int x1), (2, .int x2), (3, .int x3), (5, .int x5), (6, .int x6), (7, .int x7), (8, .int x8), (9, .int x9), (10, .int x10), (12, .int x12), (14, .int x14), (16, .int x16), (17, .int x17), (18, .int x18), (19, .int x19)]) (hP : va_P D kCl (([lwW hLn (ad 0) Y.2.1 lbn un, wF cy ad hh aa pa u] : List va_W).flatten) H) (hD : va_D A (([lwW hLn (ad 0) Y.2.1 lbn un, wF cy ad hh aa pa u] : List va_W).flatten)) (hS : va_S A s.heap H locs) (h1 : Ok (fL_ticks_b331 x1 x2 x3 x5 x6 x7 x8 x9 x10 x12 x14 x16 x17 x18 x19 s0 Y un u) K) :
    kW p l e rmL_ticks s m args below meth c H locs (va_Qi (fun r q => K (r, q)) (fun q => kPost D A (([lwW hLn (ad 0) Y.2.1 lbn un, wF cy ad hh aa pa q] : List va_W).flatten)) A) A 331 ls [.int s0] := by
  obtain ⟨hx, hb, hr, hml, hown, hts, hlocks, hK, hA⟩ := id E
  unfold fL_ticks_b331 at h1
  refine lv_istore (lv' := [(20, .int s0), (0, .ref hLn), (1, .int x1), (2, .int x2), (3, .int x3), (5, .int x5), (6, .int x6), (7, .int x7), (8, .int x8), (9, .int x9), (10, .int x10), (12, .int x12), (14, .int x14), (16, .int x16), (17, .int x17), (18, .int x18), (19, .int x19)]) hx hb dL_ticks_331 hl (by decide) rfl (fun ls hl => ?_)
  refine lv_iload hx hb dL_ticks_333 (lv_at hl 16 rfl) ?_
  refine lv_iload hx hb dL_ticks_335 (lv_at hl 0 rfl) ?_
  refine lv_if_eq (tgt := 357) hx hb dL_ticks_337 (by decide) (fun c337 => ?_) (fun c337 => ?_)
  · replace h1 := Ok.pos c337 h1
    refine lv_iconst (v := 0) hx hb dL_ticks_357 rfl ?_
    exact tL_ticks_b358 K E hZ hY un x1 x2 x3 x5 x6 x7 x8 x9 x10 x12 x14 x16 x17 x18 x19 s0 x19 0 u H locs ls (lv_sub hl [1, 2, 3, 4, 5, 6, 7, 8, 9, 10, 11, 12, 13, 14, 15, 16, 0] rfl) hP hD hS h1
  · replace h1 := Ok.neg c337 h1
    refine lv_aload_n hx hb dL_ticks_340 rfl (lv_at hl 1 rfl) ?_
    refine k_get (v := .ref (ad 0)) (C := RL) (T := TL) (N := 4) hx hb hts inL_ticks_L hown hK hP 0 rfl rfl 0 (by decide) lkL_ticks_10 rfl dL_ticks_341 ?_
    refine lv_bipush (v := 9) hx hb dL_ticks_344 rfl ?_
    refine kh_rS (As := [.ref (ad 0), .int 9]) (rest := [.int x19]) h1 ⟨hx, hb, hml, hown, hts⟩ (cL_settingM l D cy ad hh aa pa H.size u 9) (vx_cwSW 2 hts gL_ticks_L_setting rfl rfl rfl heL_setting ⟨Nat.le_of_ble_eq_true rfl, Nat.le_of_ble_eq_true rfl⟩) hK (k_sel1 (l := [lwW hLn (ad 0) Y.2.1 lbn un, wF cy ad hh aa pa u]) (n := 2) 1 [0] rfl rfl (by decide)) hP hD hS hA rfl hl.1 rfl (Nat.le_of_ble_eq_true rfl) dL_ticks_346 ⟨Nat.zero_le _, Nat.zero_le _⟩ (fun r346 H locs h1 hP hS => ?_)
    refine lv_iload hx hb dL_ticks_349 (lv_at hl 13 rfl) ?_
    refine va_mmin hx hb (hml.trans hl.1.symm) hown (hts _ (List.mem_of_getElem? (i := 6) rfl)) (hts _ (List.mem_of_getElem? (i := 7) rfl)) (hts _ (List.mem_of_getElem? (i := 4) rfl)) (hts _ (List.mem_of_getElem? (i := 8) rfl)) (Nat.le_of_ble_eq_true rfl) (Nat.le_of_ble_eq_true rfl) (Nat.zero_le _) (Nat.zero_le _) dL_ticks_351 ?_
    refine lv_goto (tgt := 358) hx hb dL_ticks_354 (by decide) ?_
    exact tL_ticks_b358 K E hZ hY un x1 x2 x3 x5 x6 x7 x8 x9 x10 x12 x14 x16 x17 x18 x19 s0 x19 (if x16 < r346 then x16 else r346) u H locs ls (lv_sub hl [1, 2, 3, 4, 5, 6, 7, 8, 9, 10, 11, 12, 13, 14, 15, 16, 0] rfl) hP hD hS h1
def fL_ticks_b326 (x1 : Int32) (x2 : Int32) (x3 : Int32) (x5 : Int32) (x6 : Int32) (x7 : Int32) (x8 : Int32) (x9 : Int32) (x10 : Int32) (x12 : Int32) (x14 : Int32) (x16 : Int32) (x17 : Int32) (x18 : Int32) (x19 : Int32) (Y : YB) (un : Int32) (u : FS) : Option (Int32 × FS) :=
  fL_ticks_b331 x1 x2 x3 x5 x6 x7 x8 x9 x10 x12 x14 x16 x17 x18 x19 1 Y un u
set_option maxHeartbeats 4000000 in
set_option maxRecDepth 100000 in
theorem tL_ticks_b326 {p : Program} {l : Launch} {e : Env} {s : State} {m : MethodId} {args : Array Value} {below : List Frame} {meth : Method} {c : Code} {D : va_G} {cy : Nat → ClassId} {A : Nat → Prop} {hLn : Nat} {lbn : Nat} {ad : Nat → Nat} {hh : Nat → Nat} {aa : Nat → Nat → Nat} {pa : Nat → Nat} {za zv : Nat → Nat} {Y : YB} (K : Int32 × FS → Prop) (E : mE D cy RL cL_ticks 23 (some .boolean) wsL_ticks A p s m args meth c) (hZ : mZ za zv A s s.heap) (hY : mY Y A s s.heap) (un : Int32)
     (x1 : Int32) (x2 : Int32) (x3 : Int32) (x5 : Int32) (x6 : Int32) (x7 : Int32) (x8 : Int32) (x9 : Int32) (x10 : Int32) (x12 : Int32) (x14 : Int32) (x16 : Int32) (x17 : Int32) (x18 : Int32) (x19 : Int32) (u : FS) (H : Heap) (locs : List Loc) (ls : Array Slot) (hl : lv_has ls 23 [(0, .ref hLn), (1, .int x1), (2, .int x2), (3, .int x3), (5, .int x5), (6, .int x6), (7, .int x7), (8, .int x8), (9, .int x9), (10, .int x10), (12, .int x12), (14, .int x14), (16, .int x16), (17, .int x17), (18, .int x18), (19, .int x19)]) (hP : va_P D kCl (([lwW hLn (ad 0) Y.2.1 lbn un, wF cy ad hh aa pa u] : List va_W).flatten) H) (hD : va_D A (([lwW hLn (ad 0) Y.2.1 lbn un, wF cy ad hh aa pa u] : List va_W).flatten)) (hS : va_S A s.heap H locs) (h1 : Ok (fL_ticks_b326 x1 x2 x3 x5 x6 x7 x8 x9 x10 x12 x14 x16 x17 x18 x19 Y un u) K) :
    kW p l e rmL_ticks s m args below meth c H locs (va_Qi (fun r q => K (r, q)) (fun q => kPost D A (([lwW hLn (ad 0) Y.2.1 lbn un, wF cy ad hh aa pa q] : List va_W).flatten)) A) A 326 ls [] := by
  obtain ⟨hx, hb, hr, hml, hown, hts, hlocks, hK, hA⟩ := id E
  unfold fL_ticks_b326 at h1
  refine lv_iconst (v := 1) hx hb dL_ticks_326 rfl ?_
  refine lv_goto (tgt := 331) hx hb dL_ticks_327 (by decide) ?_
  exact tL_ticks_b331 K E hZ hY un x1 x2 x3 x5 x6 x7 x8 x9 x10 x12 x14 x16 x17 x18 x19 1 u H locs ls (lv_sub hl [0, 1, 2, 3, 4, 5, 6, 7, 8, 9, 10, 11, 12, 13, 14, 15] rfl) hP hD hS h1
def fL_ticks_b330 (x1 : Int32) (x2 : Int32) (x3 : Int32) (x5 : Int32) (x6 : Int32) (x7 : Int32) (x8 : Int32) (x9 : Int32) (x10 : Int32) (x12 : Int32) (x14 : Int32) (x16 : Int32) (x17 : Int32) (x18 : Int32) (x19 : Int32) (Y : YB) (un : Int32) (u : FS) : Option (Int32 × FS) :=
  fL_ticks_b331 x1 x2 x3 x5 x6 x7 x8 x9 x10 x12 x14 x16 x17 x18 x19 0 Y un u
set_option maxHeartbeats 4000000 in
set_option maxRecDepth 100000 in
theorem tL_ticks_b330 {p : Program} {l : Launch} {e : Env} {s : State} {m : MethodId} {args : Array Value} {below : List Frame} {meth : Method} {c : Code} {D : va_G} {cy : Nat → ClassId} {A : Nat → Prop} {hLn : Nat} {lbn : Nat} {ad : Nat → Nat} {hh : Nat → Nat} {aa : Nat → Nat → Nat} {pa : Nat → Nat} {za zv : Nat → Nat} {Y : YB} (K : Int32 × FS → Prop) (E : mE D cy RL cL_ticks 23 (some .boolean) wsL_ticks A p s m args meth c) (hZ : mZ za zv A s s.heap) (hY : mY Y A s s.heap) (un : Int32)
     (x1 : Int32) (x2 : Int32) (x3 : Int32) (x5 : Int32) (x6 : Int32) (x7 : Int32) (x8 : Int32) (x9 : Int32) (x10 : Int32) (x12 : Int32) (x14 : Int32) (x16 : Int32) (x17 : Int32) (x18 : Int32) (x19 : Int32) (u : FS) (H : Heap) (locs : List Loc) (ls : Array Slot) (hl : lv_has ls 23 [(0, .ref hLn), (1, .int x1), (2, .int x2), (3, .int x3), (5, .int x5), (6, .int x6), (7, .int x7), (8, .int x8), (9, .int x9), (10, .int x10), (12, .int x12), (14, .int x14), (16, .int x16), (17, .int x17), (18, .int x18), (19, .int x19)]) (hP : va_P D kCl (([lwW hLn (ad 0) Y.2.1 lbn un, wF cy ad hh aa pa u] : List va_W).flatten) H) (hD : va_D A (([lwW hLn (ad 0) Y.2.1 lbn un, wF cy ad hh aa pa u] : List va_W).flatten)) (hS : va_S A s.heap H locs) (h1 : Ok (fL_ticks_b330 x1 x2 x3 x5 x6 x7 x8 x9 x10 x12 x14 x16 x17 x18 x19 Y un u) K) :
    kW p l e rmL_ticks s m args below meth c H locs (va_Qi (fun r q => K (r, q)) (fun q => kPost D A (([lwW hLn (ad 0) Y.2.1 lbn un, wF cy ad hh aa pa q] : List va_W).flatten)) A) A 330 ls [] := by
  obtain ⟨hx, hb, hr, hml, hown, hts, hlocks, hK, hA⟩ := id E
  unfold fL_ticks_b330 at h1
  refine lv_iconst (v := 0) hx hb dL_ticks_330 rfl ?_
  exact tL_ticks_b331 K E hZ hY un x1 x2 x3 x5 x6 x7 x8 x9 x10 x12 x14 x16 x17 x18 x19 0 u H locs ls (lv_sub hl [0, 1, 2, 3, 4, 5, 6, 7, 8, 9, 10, 11, 12, 13, 14, 15] rfl) hP hD hS h1
def fL_ticks_b302 (x1 : Int32) (x2 : Int32) (x3 : Int32) (x5 : Int32) (x6 : Int32) (x7 : Int32) (x8 : Int32) (x9 : Int32) (x10 : Int32) (x12 : Int32) (x14 : Int32) (x16 : Int32) (x17 : Int32) (x18 : Int32) (x19 : Int32) (Y : YB) (un : Int32) (u : FS) : Option (Int32 × FS) :=
  (if x5 = 0 then (if x16 ≤ x14 then fL_ticks_b330 x1 x2 x3 x5 x6 x7 x8 x9 x10 x12 x14 x16 x17 x18 x19 Y un u else bnd (fL_setting 11 u) (fun r320 => (if r320 = 0 then fL_ticks_b326 x1 x2 x3 x5 x6 x7 x8 x9 x10 x12 x14 x16 x17 x18 x19 Y un u else fL_ticks_b330 x1 x2 x3 x5 x6 x7 x8 x9 x10 x12 x14 x16 x17 x18 x19 Y un u))) else fL_ticks_b330 x1 x2 x3 x5 x6 x7 x8 x9 x10 x12 x14 x16 x17 x18 x19 Y un u)
set_option maxHeartbeats 4000000 in
set_option maxRecDepth 100000 in
theorem tL_ticks_b302 {p : Program} {l : Launch} {e : Env} {s : State} {m : MethodId} {args : Array Value} {below : List Frame} {meth : Method} {c : Code} {D : va_G} {cy : Nat → ClassId} {A : Nat → Prop} {hLn : Nat} {lbn : Nat} {ad : Nat → Nat} {hh : Nat → Nat} {aa : Nat → Nat → Nat} {pa : Nat → Nat} {za zv : Nat → Nat} {Y : YB} (K : Int32 × FS → Prop) (E : mE D cy RL cL_ticks 23 (some .boolean) wsL_ticks A p s m args meth c) (hZ : mZ za zv A s s.heap) (hY : mY Y A s s.heap) (un : Int32)
     (x1 : Int32) (x2 : Int32) (x3 : Int32) (x5 : Int32) (x6 : Int32) (x7 : Int32) (x8 : Int32) (x9 : Int32) (x10 : Int32) (x12 : Int32) (x14 : Int32) (x16 : Int32) (x17 : Int32) (x18 : Int32) (x19 : Int32) (u : FS) (H : Heap) (locs : List Loc) (ls : Array Slot) (hl : lv_has ls 23 [(0, .ref hLn), (1, .int x1), (2, .int x2), (3, .int x3), (5, .int x5), (6, .int x6), (7, .int x7), (8, .int x8), (9, .int x9), (10, .int x10), (12, .int x12), (14, .int x14), (16, .int x16), (17, .int x17), (18, .int x18), (19, .int x19)]) (hP : va_P D kCl (([lwW hLn (ad 0) Y.2.1 lbn un, wF cy ad hh aa pa u] : List va_W).flatten) H) (hD : va_D A (([lwW hLn (ad 0) Y.2.1 lbn un, wF cy ad hh aa pa u] : List va_W).flatten)) (hS : va_S A s.heap H locs) (h1 : Ok (fL_ticks_b302 x1 x2 x3 x5 x6 x7 x8 x9 x10 x12 x14 x16 x17 x18 x19 Y un u) K) :
    kW p l e rmL_ticks s m args below meth c H locs (va_Qi (fun r q => K (r, q)) (fun q => kPost D A (([lwW hLn (ad 0) Y.2.1 lbn un, wF cy ad hh aa pa q] : List va_W).flatten)) A) A 302 ls [] := by
  obtain ⟨hx, hb, hr, hml, hown, hts, hlocks, hK, hA⟩ := id E
  unfold fL_ticks_b302 at h1
  refine lv_iload hx hb dL_ticks_302 (lv_at hl 4 rfl) ?_
  refine lv_if_ne (tgt := 330) hx hb dL_ticks_304 (by decide) (fun c304 => ?_) (fun c304 => ?_)
  · replace h1 := Ok.neg c304 h1
    exact tL_ticks_b330 K E hZ hY un x1 x2 x3 x5 x6 x7 x8 x9 x10 x12 x14 x16 x17 x18 x19 u H locs ls (lv_sub hl [0, 1, 2, 3, 4, 5, 6, 7, 8, 9, 10, 11, 12, 13, 14, 15] rfl) hP hD hS h1
  · replace h1 := Ok.pos c304 h1
    refine lv_iload hx hb dL_ticks_307 (lv_at hl 12 rfl) ?_
    refine lv_iload hx hb dL_ticks_309 (lv_at hl 11 rfl) ?_
    refine lv_icmp_le (tgt := 330) hx hb dL_ticks_311 (by decide) (fun c311 => ?_) (fun c311 => ?_)
    · replace h1 := Ok.pos c311 h1
      exact tL_ticks_b330 K E hZ hY un x1 x2 x3 x5 x6 x7 x8 x9 x10 x12 x14 x16 x17 x18 x19 u H locs ls (lv_sub hl [0, 1, 2, 3, 4, 5, 6, 7, 8, 9, 10, 11, 12, 13, 14, 15] rfl) hP hD hS h1
    · replace h1 := Ok.neg c311 h1
      refine lv_aload_n hx hb dL_ticks_314 rfl (lv_at hl 0 rfl) ?_
      refine k_get (v := .ref (ad 0)) (C := RL) (T := TL) (N := 4) hx hb hts inL_ticks_L hown hK hP 0 rfl rfl 0 (by decide) lkL_ticks_10 rfl dL_ticks_315 ?_
      refine lv_bipush (v := 11) hx hb dL_ticks_318 rfl ?_
      refine kh_rS (As := [.ref (ad 0), .int 11]) (rest := []) h1 ⟨hx, hb, hml, hown, hts⟩ (cL_settingM l D cy ad hh aa pa H.size u 11) (vx_cwSW 2 hts gL_ticks_L_setting rfl rfl rfl heL_setting ⟨Nat.le_of_ble_eq_true rfl, Nat.le_of_ble_eq_true rfl⟩) hK (k_sel1 (l := [lwW hLn (ad 0) Y.2.1 lbn un, wF cy ad hh aa pa u]) (n := 2) 1 [0] rfl rfl (by decide)) hP hD hS hA rfl hl.1 rfl (Nat.le_of_ble_eq_true rfl) dL_ticks_320 ⟨Nat.zero_le _, Nat.zero_le _⟩ (fun r320 H locs h1 hP hS => ?_)
      refine lv_if_ne (tgt := 330) hx hb dL_ticks_323 (by decide) (fun c323 => ?_) (fun c323 => ?_)
      · replace h1 := Ok.neg c323 h1
        exact tL_ticks_b330 K E hZ hY un x1 x2 x3 x5 x6 x7 x8 x9 x10 x12 x14 x16 x17 x18 x19 u H locs ls (lv_sub hl [0, 1, 2, 3, 4, 5, 6, 7, 8, 9, 10, 11, 12, 13, 14, 15] rfl) hP hD hS h1
      · replace h1 := Ok.pos c323 h1
        exact tL_ticks_b326 K E hZ hY un x1 x2 x3 x5 x6 x7 x8 x9 x10 x12 x14 x16 x17 x18 x19 u H locs ls (lv_sub hl [0, 1, 2, 3, 4, 5, 6, 7, 8, 9, 10, 11, 12, 13, 14, 15] rfl) hP hD hS h1
def fL_ticks_b284 (x1 : Int32) (x2 : Int32) (x3 : Int32) (x5 : Int32) (x6 : Int32) (x7 : Int32) (x8 : Int32) (x9 : Int32) (x10 : Int32) (x12 : Int32) (x14 : Int32) (x16 : Int32) (x17 : Int32) (x18 : Int32) (x19 : Int32) (Y : YB) (un : Int32) (u : FS) : Option (Int32 × FS) :=
  (if x5 = 2 then fL_ticks_b326 x1 x2 x3 x5 x6 x7 x8 x9 x10 x12 x14 x16 x17 x18 x19 Y un u else (if x5 = 1 then (if x6 = 1 then fL_ticks_b326 x1 x2 x3 x5 x6 x7 x8 x9 x10 x12 x14 x16 x17 x18 x19 Y un u else fL_ticks_b302 x1 x2 x3 x5 x6 x7 x8 x9 x10 x12 x14 x16 x17 x18 x19 Y un u) else fL_ticks_b302 x1 x2 x3 x5 x6 x7 x8 x9 x10 x12 x14 x16 x17 x18 x19 Y un u))
set_option maxHeartbeats 4000000 in
set_option maxRecDepth 100000 in
theorem tL_ticks_b284 {p : Program} {l : Launch} {e : Env} {s : State} {m : MethodId} {args : Array Value} {below : List Frame} {meth : Method} {c : Code} {D : va_G} {cy : Nat → ClassId} {A : Nat → Prop} {hLn : Nat} {lbn : Nat} {ad : Nat → Nat} {hh : Nat → Nat} {aa : Nat → Nat → Nat} {pa : Nat → Nat} {za zv : Nat → Nat} {Y : YB} (K : Int32 × FS → Prop) (E : mE D cy RL cL_ticks 23 (some .boolean) wsL_ticks A p s m args meth c) (hZ : mZ za zv A s s.heap) (hY : mY Y A s s.heap) (un : Int32)
     (x1 : Int32) (x2 : Int32) (x3 : Int32) (x5 : Int32) (x6 : Int32) (x7 : Int32) (x8 : Int32) (x9 : Int32) (x10 : Int32) (x12 : Int32) (x14 : Int32) (x16 : Int32) (x17 : Int32) (x18 : Int32) (x19 : Int32) (u : FS) (H : Heap) (locs : List Loc) (ls : Array Slot) (hl : lv_has ls 23 [(0, .ref hLn), (1, .int x1), (2, .int x2), (3, .int x3), (5, .int x5), (6, .int x6), (7, .int x7), (8, .int x8), (9, .int x9), (10, .int x10), (12, .int x12), (14, .int x14), (16, .int x16), (17, .int x17), (18, .int x18), (19, .int x19)]) (hP : va_P D kCl (([lwW hLn (ad 0) Y.2.1 lbn un, wF cy ad hh aa pa u] : List va_W).flatten) H) (hD : va_D A (([lwW hLn (ad 0) Y.2.1 lbn un, wF cy ad hh aa pa u] : List va_W).flatten)) (hS : va_S A s.heap H locs) (h1 : Ok (fL_ticks_b284 x1 x2 x3 x5 x6 x7 x8 x9 x10 x12 x14 x16 x17 x18 x19 Y un u) K) :
    kW p l e rmL_ticks s m args below meth c H locs (va_Qi (fun r q => K (r, q)) (fun q => kPost D A (([lwW hLn (ad 0) Y.2.1 lbn un, wF cy ad hh aa pa q] : List va_W).flatten)) A) A 284 ls [] := by
  obtain ⟨hx, hb, hr, hml, hown, hts, hlocks, hK, hA⟩ := id E
  unfold fL_ticks_b284 at h1
  refine lv_iload hx hb dL_ticks_284 (lv_at hl 4 rfl) ?_
  refine lv_iconst (v := 2) hx hb dL_ticks_286 rfl ?_
  refine lv_icmp_eq (tgt := 326) hx hb dL_ticks_287 (by decide) (fun c287 => ?_) (fun c287 => ?_)
  · replace h1 := Ok.pos c287 h1
    exact tL_ticks_b326 K E hZ hY un x1 x2 x3 x5 x6 x7 x8 x9 x10 x12 x14 x16 x17 x18 x19 u H locs ls (lv_sub hl [0, 1, 2, 3, 4, 5, 6, 7, 8, 9, 10, 11, 12, 13, 14, 15] rfl) hP hD hS h1
  · replace h1 := Ok.neg c287 h1
    refine lv_iload hx hb dL_ticks_290 (lv_at hl 4 rfl) ?_
    refine lv_iconst (v := 1) hx hb dL_ticks_292 rfl ?_
    refine lv_icmp_ne (tgt := 302) hx hb dL_ticks_293 (by decide) (fun c293 => ?_) (fun c293 => ?_)
    · replace h1 := Ok.neg c293 h1
      exact tL_ticks_b302 K E hZ hY un x1 x2 x3 x5 x6 x7 x8 x9 x10 x12 x14 x16 x17 x18 x19 u H locs ls (lv_sub hl [0, 1, 2, 3, 4, 5, 6, 7, 8, 9, 10, 11, 12, 13, 14, 15] rfl) hP hD hS h1
    · replace h1 := Ok.pos c293 h1
      refine lv_iload hx hb dL_ticks_296 (lv_at hl 5 rfl) ?_
      refine lv_iconst (v := 1) hx hb dL_ticks_298 rfl ?_
      refine lv_icmp_eq (tgt := 326) hx hb dL_ticks_299 (by decide) (fun c299 => ?_) (fun c299 => ?_)
      · replace h1 := Ok.pos c299 h1
        exact tL_ticks_b326 K E hZ hY un x1 x2 x3 x5 x6 x7 x8 x9 x10 x12 x14 x16 x17 x18 x19 u H locs ls (lv_sub hl [0, 1, 2, 3, 4, 5, 6, 7, 8, 9, 10, 11, 12, 13, 14, 15] rfl) hP hD hS h1
      · replace h1 := Ok.neg c299 h1
        exact tL_ticks_b302 K E hZ hY un x1 x2 x3 x5 x6 x7 x8 x9 x10 x12 x14 x16 x17 x18 x19 u H locs ls (lv_sub hl [0, 1, 2, 3, 4, 5, 6, 7, 8, 9, 10, 11, 12, 13, 14, 15] rfl) hP hD hS h1
def fL_ticks_b0 (Y : YB) (un : Int32) (u : FS) : Option (Int32 × FS) :=
  bnd (fL_count 8 u) (fun r6 => bnd (fL_count 9 u) (fun r16 => bnd (fL_count 10 u) (fun r26 => bnd (fL_count 4 u) (fun r35 => bnd (fL_count 5 u) (fun r45 => bnd (fL_count 6 u) (fun r56 => bnd (fX9_queued 0 u) (fun r66 => bnd (fL_count 11 u) (fun r77 => bnd (fL_count 12 u) (fun r88 => bnd2 (fX9_startIn u) (fun r97 u97 => bnd2 (fL_boardIn 1 u97) (fun r107 u107 => bnd2 (fX9_wakesIn u107) (fun r116 u116 => bnd (fL_count 13 u116) (fun r127 => bnd (fL_setting 10 u116) (fun r138 => bnd (fL_count 0 u116) (fun r152 => bnd (fL_deck (r152 + 1) u116) (fun r157 => bnd2 (fL_tick 1 u116) (fun r177 u177 => bnd (fL_count 5 u177) (fun r187 => bnd (fL_count 4 u177) (fun r197 => (if r177 = r107 then bnd (fL_count 13 u177) (fun r221 => (if r221 = (r127 + r177) then (if 1 < r177 then some (0, u177) else (if r177 = 1 then (if r6 < 0 then some (0, u177) else bnd (fL_car r6 2 u177) (fun r254 => (if r254 = 2 then bnd (fL_car r6 6 u177) (fun r268 => bnd (fL_count 0 u177) (fun r276 => (if r268 = r276 then fL_ticks_b284 r6 r16 r26 r45 r56 r66 r77 r88 r97 r116 r138 (if 0 ≤ (r35 - r157) then (r35 - r157) else 0 - (r35 - r157)) r177 r187 (if 0 ≤ (r197 - r35) then (r197 - r35) else 0 - (r197 - r35)) Y un u177 else some (0, u177)))) else some (0, u177)))) else fL_ticks_b284 r6 r16 r26 r45 r56 r66 r77 r88 r97 r116 r138 (if 0 ≤ (r35 - r157) then (r35 - r157) else 0 - (r35 - r157)) r177 r187 (if 0 ≤ (r197 - r35) then (r197 - r35) else 0 - (r197 - r35)) Y un u177)) else some (0, u177))) else some (0, u177)))))))))))))))))))))
set_option maxHeartbeats 4000000 in
set_option maxRecDepth 100000 in
theorem tL_ticks_b0 {p : Program} {l : Launch} {e : Env} {s : State} {m : MethodId} {args : Array Value} {below : List Frame} {meth : Method} {c : Code} {D : va_G} {cy : Nat → ClassId} {A : Nat → Prop} {hLn : Nat} {lbn : Nat} {ad : Nat → Nat} {hh : Nat → Nat} {aa : Nat → Nat → Nat} {pa : Nat → Nat} {za zv : Nat → Nat} {Y : YB} (K : Int32 × FS → Prop) (E : mE D cy RL cL_ticks 23 (some .boolean) wsL_ticks A p s m args meth c) (hZ : mZ za zv A s s.heap) (hY : mY Y A s s.heap) (un : Int32)
     (u : FS) (H : Heap) (locs : List Loc) (ls : Array Slot) (hl : lv_has ls 23 [(0, .ref hLn)]) (hP : va_P D kCl (([lwW hLn (ad 0) Y.2.1 lbn un, wF cy ad hh aa pa u] : List va_W).flatten) H) (hD : va_D A (([lwW hLn (ad 0) Y.2.1 lbn un, wF cy ad hh aa pa u] : List va_W).flatten)) (hS : va_S A s.heap H locs) (h1 : Ok (fL_ticks_b0 Y un u) K) :
    kW p l e rmL_ticks s m args below meth c H locs (va_Qi (fun r q => K (r, q)) (fun q => kPost D A (([lwW hLn (ad 0) Y.2.1 lbn un, wF cy ad hh aa pa q] : List va_W).flatten)) A) A 0 ls [] := by
  obtain ⟨hx, hb, hr, hml, hown, hts, hlocks, hK, hA⟩ := id E
  unfold fL_ticks_b0 at h1
  refine lv_aload_n hx hb dL_ticks_0 rfl (lv_at hl 0 rfl) ?_
  refine k_get (v := .ref (ad 0)) (C := RL) (T := TL) (N := 4) hx hb hts inL_ticks_L hown hK hP 0 rfl rfl 0 (by decide) lkL_ticks_10 rfl dL_ticks_1 ?_
  refine lv_bipush (v := 8) hx hb dL_ticks_4 rfl ?_
  refine kh_rS (As := [.ref (ad 0), .int 8]) (rest := []) h1 ⟨hx, hb, hml, hown, hts⟩ (cL_countM l D cy ad hh aa pa H.size u 8) (vx_cwSW 2 hts gL_ticks_L_count rfl rfl rfl heL_count ⟨Nat.le_of_ble_eq_true rfl, Nat.le_of_ble_eq_true rfl⟩) hK (k_sel1 (l := [lwW hLn (ad 0) Y.2.1 lbn un, wF cy ad hh aa pa u]) (n := 2) 1 [0] rfl rfl (by decide)) hP hD hS hA rfl hl.1 rfl (Nat.le_of_ble_eq_true rfl) dL_ticks_6 ⟨Nat.zero_le _, Nat.zero_le _⟩ (fun r6 H locs h1 hP hS => ?_)
  refine lv_istore_n (lv' := [(1, .int r6), (0, .ref hLn)]) hx hb dL_ticks_9 rfl hl (by decide) rfl (fun ls hl => ?_)
  refine lv_aload_n hx hb dL_ticks_10 rfl (lv_at hl 1 rfl) ?_
  refine k_get (v := .ref (ad 0)) (C := RL) (T := TL) (N := 4) hx hb hts inL_ticks_L hown hK hP 0 rfl rfl 0 (by decide) lkL_ticks_10 rfl dL_ticks_11 ?_
  refine lv_bipush (v := 9) hx hb dL_ticks_14 rfl ?_
  refine kh_rS (As := [.ref (ad 0), .int 9]) (rest := []) h1 ⟨hx, hb, hml, hown, hts⟩ (cL_countM l D cy ad hh aa pa H.size u 9) (vx_cwSW 2 hts gL_ticks_L_count rfl rfl rfl heL_count ⟨Nat.le_of_ble_eq_true rfl, Nat.le_of_ble_eq_true rfl⟩) hK (k_sel1 (l := [lwW hLn (ad 0) Y.2.1 lbn un, wF cy ad hh aa pa u]) (n := 2) 1 [0] rfl rfl (by decide)) hP hD hS hA rfl hl.1 rfl (Nat.le_of_ble_eq_true rfl) dL_ticks_16 ⟨Nat.zero_le _, Nat.zero_le _⟩ (fun r16 H locs h1 hP hS => ?_)
  refine lv_istore_n (lv' := [(2, .int r16), (1, .int r6), (0, .ref hLn)]) hx hb dL_ticks_19 rfl hl (by decide) rfl (fun ls hl => ?_)
  refine lv_aload_n hx hb dL_ticks_20 rfl (lv_at hl 2 rfl) ?_
  refine k_get (v := .ref (ad 0)) (C := RL) (T := TL) (N := 4) hx hb hts inL_ticks_L hown hK hP 0 rfl rfl 0 (by decide) lkL_ticks_10 rfl dL_ticks_21 ?_
  refine lv_bipush (v := 10) hx hb dL_ticks_24 rfl ?_
  refine kh_rS (As := [.ref (ad 0), .int 10]) (rest := []) h1 ⟨hx, hb, hml, hown, hts⟩ (cL_countM l D cy ad hh aa pa H.size u 10) (vx_cwSW 2 hts gL_ticks_L_count rfl rfl rfl heL_count ⟨Nat.le_of_ble_eq_true rfl, Nat.le_of_ble_eq_true rfl⟩) hK (k_sel1 (l := [lwW hLn (ad 0) Y.2.1 lbn un, wF cy ad hh aa pa u]) (n := 2) 1 [0] rfl rfl (by decide)) hP hD hS hA rfl hl.1 rfl (Nat.le_of_ble_eq_true rfl) dL_ticks_26 ⟨Nat.zero_le _, Nat.zero_le _⟩ (fun r26 H locs h1 hP hS => ?_)
  refine lv_istore_n (lv' := [(3, .int r26), (2, .int r16), (1, .int r6), (0, .ref hLn)]) hx hb dL_ticks_29 rfl hl (by decide) rfl (fun ls hl => ?_)
  refine lv_aload_n hx hb dL_ticks_30 rfl (lv_at hl 3 rfl) ?_
  refine k_get (v := .ref (ad 0)) (C := RL) (T := TL) (N := 4) hx hb hts inL_ticks_L hown hK hP 0 rfl rfl 0 (by decide) lkL_ticks_10 rfl dL_ticks_31 ?_
  refine lv_iconst (v := 4) hx hb dL_ticks_34 rfl ?_
  refine kh_rS (As := [.ref (ad 0), .int 4]) (rest := []) h1 ⟨hx, hb, hml, hown, hts⟩ (cL_countM l D cy ad hh aa pa H.size u 4) (vx_cwSW 2 hts gL_ticks_L_count rfl rfl rfl heL_count ⟨Nat.le_of_ble_eq_true rfl, Nat.le_of_ble_eq_true rfl⟩) hK (k_sel1 (l := [lwW hLn (ad 0) Y.2.1 lbn un, wF cy ad hh aa pa u]) (n := 2) 1 [0] rfl rfl (by decide)) hP hD hS hA rfl hl.1 rfl (Nat.le_of_ble_eq_true rfl) dL_ticks_35 ⟨Nat.zero_le _, Nat.zero_le _⟩ (fun r35 H locs h1 hP hS => ?_)
  refine lv_istore (lv' := [(4, .int r35), (3, .int r26), (2, .int r16), (1, .int r6), (0, .ref hLn)]) hx hb dL_ticks_38 hl (by decide) rfl (fun ls hl => ?_)
  refine lv_aload_n hx hb dL_ticks_40 rfl (lv_at hl 4 rfl) ?_
  refine k_get (v := .ref (ad 0)) (C := RL) (T := TL) (N := 4) hx hb hts inL_ticks_L hown hK hP 0 rfl rfl 0 (by decide) lkL_ticks_10 rfl dL_ticks_41 ?_
  refine lv_iconst (v := 5) hx hb dL_ticks_44 rfl ?_
  refine kh_rS (As := [.ref (ad 0), .int 5]) (rest := []) h1 ⟨hx, hb, hml, hown, hts⟩ (cL_countM l D cy ad hh aa pa H.size u 5) (vx_cwSW 2 hts gL_ticks_L_count rfl rfl rfl heL_count ⟨Nat.le_of_ble_eq_true rfl, Nat.le_of_ble_eq_true rfl⟩) hK (k_sel1 (l := [lwW hLn (ad 0) Y.2.1 lbn un, wF cy ad hh aa pa u]) (n := 2) 1 [0] rfl rfl (by decide)) hP hD hS hA rfl hl.1 rfl (Nat.le_of_ble_eq_true rfl) dL_ticks_45 ⟨Nat.zero_le _, Nat.zero_le _⟩ (fun r45 H locs h1 hP hS => ?_)
  refine lv_istore (lv' := [(5, .int r45), (4, .int r35), (3, .int r26), (2, .int r16), (1, .int r6), (0, .ref hLn)]) hx hb dL_ticks_48 hl (by decide) rfl (fun ls hl => ?_)
  refine lv_aload_n hx hb dL_ticks_50 rfl (lv_at hl 5 rfl) ?_
  refine k_get (v := .ref (ad 0)) (C := RL) (T := TL) (N := 4) hx hb hts inL_ticks_L hown hK hP 0 rfl rfl 0 (by decide) lkL_ticks_10 rfl dL_ticks_51 ?_
  refine lv_bipush (v := 6) hx hb dL_ticks_54 rfl ?_
  refine kh_rS (As := [.ref (ad 0), .int 6]) (rest := []) h1 ⟨hx, hb, hml, hown, hts⟩ (cL_countM l D cy ad hh aa pa H.size u 6) (vx_cwSW 2 hts gL_ticks_L_count rfl rfl rfl heL_count ⟨Nat.le_of_ble_eq_true rfl, Nat.le_of_ble_eq_true rfl⟩) hK (k_sel1 (l := [lwW hLn (ad 0) Y.2.1 lbn un, wF cy ad hh aa pa u]) (n := 2) 1 [0] rfl rfl (by decide)) hP hD hS hA rfl hl.1 rfl (Nat.le_of_ble_eq_true rfl) dL_ticks_56 ⟨Nat.zero_le _, Nat.zero_le _⟩ (fun r56 H locs h1 hP hS => ?_)
  refine lv_istore (lv' := [(6, .int r56), (5, .int r45), (4, .int r35), (3, .int r26), (2, .int r16), (1, .int r6), (0, .ref hLn)]) hx hb dL_ticks_59 hl (by decide) rfl (fun ls hl => ?_)
  refine lv_aload_n hx hb dL_ticks_61 rfl (lv_at hl 6 rfl) ?_
  refine k_get (v := .ref (ad 0)) (C := RL) (T := TL) (N := 4) hx hb hts inL_ticks_L hown hK hP 0 rfl rfl 0 (by decide) lkL_ticks_10 rfl dL_ticks_62 ?_
  refine lv_iconst (v := 0) hx hb dL_ticks_65 rfl ?_
  refine kc_rV (b := (ad 0)) (As := [.int 0]) (rest := []) h1 ⟨hx, hb, hml, hown, hts⟩ (cX9_queuedM l D cy ad hh aa pa H.size u 0) (cwV 1 hts gL_ticks_X9_queued rfl rfl rfl hdX9_queued ⟨Nat.le_of_ble_eq_true rfl, Nat.le_of_ble_eq_true rfl⟩) hK (k_sel1 (l := [lwW hLn (ad 0) Y.2.1 lbn un, wF cy ad hh aa pa u]) (n := 2) 1 [0] rfl rfl (by decide)) hP hD hS hA (q0 := 0) rfl rfl rfl hl.1 rfl (Nat.le_of_ble_eq_true rfl) dL_ticks_66 ⟨Nat.zero_le _, Nat.zero_le _⟩ (fun r66 H locs h1 hP hS => ?_)
  refine lv_istore (lv' := [(7, .int r66), (6, .int r56), (5, .int r45), (4, .int r35), (3, .int r26), (2, .int r16), (1, .int r6), (0, .ref hLn)]) hx hb dL_ticks_69 hl (by decide) rfl (fun ls hl => ?_)
  refine lv_aload_n hx hb dL_ticks_71 rfl (lv_at hl 7 rfl) ?_
  refine k_get (v := .ref (ad 0)) (C := RL) (T := TL) (N := 4) hx hb hts inL_ticks_L hown hK hP 0 rfl rfl 0 (by decide) lkL_ticks_10 rfl dL_ticks_72 ?_
  refine lv_bipush (v := 11) hx hb dL_ticks_75 rfl ?_
  refine kh_rS (As := [.ref (ad 0), .int 11]) (rest := []) h1 ⟨hx, hb, hml, hown, hts⟩ (cL_countM l D cy ad hh aa pa H.size u 11) (vx_cwSW 2 hts gL_ticks_L_count rfl rfl rfl heL_count ⟨Nat.le_of_ble_eq_true rfl, Nat.le_of_ble_eq_true rfl⟩) hK (k_sel1 (l := [lwW hLn (ad 0) Y.2.1 lbn un, wF cy ad hh aa pa u]) (n := 2) 1 [0] rfl rfl (by decide)) hP hD hS hA rfl hl.1 rfl (Nat.le_of_ble_eq_true rfl) dL_ticks_77 ⟨Nat.zero_le _, Nat.zero_le _⟩ (fun r77 H locs h1 hP hS => ?_)
  refine lv_istore (lv' := [(8, .int r77), (7, .int r66), (6, .int r56), (5, .int r45), (4, .int r35), (3, .int r26), (2, .int r16), (1, .int r6), (0, .ref hLn)]) hx hb dL_ticks_80 hl (by decide) rfl (fun ls hl => ?_)
  refine lv_aload_n hx hb dL_ticks_82 rfl (lv_at hl 8 rfl) ?_
  refine k_get (v := .ref (ad 0)) (C := RL) (T := TL) (N := 4) hx hb hts inL_ticks_L hown hK hP 0 rfl rfl 0 (by decide) lkL_ticks_10 rfl dL_ticks_83 ?_
  refine lv_bipush (v := 12) hx hb dL_ticks_86 rfl ?_
  refine kh_rS (As := [.ref (ad 0), .int 12]) (rest := []) h1 ⟨hx, hb, hml, hown, hts⟩ (cL_countM l D cy ad hh aa pa H.size u 12) (vx_cwSW 2 hts gL_ticks_L_count rfl rfl rfl heL_count ⟨Nat.le_of_ble_eq_true rfl, Nat.le_of_ble_eq_true rfl⟩) hK (k_sel1 (l := [lwW hLn (ad 0) Y.2.1 lbn un, wF cy ad hh aa pa u]) (n := 2) 1 [0] rfl rfl (by decide)) hP hD hS hA rfl hl.1 rfl (Nat.le_of_ble_eq_true rfl) dL_ticks_88 ⟨Nat.zero_le _, Nat.zero_le _⟩ (fun r88 H locs h1 hP hS => ?_)
  refine lv_istore (lv' := [(9, .int r88), (8, .int r77), (7, .int r66), (6, .int r56), (5, .int r45), (4, .int r35), (3, .int r26), (2, .int r16), (1, .int r6), (0, .ref hLn)]) hx hb dL_ticks_91 hl (by decide) rfl (fun ls hl => ?_)
  refine lv_aload_n hx hb dL_ticks_93 rfl (lv_at hl 9 rfl) ?_
  refine k_get (v := .ref (ad 0)) (C := RL) (T := TL) (N := 4) hx hb hts inL_ticks_L hown hK hP 0 rfl rfl 0 (by decide) lkL_ticks_10 rfl dL_ticks_94 ?_
  refine kc_iV (b := (ad 0)) (As := []) (rest := []) h1 ⟨hx, hb, hml, hown, hts⟩ (cX9_startInM l D cy ad hh aa pa H.size u) (cwV 0 hts gL_ticks_X9_startIn rfl rfl rfl hdX9_startIn ⟨Nat.le_of_ble_eq_true rfl, Nat.le_of_ble_eq_true rfl⟩) hK (k_sel1 (l := [lwW hLn (ad 0) Y.2.1 lbn un, wF cy ad hh aa pa u]) (n := 2) 1 [0] rfl rfl (by decide)) hP hD hS hA (q0 := 0) rfl rfl rfl hl.1 rfl (Nat.le_of_ble_eq_true rfl) dL_ticks_97 ⟨Nat.zero_le _, Nat.zero_le _⟩ (fun r97 u97 H locs h1 hP hD hS => ?_)
  replace hP := kP_perm (List.Perm.symm (k_sel1 (l := [lwW hLn (ad 0) Y.2.1 lbn un, wF cy ad hh aa pa u97]) (n := 2) 1 [0] rfl rfl (by decide))) hP
  replace hD := kD_perm (List.Perm.symm (k_sel1 (l := [lwW hLn (ad 0) Y.2.1 lbn un, wF cy ad hh aa pa u97]) (n := 2) 1 [0] rfl rfl (by decide))) hD
  refine lv_istore (lv' := [(10, .int r97), (9, .int r88), (8, .int r77), (7, .int r66), (6, .int r56), (5, .int r45), (4, .int r35), (3, .int r26), (2, .int r16), (1, .int r6), (0, .ref hLn)]) hx hb dL_ticks_100 hl (by decide) rfl (fun ls hl => ?_)
  refine lv_aload_n hx hb dL_ticks_102 rfl (lv_at hl 10 rfl) ?_
  refine k_get (v := .ref (ad 0)) (C := RL) (T := TL) (N := 4) hx hb hts inL_ticks_L hown hK hP 0 rfl rfl 0 (by decide) lkL_ticks_10 rfl dL_ticks_103 ?_
  refine lv_iconst (v := 1) hx hb dL_ticks_106 rfl ?_
  refine kh_iS (As := [.ref (ad 0), .int 1]) (rest := []) h1 ⟨hx, hb, hml, hown, hts⟩ (cL_boardInM l D cy ad hh aa pa H.size u97 1) (vx_cwSW 2 hts gL_ticks_L_boardIn rfl rfl rfl heL_boardIn ⟨Nat.le_of_ble_eq_true rfl, Nat.le_of_ble_eq_true rfl⟩) hK (k_sel1 (l := [lwW hLn (ad 0) Y.2.1 lbn un, wF cy ad hh aa pa u97]) (n := 2) 1 [0] rfl rfl (by decide)) hP hD hS hA rfl hl.1 rfl (Nat.le_of_ble_eq_true rfl) dL_ticks_107 ⟨Nat.zero_le _, Nat.zero_le _⟩ (fun r107 u107 H locs h1 hP hD hS => ?_)
  replace hP := kP_perm (List.Perm.symm (k_sel1 (l := [lwW hLn (ad 0) Y.2.1 lbn un, wF cy ad hh aa pa u107]) (n := 2) 1 [0] rfl rfl (by decide))) hP
  replace hD := kD_perm (List.Perm.symm (k_sel1 (l := [lwW hLn (ad 0) Y.2.1 lbn un, wF cy ad hh aa pa u107]) (n := 2) 1 [0] rfl rfl (by decide))) hD
  refine lv_istore (lv' := [(11, .int r107), (10, .int r97), (9, .int r88), (8, .int r77), (7, .int r66), (6, .int r56), (5, .int r45), (4, .int r35), (3, .int r26), (2, .int r16), (1, .int r6), (0, .ref hLn)]) hx hb dL_ticks_110 hl (by decide) rfl (fun ls hl => ?_)
  refine lv_aload_n hx hb dL_ticks_112 rfl (lv_at hl 11 rfl) ?_
  refine k_get (v := .ref (ad 0)) (C := RL) (T := TL) (N := 4) hx hb hts inL_ticks_L hown hK hP 0 rfl rfl 0 (by decide) lkL_ticks_10 rfl dL_ticks_113 ?_
  refine kc_iV (b := (ad 0)) (As := []) (rest := []) h1 ⟨hx, hb, hml, hown, hts⟩ (cX9_wakesInM l D cy ad hh aa pa H.size u107) (cwV 0 hts gL_ticks_X9_wakesIn rfl rfl rfl hdX9_wakesIn ⟨Nat.le_of_ble_eq_true rfl, Nat.le_of_ble_eq_true rfl⟩) hK (k_sel1 (l := [lwW hLn (ad 0) Y.2.1 lbn un, wF cy ad hh aa pa u107]) (n := 2) 1 [0] rfl rfl (by decide)) hP hD hS hA (q0 := 0) rfl rfl rfl hl.1 rfl (Nat.le_of_ble_eq_true rfl) dL_ticks_116 ⟨Nat.zero_le _, Nat.zero_le _⟩ (fun r116 u116 H locs h1 hP hD hS => ?_)
  replace hP := kP_perm (List.Perm.symm (k_sel1 (l := [lwW hLn (ad 0) Y.2.1 lbn un, wF cy ad hh aa pa u116]) (n := 2) 1 [0] rfl rfl (by decide))) hP
  replace hD := kD_perm (List.Perm.symm (k_sel1 (l := [lwW hLn (ad 0) Y.2.1 lbn un, wF cy ad hh aa pa u116]) (n := 2) 1 [0] rfl rfl (by decide))) hD
  refine lv_istore (lv' := [(12, .int r116), (11, .int r107), (10, .int r97), (9, .int r88), (8, .int r77), (7, .int r66), (6, .int r56), (5, .int r45), (4, .int r35), (3, .int r26), (2, .int r16), (1, .int r6), (0, .ref hLn)]) hx hb dL_ticks_119 hl (by decide) rfl (fun ls hl => ?_)
  refine lv_aload_n hx hb dL_ticks_121 rfl (lv_at hl 12 rfl) ?_
  refine k_get (v := .ref (ad 0)) (C := RL) (T := TL) (N := 4) hx hb hts inL_ticks_L hown hK hP 0 rfl rfl 0 (by decide) lkL_ticks_10 rfl dL_ticks_122 ?_
  refine lv_bipush (v := 13) hx hb dL_ticks_125 rfl ?_
  refine kh_rS (As := [.ref (ad 0), .int 13]) (rest := []) h1 ⟨hx, hb, hml, hown, hts⟩ (cL_countM l D cy ad hh aa pa H.size u116 13) (vx_cwSW 2 hts gL_ticks_L_count rfl rfl rfl heL_count ⟨Nat.le_of_ble_eq_true rfl, Nat.le_of_ble_eq_true rfl⟩) hK (k_sel1 (l := [lwW hLn (ad 0) Y.2.1 lbn un, wF cy ad hh aa pa u116]) (n := 2) 1 [0] rfl rfl (by decide)) hP hD hS hA rfl hl.1 rfl (Nat.le_of_ble_eq_true rfl) dL_ticks_127 ⟨Nat.zero_le _, Nat.zero_le _⟩ (fun r127 H locs h1 hP hS => ?_)
  refine lv_istore (lv' := [(13, .int r127), (12, .int r116), (11, .int r107), (10, .int r97), (9, .int r88), (8, .int r77), (7, .int r66), (6, .int r56), (5, .int r45), (4, .int r35), (3, .int r26), (2, .int r16), (1, .int r6), (0, .ref hLn)]) hx hb dL_ticks_130 hl (by decide) rfl (fun ls hl => ?_)
  refine lv_aload_n hx hb dL_ticks_132 rfl (lv_at hl 13 rfl) ?_
  refine k_get (v := .ref (ad 0)) (C := RL) (T := TL) (N := 4) hx hb hts inL_ticks_L hown hK hP 0 rfl rfl 0 (by decide) lkL_ticks_10 rfl dL_ticks_133 ?_
  refine lv_bipush (v := 10) hx hb dL_ticks_136 rfl ?_
  refine kh_rS (As := [.ref (ad 0), .int 10]) (rest := []) h1 ⟨hx, hb, hml, hown, hts⟩ (cL_settingM l D cy ad hh aa pa H.size u116 10) (vx_cwSW 2 hts gL_ticks_L_setting rfl rfl rfl heL_setting ⟨Nat.le_of_ble_eq_true rfl, Nat.le_of_ble_eq_true rfl⟩) hK (k_sel1 (l := [lwW hLn (ad 0) Y.2.1 lbn un, wF cy ad hh aa pa u116]) (n := 2) 1 [0] rfl rfl (by decide)) hP hD hS hA rfl hl.1 rfl (Nat.le_of_ble_eq_true rfl) dL_ticks_138 ⟨Nat.zero_le _, Nat.zero_le _⟩ (fun r138 H locs h1 hP hS => ?_)
  refine lv_istore (lv' := [(14, .int r138), (13, .int r127), (12, .int r116), (11, .int r107), (10, .int r97), (9, .int r88), (8, .int r77), (7, .int r66), (6, .int r56), (5, .int r45), (4, .int r35), (3, .int r26), (2, .int r16), (1, .int r6), (0, .ref hLn)]) hx hb dL_ticks_141 hl (by decide) rfl (fun ls hl => ?_)
  refine lv_aload_n hx hb dL_ticks_143 rfl (lv_at hl 14 rfl) ?_
  refine k_get (v := .ref (ad 0)) (C := RL) (T := TL) (N := 4) hx hb hts inL_ticks_L hown hK hP 0 rfl rfl 0 (by decide) lkL_ticks_10 rfl dL_ticks_144 ?_
  refine lv_aload_n hx hb dL_ticks_147 rfl (lv_at hl 14 rfl) ?_
  refine k_get (v := .ref (ad 0)) (C := RL) (T := TL) (N := 4) hx hb hts inL_ticks_L hown hK hP 0 rfl rfl 0 (by decide) lkL_ticks_10 rfl dL_ticks_148 ?_
  refine lv_iconst (v := 0) hx hb dL_ticks_151 rfl ?_
  refine kh_rS (As := [.ref (ad 0), .int 0]) (rest := [.ref (ad 0)]) h1 ⟨hx, hb, hml, hown, hts⟩ (cL_countM l D cy ad hh aa pa H.size u116 0) (vx_cwSW 2 hts gL_ticks_L_count rfl rfl rfl heL_count ⟨Nat.le_of_ble_eq_true rfl, Nat.le_of_ble_eq_true rfl⟩) hK (k_sel1 (l := [lwW hLn (ad 0) Y.2.1 lbn un, wF cy ad hh aa pa u116]) (n := 2) 1 [0] rfl rfl (by decide)) hP hD hS hA rfl hl.1 rfl (Nat.le_of_ble_eq_true rfl) dL_ticks_152 ⟨Nat.zero_le _, Nat.zero_le _⟩ (fun r152 H locs h1 hP hS => ?_)
  refine lv_iconst (v := 1) hx hb dL_ticks_155 rfl ?_
  refine lv_iadd hx hb dL_ticks_156 ?_
  refine kh_rS (As := [.ref (ad 0), .int (r152 + 1)]) (rest := []) h1 ⟨hx, hb, hml, hown, hts⟩ (cL_deckM l D cy ad hh aa pa H.size u116 (r152 + 1)) (vx_cwSW 2 hts gL_ticks_L_deck rfl rfl rfl heL_deck ⟨Nat.le_of_ble_eq_true rfl, Nat.le_of_ble_eq_true rfl⟩) hK (k_sel1 (l := [lwW hLn (ad 0) Y.2.1 lbn un, wF cy ad hh aa pa u116]) (n := 2) 1 [0] rfl rfl (by decide)) hP hD hS hA rfl hl.1 rfl (Nat.le_of_ble_eq_true rfl) dL_ticks_157 ⟨Nat.zero_le _, Nat.zero_le _⟩ (fun r157 H locs h1 hP hS => ?_)
  refine lv_istore (lv' := [(15, .int r157), (14, .int r138), (13, .int r127), (12, .int r116), (11, .int r107), (10, .int r97), (9, .int r88), (8, .int r77), (7, .int r66), (6, .int r56), (5, .int r45), (4, .int r35), (3, .int r26), (2, .int r16), (1, .int r6), (0, .ref hLn)]) hx hb dL_ticks_160 hl (by decide) rfl (fun ls hl => ?_)
  refine lv_iload hx hb dL_ticks_162 (lv_at hl 11 rfl) ?_
  refine lv_iload hx hb dL_ticks_164 (lv_at hl 0 rfl) ?_
  refine lv_isub hx hb dL_ticks_166 ?_
  refine va_mabs hx hb (hml.trans hl.1.symm) hown (hts _ (List.mem_of_getElem? (i := 2) rfl)) (hts _ (List.mem_of_getElem? (i := 3) rfl)) (hts _ (List.mem_of_getElem? (i := 4) rfl)) (hts _ (List.mem_of_getElem? (i := 5) rfl)) (Nat.le_of_ble_eq_true rfl) (Nat.le_of_ble_eq_true rfl) (Nat.zero_le _) (Nat.zero_le _) dL_ticks_167 ?_
  refine lv_istore (lv' := [(16, .int (if 0 ≤ (r35 - r157) then (r35 - r157) else 0 - (r35 - r157))), (15, .int r157), (14, .int r138), (13, .int r127), (12, .int r116), (11, .int r107), (10, .int r97), (9, .int r88), (8, .int r77), (7, .int r66), (6, .int r56), (5, .int r45), (4, .int r35), (3, .int r26), (2, .int r16), (1, .int r6), (0, .ref hLn)]) hx hb dL_ticks_170 hl (by decide) rfl (fun ls hl => ?_)
  refine lv_aload_n hx hb dL_ticks_172 rfl (lv_at hl 16 rfl) ?_
  refine k_get (v := .ref (ad 0)) (C := RL) (T := TL) (N := 4) hx hb hts inL_ticks_L hown hK hP 0 rfl rfl 0 (by decide) lkL_ticks_10 rfl dL_ticks_173 ?_
  refine lv_iconst (v := 1) hx hb dL_ticks_176 rfl ?_
  refine kh_iS (As := [.ref (ad 0), .int 1]) (rest := []) h1 ⟨hx, hb, hml, hown, hts⟩ (cL_tickM l D cy ad hh aa pa H.size u116 1) (vx_cwSW 2 hts gL_ticks_L_tick rfl rfl rfl heL_tick ⟨Nat.le_of_ble_eq_true rfl, Nat.le_of_ble_eq_true rfl⟩) hK (k_sel1 (l := [lwW hLn (ad 0) Y.2.1 lbn un, wF cy ad hh aa pa u116]) (n := 2) 1 [0] rfl rfl (by decide)) hP hD hS hA rfl hl.1 rfl (Nat.le_of_ble_eq_true rfl) dL_ticks_177 ⟨Nat.zero_le _, Nat.zero_le _⟩ (fun r177 u177 H locs h1 hP hD hS => ?_)
  replace hP := kP_perm (List.Perm.symm (k_sel1 (l := [lwW hLn (ad 0) Y.2.1 lbn un, wF cy ad hh aa pa u177]) (n := 2) 1 [0] rfl rfl (by decide))) hP
  replace hD := kD_perm (List.Perm.symm (k_sel1 (l := [lwW hLn (ad 0) Y.2.1 lbn un, wF cy ad hh aa pa u177]) (n := 2) 1 [0] rfl rfl (by decide))) hD
  refine lv_istore (lv' := [(17, .int r177), (16, .int (if 0 ≤ (r35 - r157) then (r35 - r157) else 0 - (r35 - r157))), (15, .int r157), (14, .int r138), (13, .int r127), (12, .int r116), (11, .int r107), (10, .int r97), (9, .int r88), (8, .int r77), (7, .int r66), (6, .int r56), (5, .int r45), (4, .int r35), (3, .int r26), (2, .int r16), (1, .int r6), (0, .ref hLn)]) hx hb dL_ticks_180 hl (by decide) rfl (fun ls hl => ?_)
  refine lv_aload_n hx hb dL_ticks_182 rfl (lv_at hl 17 rfl) ?_
  refine k_get (v := .ref (ad 0)) (C := RL) (T := TL) (N := 4) hx hb hts inL_ticks_L hown hK hP 0 rfl rfl 0 (by decide) lkL_ticks_10 rfl dL_ticks_183 ?_
  refine lv_iconst (v := 5) hx hb dL_ticks_186 rfl ?_
  refine kh_rS (As := [.ref (ad 0), .int 5]) (rest := []) h1 ⟨hx, hb, hml, hown, hts⟩ (cL_countM l D cy ad hh aa pa H.size u177 5) (vx_cwSW 2 hts gL_ticks_L_count rfl rfl rfl heL_count ⟨Nat.le_of_ble_eq_true rfl, Nat.le_of_ble_eq_true rfl⟩) hK (k_sel1 (l := [lwW hLn (ad 0) Y.2.1 lbn un, wF cy ad hh aa pa u177]) (n := 2) 1 [0] rfl rfl (by decide)) hP hD hS hA rfl hl.1 rfl (Nat.le_of_ble_eq_true rfl) dL_ticks_187 ⟨Nat.zero_le _, Nat.zero_le _⟩ (fun r187 H locs h1 hP hS => ?_)
  refine lv_istore (lv' := [(18, .int r187), (17, .int r177), (16, .int (if 0 ≤ (r35 - r157) then (r35 - r157) else 0 - (r35 - r157))), (15, .int r157), (14, .int r138), (13, .int r127), (12, .int r116), (11, .int r107), (10, .int r97), (9, .int r88), (8, .int r77), (7, .int r66), (6, .int r56), (5, .int r45), (4, .int r35), (3, .int r26), (2, .int r16), (1, .int r6), (0, .ref hLn)]) hx hb dL_ticks_190 hl (by decide) rfl (fun ls hl => ?_)
  refine lv_aload_n hx hb dL_ticks_192 rfl (lv_at hl 18 rfl) ?_
  refine k_get (v := .ref (ad 0)) (C := RL) (T := TL) (N := 4) hx hb hts inL_ticks_L hown hK hP 0 rfl rfl 0 (by decide) lkL_ticks_10 rfl dL_ticks_193 ?_
  refine lv_iconst (v := 4) hx hb dL_ticks_196 rfl ?_
  refine kh_rS (As := [.ref (ad 0), .int 4]) (rest := []) h1 ⟨hx, hb, hml, hown, hts⟩ (cL_countM l D cy ad hh aa pa H.size u177 4) (vx_cwSW 2 hts gL_ticks_L_count rfl rfl rfl heL_count ⟨Nat.le_of_ble_eq_true rfl, Nat.le_of_ble_eq_true rfl⟩) hK (k_sel1 (l := [lwW hLn (ad 0) Y.2.1 lbn un, wF cy ad hh aa pa u177]) (n := 2) 1 [0] rfl rfl (by decide)) hP hD hS hA rfl hl.1 rfl (Nat.le_of_ble_eq_true rfl) dL_ticks_197 ⟨Nat.zero_le _, Nat.zero_le _⟩ (fun r197 H locs h1 hP hS => ?_)
  refine lv_iload hx hb dL_ticks_200 (lv_at hl 14 rfl) ?_
  refine lv_isub hx hb dL_ticks_202 ?_
  refine va_mabs hx hb (hml.trans hl.1.symm) hown (hts _ (List.mem_of_getElem? (i := 2) rfl)) (hts _ (List.mem_of_getElem? (i := 3) rfl)) (hts _ (List.mem_of_getElem? (i := 4) rfl)) (hts _ (List.mem_of_getElem? (i := 5) rfl)) (Nat.le_of_ble_eq_true rfl) (Nat.le_of_ble_eq_true rfl) (Nat.zero_le _) (Nat.zero_le _) dL_ticks_203 ?_
  refine lv_istore (lv' := [(19, .int (if 0 ≤ (r197 - r35) then (r197 - r35) else 0 - (r197 - r35))), (18, .int r187), (17, .int r177), (16, .int (if 0 ≤ (r35 - r157) then (r35 - r157) else 0 - (r35 - r157))), (15, .int r157), (14, .int r138), (13, .int r127), (12, .int r116), (11, .int r107), (10, .int r97), (9, .int r88), (8, .int r77), (7, .int r66), (6, .int r56), (5, .int r45), (4, .int r35), (3, .int r26), (2, .int r16), (1, .int r6), (0, .ref hLn)]) hx hb dL_ticks_206 hl (by decide) rfl (fun ls hl => ?_)
  refine lv_iload hx hb dL_ticks_208 (lv_at hl 2 rfl) ?_
  refine lv_iload hx hb dL_ticks_210 (lv_at hl 8 rfl) ?_
  refine lv_icmp_ne (tgt := 282) hx hb dL_ticks_212 (by decide) (fun c212 => ?_) (fun c212 => ?_)
  · replace h1 := Ok.neg c212 h1
    refine lv_iconst (v := 0) hx hb dL_ticks_282 rfl ?_
    exact kret_iz hx hb hr rfl hlocks hP hD hS h1 dL_ticks_283
  · replace h1 := Ok.pos c212 h1
    refine lv_aload_n hx hb dL_ticks_215 rfl (lv_at hl 19 rfl) ?_
    refine k_get (v := .ref (ad 0)) (C := RL) (T := TL) (N := 4) hx hb hts inL_ticks_L hown hK hP 0 rfl rfl 0 (by decide) lkL_ticks_10 rfl dL_ticks_216 ?_
    refine lv_bipush (v := 13) hx hb dL_ticks_219 rfl ?_
    refine kh_rS (As := [.ref (ad 0), .int 13]) (rest := []) h1 ⟨hx, hb, hml, hown, hts⟩ (cL_countM l D cy ad hh aa pa H.size u177 13) (vx_cwSW 2 hts gL_ticks_L_count rfl rfl rfl heL_count ⟨Nat.le_of_ble_eq_true rfl, Nat.le_of_ble_eq_true rfl⟩) hK (k_sel1 (l := [lwW hLn (ad 0) Y.2.1 lbn un, wF cy ad hh aa pa u177]) (n := 2) 1 [0] rfl rfl (by decide)) hP hD hS hA rfl hl.1 rfl (Nat.le_of_ble_eq_true rfl) dL_ticks_221 ⟨Nat.zero_le _, Nat.zero_le _⟩ (fun r221 H locs h1 hP hS => ?_)
    refine lv_iload hx hb dL_ticks_224 (lv_at hl 6 rfl) ?_
    refine lv_iload hx hb dL_ticks_226 (lv_at hl 2 rfl) ?_
    refine lv_iadd hx hb dL_ticks_228 ?_
    refine lv_icmp_ne (tgt := 282) hx hb dL_ticks_229 (by decide) (fun c229 => ?_) (fun c229 => ?_)
    · replace h1 := Ok.neg c229 h1
      refine lv_iconst (v := 0) hx hb dL_ticks_282 rfl ?_
      exact kret_iz hx hb hr rfl hlocks hP hD hS h1 dL_ticks_283
    · replace h1 := Ok.pos c229 h1
      refine lv_iload hx hb dL_ticks_232 (lv_at hl 2 rfl) ?_
      refine lv_iconst (v := 1) hx hb dL_ticks_234 rfl ?_
      refine lv_icmp_gt (tgt := 282) hx hb dL_ticks_235 (by decide) (fun c235 => ?_) (fun c235 => ?_)
      · replace h1 := Ok.pos c235 h1
        refine lv_iconst (v := 0) hx hb dL_ticks_282 rfl ?_
        exact kret_iz hx hb hr rfl hlocks hP hD hS h1 dL_ticks_283
      · replace h1 := Ok.neg c235 h1
        refine lv_iload hx hb dL_ticks_238 (lv_at hl 2 rfl) ?_
        refine lv_iconst (v := 1) hx hb dL_ticks_240 rfl ?_
        refine lv_icmp_ne (tgt := 284) hx hb dL_ticks_241 (by decide) (fun c241 => ?_) (fun c241 => ?_)
        · replace h1 := Ok.neg c241 h1
          exact tL_ticks_b284 K E hZ hY un r6 r16 r26 r45 r56 r66 r77 r88 r97 r116 r138 (if 0 ≤ (r35 - r157) then (r35 - r157) else 0 - (r35 - r157)) r177 r187 (if 0 ≤ (r197 - r35) then (r197 - r35) else 0 - (r197 - r35)) u177 H locs ls (lv_sub hl [19, 18, 17, 16, 14, 13, 12, 11, 10, 9, 7, 5, 3, 2, 1, 0] rfl) hP hD hS h1
        · replace h1 := Ok.pos c241 h1
          refine lv_iload_n hx hb dL_ticks_244 rfl (lv_at hl 18 rfl) ?_
          refine lv_if_lt (tgt := 282) hx hb dL_ticks_245 (by decide) (fun c245 => ?_) (fun c245 => ?_)
          · replace h1 := Ok.pos c245 h1
            refine lv_iconst (v := 0) hx hb dL_ticks_282 rfl ?_
            exact kret_iz hx hb hr rfl hlocks hP hD hS h1 dL_ticks_283
          · replace h1 := Ok.neg c245 h1
            refine lv_aload_n hx hb dL_ticks_248 rfl (lv_at hl 19 rfl) ?_
            refine k_get (v := .ref (ad 0)) (C := RL) (T := TL) (N := 4) hx hb hts inL_ticks_L hown hK hP 0 rfl rfl 0 (by decide) lkL_ticks_10 rfl dL_ticks_249 ?_
            refine lv_iload_n hx hb dL_ticks_252 rfl (lv_at hl 18 rfl) ?_
            refine lv_iconst (v := 2) hx hb dL_ticks_253 rfl ?_
            refine kh_rS (As := [.ref (ad 0), .int r6, .int 2]) (rest := []) h1 ⟨hx, hb, hml, hown, hts⟩ (cL_carM l D cy ad hh aa pa H.size u177 r6 2) (vx_cwSW 3 hts gL_ticks_L_car rfl rfl rfl heL_car ⟨Nat.le_of_ble_eq_true rfl, Nat.le_of_ble_eq_true rfl⟩) hK (k_sel1 (l := [lwW hLn (ad 0) Y.2.1 lbn un, wF cy ad hh aa pa u177]) (n := 2) 1 [0] rfl rfl (by decide)) hP hD hS hA rfl hl.1 rfl (Nat.le_of_ble_eq_true rfl) dL_ticks_254 ⟨Nat.zero_le _, Nat.zero_le _⟩ (fun r254 H locs h1 hP hS => ?_)
            refine lv_iconst (v := 2) hx hb dL_ticks_257 rfl ?_
            refine lv_icmp_ne (tgt := 282) hx hb dL_ticks_258 (by decide) (fun c258 => ?_) (fun c258 => ?_)
            · replace h1 := Ok.neg c258 h1
              refine lv_iconst (v := 0) hx hb dL_ticks_282 rfl ?_
              exact kret_iz hx hb hr rfl hlocks hP hD hS h1 dL_ticks_283
            · replace h1 := Ok.pos c258 h1
              refine lv_aload_n hx hb dL_ticks_261 rfl (lv_at hl 19 rfl) ?_
              refine k_get (v := .ref (ad 0)) (C := RL) (T := TL) (N := 4) hx hb hts inL_ticks_L hown hK hP 0 rfl rfl 0 (by decide) lkL_ticks_10 rfl dL_ticks_262 ?_
              refine lv_iload_n hx hb dL_ticks_265 rfl (lv_at hl 18 rfl) ?_
              refine lv_bipush (v := 6) hx hb dL_ticks_266 rfl ?_
              refine kh_rS (As := [.ref (ad 0), .int r6, .int 6]) (rest := []) h1 ⟨hx, hb, hml, hown, hts⟩ (cL_carM l D cy ad hh aa pa H.size u177 r6 6) (vx_cwSW 3 hts gL_ticks_L_car rfl rfl rfl heL_car ⟨Nat.le_of_ble_eq_true rfl, Nat.le_of_ble_eq_true rfl⟩) hK (k_sel1 (l := [lwW hLn (ad 0) Y.2.1 lbn un, wF cy ad hh aa pa u177]) (n := 2) 1 [0] rfl rfl (by decide)) hP hD hS hA rfl hl.1 rfl (Nat.le_of_ble_eq_true rfl) dL_ticks_268 ⟨Nat.zero_le _, Nat.zero_le _⟩ (fun r268 H locs h1 hP hS => ?_)
              refine lv_aload_n hx hb dL_ticks_271 rfl (lv_at hl 19 rfl) ?_
              refine k_get (v := .ref (ad 0)) (C := RL) (T := TL) (N := 4) hx hb hts inL_ticks_L hown hK hP 0 rfl rfl 0 (by decide) lkL_ticks_10 rfl dL_ticks_272 ?_
              refine lv_iconst (v := 0) hx hb dL_ticks_275 rfl ?_
              refine kh_rS (As := [.ref (ad 0), .int 0]) (rest := [.int r268]) h1 ⟨hx, hb, hml, hown, hts⟩ (cL_countM l D cy ad hh aa pa H.size u177 0) (vx_cwSW 2 hts gL_ticks_L_count rfl rfl rfl heL_count ⟨Nat.le_of_ble_eq_true rfl, Nat.le_of_ble_eq_true rfl⟩) hK (k_sel1 (l := [lwW hLn (ad 0) Y.2.1 lbn un, wF cy ad hh aa pa u177]) (n := 2) 1 [0] rfl rfl (by decide)) hP hD hS hA rfl hl.1 rfl (Nat.le_of_ble_eq_true rfl) dL_ticks_276 ⟨Nat.zero_le _, Nat.zero_le _⟩ (fun r276 H locs h1 hP hS => ?_)
              refine lv_icmp_eq (tgt := 284) hx hb dL_ticks_279 (by decide) (fun c279 => ?_) (fun c279 => ?_)
              · replace h1 := Ok.pos c279 h1
                exact tL_ticks_b284 K E hZ hY un r6 r16 r26 r45 r56 r66 r77 r88 r97 r116 r138 (if 0 ≤ (r35 - r157) then (r35 - r157) else 0 - (r35 - r157)) r177 r187 (if 0 ≤ (r197 - r35) then (r197 - r35) else 0 - (r197 - r35)) u177 H locs ls (lv_sub hl [19, 18, 17, 16, 14, 13, 12, 11, 10, 9, 7, 5, 3, 2, 1, 0] rfl) hP hD hS h1
              · replace h1 := Ok.neg c279 h1
                refine lv_iconst (v := 0) hx hb dL_ticks_282 rfl ?_
                exact kret_iz hx hb hr rfl hlocks hP hD hS h1 dL_ticks_283
def fL_ticks (Y : YB) (un : Int32) (u : FS) : Option (Int32 × FS) := fL_ticks_b0 Y un u
set_option maxHeartbeats 4000000 in
set_option maxRecDepth 100000 in
theorem cL_ticksM (l : Launch) (D : va_G) (cy : Nat → ClassId) (za zv : Nat → Nat) (Y : YB) (hLn : Nat) (lbn : Nat) (ad : Nat → Nat) (hh : Nat → Nat) (aa : Nat → Nat → Nat) (pa : Nat → Nat) (sz : Nat) (un : Int32) (u : FS) : ∀ (K : Int32 → FS → Prop), Ok (fL_ticks Y un u) (fun q => K q.1 q.2) → Met l yL_ticks wsL_ticks rmL_ticks (va_Pc [.ref hLn] (kPreY D cy za zv Y sz (([lwW hLn (ad 0) Y.2.1 lbn un, wF cy ad hh aa pa u] : List va_W).flatten))) (va_Qi K (fun q => kPost D (va_A (([lwW hLn (ad 0) Y.2.1 lbn un, wF cy ad hh aa pa u] : List va_W).flatten) sz) (([lwW hLn (ad 0) Y.2.1 lbn un, wF cy ad hh aa pa q] : List va_W).flatten)) (va_A (([lwW hLn (ad 0) Y.2.1 lbn un, wF cy ad hh aa pa u] : List va_W).flatten) sz)) 0 0 (va_A (([lwW hLn (ad 0) Y.2.1 lbn un, wF cy ad hh aa pa u] : List va_W).flatten) sz) := by
  intro K h1
  refine Met.ofW (cc := cL_ticks) (maxL := 23) (ret := (some .boolean)) (by decide) rfl ?_
  intro p e s m args below meth c s₁ B hml hv
  obtain ⟨rfl, ⟨⟨hsz, hP, hK, hD0⟩, hZ⟩, hY⟩ := hv
  subst hsz
  have E : mE D cy RL cL_ticks 23 (some .boolean) wsL_ticks (va_A (([lwW hLn (ad 0) Y.2.1 lbn un, wF cy ad hh aa pa u] : List va_W).flatten) s.heap.size) p s m _ meth c := ⟨B.exec, B.bytes, B.returns, hml, findClass_of_methodNamed B.named, atoms_spec (ws := wsL_ticks) B.pre, B.notSynchronized, hK, fun q h => Or.inr h⟩
  have hl := lv_entry ([.ref hLn]) (n := 23) (Nat.le_of_ble_eq_true rfl)
  rw [lg_entry_eq]
  generalize (lg_sl ([.ref hLn]) ++ List.replicate (23 - (lg_sl ([.ref hLn])).length) Slot.unset).toArray = ls at hl ⊢
  exact tL_ticks_b0 (fun q => K q.1 q.2) E hZ hY un u _ _ _ hl hP hD0.self va_S.rf h1
