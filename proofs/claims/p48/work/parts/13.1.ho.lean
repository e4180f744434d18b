/-! the law's holds, over what is said of its pieces -/
theorem hdL_loads : yL_loads.cls = RL ∧ yL_loads.cls ≠ "java/lang/invoke/MethodHandle" ∧ yL_loads.cls ≠ "java/lang/invoke/VarHandle" ∧ (parseMethodDescriptor yL_loads.desc).map (fun d => d.parameters.length) = some 0 := by decide +kernel
theorem hdL_addsUp : yL_addsUp.cls = RL ∧ yL_addsUp.cls ≠ "java/lang/invoke/MethodHandle" ∧ yL_addsUp.cls ≠ "java/lang/invoke/VarHandle" ∧ (parseMethodDescriptor yL_addsUp.desc).map (fun d => d.parameters.length) = some 0 := by decide +kernel
theorem hdL_others : yL_others.cls = RL ∧ yL_others.cls ≠ "java/lang/invoke/MethodHandle" ∧ yL_others.cls ≠ "java/lang/invoke/VarHandle" ∧ (parseMethodDescriptor yL_others.desc).map (fun d => d.parameters.length) = some 0 := by decide +kernel
theorem hdL_comes : yL_comes.cls = RL ∧ yL_comes.cls ≠ "java/lang/invoke/MethodHandle" ∧ yL_comes.cls ≠ "java/lang/invoke/VarHandle" ∧ (parseMethodDescriptor yL_comes.desc).map (fun d => d.parameters.length) = some 0 := by decide +kernel
theorem hdL_best : yL_best.cls = RL ∧ yL_best.cls ≠ "java/lang/invoke/MethodHandle" ∧ yL_best.cls ≠ "java/lang/invoke/VarHandle" ∧ (parseMethodDescriptor yL_best.desc).map (fun d => d.parameters.length) = some 0 := by decide +kernel
theorem hdL_ticks : yL_ticks.cls = RL ∧ yL_ticks.cls ≠ "java/lang/invoke/MethodHandle" ∧ yL_ticks.cls ≠ "java/lang/invoke/VarHandle" ∧ (parseMethodDescriptor yL_ticks.desc).map (fun d => d.parameters.length) = some 0 := by decide +kernel
set_option maxRecDepth 100000 in
theorem inL_holds_L : ∀ w ∈ u_ws RL TL 4, w ∈ wsL_holds := k_lays 871 rfl
theorem lkL_holds_25 : Cond.fieldLink RL 25 "FerryRampLaw" "ints" "[I" ∈ wsL_holds := List.mem_of_getElem? (i := 1) rfl
abbrev rmL_holds : Room := { frames := 20, cells := 900, slots := 420000, locals := 900 }
/-- what is to be shown of the law's pieces: Inv holds between them, InvL is all that loads asks for -/
def LawOk (Y : YB) (Inv : Nat → FS → Prop) (InvL : FS → Prop) : Prop :=
  (∀ n u, n ≤ 60 → Inv n u → InvL u) ∧
  (∀ (k : Nat) (u : FS), k < 100000 → InvL u → Ok (fL_loads Y k u) (fun q => q.1 = 1 ∧ Inv 0 q.2)) ∧
  (∀ (n k : Nat) (u : FS), n ≤ 60 → k < 100000 → Inv n u → Ok (fL_addsUp Y (nI k) u) (fun r => r = 1)) ∧
  (∀ (n k : Nat) (u : FS), n < 60 → k < 100000 → Inv n u → Ok (fL_ticks Y (nI k) u) (fun q => q.1 = 1 ∧ Inv (n + 1) q.2)) ∧
  (∀ (n k : Nat) (u : FS), n < 60 → k < 100000 → Inv n u → Ok (fL_comes Y (nI k) u) (fun q => q.1 = 1 ∧ (∃ k1, k1 ≤ k + 40 ∧ q.2.1 = nI k1) ∧ Inv (n + 1) q.2.2)) ∧
  (∀ (n k : Nat) (u : FS), n < 60 → k < 100000 → Inv n u → Ok (fL_best Y (nI k) u) (fun q => q.1 = 1 ∧ (∃ k1, k1 ≤ k + 40 ∧ q.2.1 = nI k1) ∧ Inv (n + 1) q.2.2)) ∧
  (∀ (n k : Nat) (u : FS), n < 60 → k < 100000 → Inv n u → Ok (fL_others Y (nI k) u) (fun q => q.1 = 1 ∧ (∃ k1, k1 ≤ k + 40 ∧ q.2.1 = nI k1) ∧ Inv (n + 1) q.2.2)) ∧
  (∀ (n : Nat) (u : FS), n < 60 → Inv n u → Inv (n + 1) u)
theorem ldB_k (Y : YB) : ∀ (n j : Nat) (q : List Nat × Nat), (ldB Y n j q).2 ≤ q.2 + 4 * n
  | 0, _, q => Nat.le_refl _
  | n + 1, j, q => by
    rw [ldB]
    refine Nat.le_trans (ldB_k Y n (j + 1) _) ?_
    split
    · show q.2 + 4 + 4 * n ≤ _
      omega
    · show q.2 + 1 + 4 * n ≤ _
      omega
theorem ldC_k (Y : YB) : ∀ (n : Nat) (q : List Nat × Nat), (ldC Y n q).2 = q.2 + 2 * n
  | 0, q => rfl
  | n + 1, q => by
    rw [ldC, ldC_k Y n]
    show q.2 + 2 + 2 * n = _
    omega
theorem ldN_le {Y : YB} (hN : Y.2.2.1 < 2147483648) {k : Nat} (hk : k < 1000000) : ldN Y k ≤ 8 := by
  have := (dr_val (Y := Y) hN (k := k + 1) (n := 6) (by omega) (by decide) (by decide) FS0).2
  unfold ldN
  omega
theorem ldT_k {Y : YB} (hN : Y.2.2.1 < 2147483648) {k : Nat} (hk : k < 1000000) : (ldT Y k).2 ≤ k + 60 := by
  have h1 := ldC_k Y (ldN Y k) (ldB Y 4 0 (ldA Y k, k + 14))
  have h2 := ldB_k Y 4 0 (ldA Y k, k + 14)
  have h3 := ldN_le hN hk
  have h4 : (ldB Y 4 0 (ldA Y k, k + 14)).2 ≤ k + 14 + 4 * 4 := h2
  unfold ldT
  omega
section JH
variable {p : Program} {l : Launch} {e : Env} {R : Room} {s : State} {m : MethodId} {args : Array Value} {below : List Frame} {meth : Method} {c : Code} {H : Heap} {locs : List Loc} {cells slots : Nat} {Q : State → Prop}
variable {Ts wy : List Cond} {cc bytes : ByteArray} {nL maxL index n pc : Nat} {own : String} {y : MethodName} {ret : Option FieldType} {rm : Room} {rest st : List Value} {ls : Array Slot}
variable {D : va_G} {cy : Nat → ClassId} {A : Nat → Prop} {za zv : Nat → Nat} {Y : YB} {hLn lbn : Nat} {ad hh : Nat → Nat} {aa : Nat → Nat → Nat} {pa : Nat → Nat} {u : FS} {bv bm nb : Nat} {ba : Nat → Int32} {bz : Int32}
/-- a method of the law's object over its world and the class's -/
theorem jh_w {S : Type} {f : S → Int32} {g : S → FS} {k mc ms : Nat} {Kp : Int32 → S → Prop} (CF : CallFix p m c cc nL s args Ts own)
    (hM : Met l y wy rm (va_Pc [.ref hLn] (kPreY D cy za zv Y H.size (([lwW hLn (ad 0) Y.2.1 lbn (nI k), wF cy ad hh aa pa u] : List va_W).flatten))) (va_Qi Kp (fun q => kPost D (va_A (([lwW hLn (ad 0) Y.2.1 lbn (nI k), wF cy ad hh aa pa u] : List va_W).flatten) H.size) (([lwW hLn (ad 0) Y.2.1 lbn (f q), wF cy ad hh aa pa (g q)] : List va_W).flatten)) (va_A (([lwW hLn (ad 0) Y.2.1 lbn (nI k), wF cy ad hh aa pa u] : List va_W).flatten) H.size)) mc ms (va_A (([lwW hLn (ad 0) Y.2.1 lbn (nI k), wF cy ad hh aa pa u] : List va_W).flatten) H.size))
    (cw : CallW R s args own RL index y bytes maxL ret wy rm mc ms 0) (hY : mY Y A s s.heap) (hZ : mZ za zv A s s.heap) (hK : mK D cy s)
    (hP : va_P D kCl (w3 cy hLn lbn ad hh aa pa Y k u bv bm ba nb bz) H) (hD : va_D A (w3 cy hLn lbn ad hh aa pa Y k u bv bm ba nb bz)) (hS : va_S A s.heap H locs) (hA : ∀ q, s.heap.size ≤ q → A q)
    (hl : ls.size = nL) (hst : st = .ref hLn :: rest) (hw : (rest.map fun v => v.category).sum ≤ 8) (hdg : decode cc pc = .ok (.invokevirtual index, 3)) (hf : cells + mc ≤ R.cells ∧ slots + ms ≤ R.slots)
    (kk : ∀ (r : Int32) (q : S) (H1 : Heap) (locs1 : List Loc), Kp r q → va_P D kCl (([lwW hLn (ad 0) Y.2.1 lbn (f q), wF cy ad hh aa pa (g q), wSB cy lbn bv bm ba nb bz] : List va_W).flatten) H1 → va_D A (([lwW hLn (ad 0) Y.2.1 lbn (f q), wF cy ad hh aa pa (g q), wSB cy lbn bv bm ba nb bz] : List va_W).flatten) → va_S A s.heap H1 locs1 → W p l e R s m args below meth c H1 locs1 (cells + mc) (slots + ms) Q (F0 m (pc + 3) ls (.int r :: rest))) :
    W p l e R s m args below meth c H locs cells slots Q (F0 m pc ls st) := by
  have hp := k_seln (l := [lwW hLn (ad 0) Y.2.1 lbn (nI k), wF cy ad hh aa pa u, wSB cy lbn bv bm ba nb bz]) (n := 3) [0, 1] [2] (cs := [lwW hLn (ad 0) Y.2.1 lbn (nI k), wF cy ad hh aa pa u]) rfl rfl (by decide)
  have hP' := kP_app.mp (kP_perm hp hP)
  have hD' := kD_app (kD_perm hp hD)
  refine jr_i (As := [.ref hLn]) (va_runV (b := hLn) (As := []) CF hM cw (k_preVY hY hZ hS (k_free hp hD hS hA) hK hP'.1 hD'.1 (q0 := 0) (ci := 4) rfl rfl) rfl rfl hl hst (lv_room hw) hdg hf) hp hP hD hS hA (fun r q H1 locs1 hq hP1 hD1 hS1 => ?_)
  have hp2 := (k_seln (l := [lwW hLn (ad 0) Y.2.1 lbn (f q), wF cy ad hh aa pa (g q), wSB cy lbn bv bm ba nb bz]) (n := 3) [0, 1] [2] (cs := [lwW hLn (ad 0) Y.2.1 lbn (f q), wF cy ad hh aa pa (g q)]) rfl rfl (by decide)).symm
  exact kk r q H1 locs1 hq (kP_perm hp2 hP1) (kD_perm hp2 hD1) hS1
end JH
section JH2
variable {p : Program} {l : Launch} {e : Env} {s : State} {m : MethodId} {args : Array Value} {below : List Frame} {meth : Method} {c : Code} {Q : State → Prop}
variable {D : va_G} {cy : Nat → ClassId} {A : Nat → Prop} {za zv : Nat → Nat} {Y : YB} {hLn lbn : Nat} {ad hh : Nat → Nat} {aa : Nat → Nat → Nat} {pa : Nat → Nat} {Inv : Nat → FS → Prop} {InvL : FS → Prop}
set_option maxHeartbeats 4000000 in
set_option maxRecDepth 100000 in
theorem tHo_t (hN : Y.2.2.1 < 2147483648) (hLo : LawOk Y Inv InvL) (E : mE D cy RL cL_holds 5 (some .boolean) wsL_holds A p s m args meth c) (hZ : mZ za zv A s s.heap) (hY : mY Y A s s.heap) (i r0 : Nat) (hi : i < 60) : ∀ (k : Nat) (u : FS) (bv bm nb : Nat) (ba : Nat → Int32) (bz : Int32) (cells slots : Nat) (H : Heap) (locs : List Loc) (ls : Array Slot), k < 100000 → Inv (i + 1) u → cells + 2 ≤ 900 → slots + 6 ≤ 420000 → lv_has ls 5 [(4, .int 1), (3, .int (nI i)), (2, .int (nI r0)), (0, .ref hLn)] → va_P D kCl (w3 cy hLn lbn ad hh aa pa Y k u bv bm ba nb bz) H → va_D A (w3 cy hLn lbn ad hh aa pa Y k u bv bm ba nb bz) → va_S A s.heap H locs →
    (∀ (ls : Array Slot) (H : Heap) (locs : List Loc), lv_has ls 5 [(3, .int (nI (i + 1))), (2, .int (nI r0)), (0, .ref hLn)] → va_P D kCl (w3 cy hLn lbn ad hh aa pa Y k u bv bm ba nb bz) H → va_D A (w3 cy hLn lbn ad hh aa pa Y k u bv bm ba nb bz) → va_S A s.heap H locs → W p l e rmL_holds s m args below meth c H locs (cells + 2) (slots + 6) Q (F0 m 30 ls [])) →
    W p l e rmL_holds s m args below meth c H locs cells slots Q (F0 m 137 ls []) := by
  obtain ⟨hx, hb, hr, hml, hown, hts, hlocks, hK, hA⟩ := id E
  intro k u bv bm nb ba bz cells slots H locs ls hk hI hc hs hl hP hD hS kk
  refine lv_iload hx hb dL_holds_137 (lv_at hl 0 rfl) ?_
  refine lv_if_eq (tgt := 157) hx hb dL_holds_139 (by decide) (fun c9 => absurd c9 (by decide)) (fun _ => ?_)
  refine lv_iload_n hx hb dL_holds_142 rfl (lv_at hl 1 rfl) ?_
  refine lv_bipush (v := 6) hx hb dL_holds_143 rfl ?_
  refine lv_irem hx hb dL_holds_145 (by decide) ?_
  refine lv_iconst (v := 2) hx hb dL_holds_146 rfl ?_
  refine lv_icmp_ne (tgt := 159) hx hb dL_holds_147 (by decide) (fun c9 => ?_) (fun c9 => ?_)
  · refine W.widen (k := cells + 2) (n := slots + 6) (by omega) (by omega) ?_
    refine lv_iinc (v := nI (i + 1)) (lv' := [(3, .int (nI (i + 1))), (4, .int 1), (2, .int (nI r0)), (0, .ref hLn)]) hx hb dL_holds_159 hl (k := 1) rfl (nI_1 i) (by decide) rfl (fun ls hl => ?_)
    refine lv_goto (tgt := 30) hx hb dL_holds_162 (by decide) ?_
    exact kk ls H locs (lv_sub hl [0, 2, 3] rfl) hP hD hS
  · refine lv_aload_n hx hb dL_holds_150 rfl (lv_at hl 3 rfl) ?_
    refine jh_w (k := k) (f := (fun _ : Unit => nI k)) (g := (fun _ : Unit => u)) (mc := 2) (ms := 6) (rest := []) ⟨hx, hb, hml, hown, hts⟩ (cL_addsUpM l D cy za zv Y hLn lbn ad hh aa pa H.size (nI k) u (fun r => r = 1) (hLo.2.2.1 (i + 1) k u (by omega) (by omega) hI)) (cwV 0 hts gL_holds_L_addsUp rfl rfl rfl hdL_addsUp ⟨Nat.le_of_ble_eq_true rfl, Nat.le_of_ble_eq_true rfl⟩) hY hZ hK hP hD hS hA hl.1 rfl (Nat.le_of_ble_eq_true rfl) dL_holds_151 ⟨by show _ ≤ 900; omega, by show _ ≤ 420000; omega⟩ (fun r9 q9 H locs h9 hP hD hS => ?_)
    have h9 : r9 = 1 := h9
    subst h9
    refine lv_if_ne (tgt := 159) hx hb dL_holds_154 (by decide) (fun _ => ?_) (fun c9 => absurd c9 (by decide))
    refine lv_iinc (v := nI (i + 1)) (lv' := [(3, .int (nI (i + 1))), (4, .int 1), (2, .int (nI r0)), (0, .ref hLn)]) hx hb dL_holds_159 hl (k := 1) rfl (nI_1 i) (by decide) rfl (fun ls hl => ?_)
    refine lv_goto (tgt := 30) hx hb dL_holds_162 (by decide) ?_
    exact kk ls H locs (lv_sub hl [0, 2, 3] rfl) hP hD hS
set_option maxHeartbeats 4000000 in
set_option maxRecDepth 100000 in
theorem tHo_u (hN : Y.2.2.1 < 2147483648) (hLo : LawOk Y Inv InvL) (E : mE D cy RL cL_holds 5 (some .boolean) wsL_holds A p s m args meth c) (hZ : mZ za zv A s s.heap) (hY : mY Y A s s.heap) (i r0 : Nat) (hi : i < 60) : ∀ (k : Nat) (u : FS) (bv bm nb : Nat) (ba : Nat → Int32) (bz : Int32) (cells slots : Nat) (H : Heap) (locs : List Loc) (ls : Array Slot), k < 90000 → Inv i u → cells + 2 ≤ 900 → slots + 6 ≤ 420000 → lv_has ls 5 [(3, .int (nI i)), (2, .int (nI r0)), (0, .ref hLn)] → va_P D kCl (w3 cy hLn lbn ad hh aa pa Y k u bv bm ba nb bz) H → va_D A (w3 cy hLn lbn ad hh aa pa Y k u bv bm ba nb bz) → va_S A s.heap H locs →
    (∀ (ls : Array Slot) (k1 : Nat) (u1 : FS) (H : Heap) (locs : List Loc), k1 ≤ k + 42 → Inv (i + 1) u1 → lv_has ls 5 [(3, .int (nI (i + 1))), (2, .int (nI r0)), (0, .ref hLn)] → va_P D kCl (w3 cy hLn lbn ad hh aa pa Y k1 u1 bv bm ba nb bz) H → va_D A (w3 cy hLn lbn ad hh aa pa Y k1 u1 bv bm ba nb bz) → va_S A s.heap H locs → W p l e rmL_holds s m args below meth c H locs (cells + 2) (slots + 6) Q (F0 m 30 ls [])) →
    W p l e rmL_holds s m args below meth c H locs cells slots Q (F0 m 30 ls []) := by
  obtain ⟨hx, hb, hr, hml, hown, hts, hlocks, hK, hA⟩ := id E
  intro k u bv bm nb ba bz cells slots H locs ls hk hI hc hs hl hP hD hS kk
  refine lv_iload_n hx hb dL_holds_30 rfl (lv_at hl 0 rfl) ?_
  refine lv_bipush (v := 60) hx hb dL_holds_31 rfl ?_
  refine lv_icmp_ge (tgt := 165) hx hb dL_holds_33 (by decide) (fun c9 => absurd c9 (jd_nle (b := 60) (by omega) (by decide))) (fun _ => ?_)
  refine lv_aload_n hx hb dL_holds_36 rfl (lv_at hl 2 rfl) ?_
  refine lv_bipush (v := 10) hx hb dL_holds_37 rfl ?_
  refine jd_dr (k := k) (n9 := 10) (rest := []) hN (by omega) (by decide) (by decide) ⟨hx, hb, hml, hown, hts⟩ (cwV 1 hts gL_holds_L_draw rfl rfl rfl hdL_draw ⟨Nat.le_of_ble_eq_true rfl, Nat.le_of_ble_eq_true rfl⟩) hY hZ hK hP hD hS hA hl.1 rfl (Nat.le_of_ble_eq_true rfl) dL_holds_39 ⟨by show _ ≤ 900; omega, by show _ ≤ 420000; omega⟩ (fun H locs d1 hP hD hS => ?_)
  generalize drN Y k 10 = z at d1 ⊢
  by_cases z0 : z = 0
  · refine lv_tableIn (off := 30) (tgt := 72) hx hb dL_holds_42 (by rw [z0]; decide) (by rw [z0]; decide) (by rw [z0]; decide) (by decide) ?_
    refine lv_aload_n hx hb dL_holds_72 rfl (lv_at hl 2 rfl) ?_
    refine jh_w (k := (k + 1)) (f := (fun q : Int32 × FS => q.1)) (g := (fun q : Int32 × FS => q.2)) (mc := 0) (ms := 0) (rest := []) ⟨hx, hb, hml, hown, hts⟩ (cL_othersM l D cy za zv Y hLn lbn ad hh aa pa H.size (nI (k + 1)) u (fun r q => r = 1 ∧ (∃ k1, k1 ≤ k + 1 + 40 ∧ q.1 = nI k1) ∧ Inv (i + 1) q.2) (hLo.2.2.2.2.2.2.1 i (k + 1) u (by omega) (by omega) hI)) (cwV 0 hts gL_holds_L_others rfl rfl rfl hdL_others ⟨Nat.le_of_ble_eq_true rfl, Nat.le_of_ble_eq_true rfl⟩) hY hZ hK hP hD hS hA hl.1 rfl (Nat.le_of_ble_eq_true rfl) dL_holds_73 ⟨by show _ ≤ 900; omega, by show _ ≤ 420000; omega⟩ (fun r9 q9 H locs h9 hP hD hS => ?_)
    obtain ⟨h9, ⟨k1, hk1, e9⟩, hI⟩ := h9
    subst h9
    rw [e9] at hP hD
    refine lv_istore (lv' := [(4, .int 1), (3, .int (nI i)), (2, .int (nI r0)), (0, .ref hLn)]) hx hb dL_holds_76 hl (by decide) rfl (fun ls hl => ?_)
    refine lv_goto (tgt := 137) hx hb dL_holds_78 (by decide) ?_
    exact tHo_t hN hLo E hZ hY i r0 hi k1 q9.2 bv bm nb ba bz cells slots H locs ls (by omega) hI (by omega) (by omega) hl hP hD hS (fun ls H locs hl hP hD hS => kk ls k1 q9.2 H locs (by omega) hI hl hP hD hS)
  by_cases z1 : z = 1
  · refine lv_tableIn (off := 30) (tgt := 72) hx hb dL_holds_42 (by rw [z1]; decide) (by rw [z1]; decide) (by rw [z1]; decide) (by decide) ?_
    refine lv_aload_n hx hb dL_holds_72 rfl (lv_at hl 2 rfl) ?_
    refine jh_w (k := (k + 1)) (f := (fun q : Int32 × FS => q.1)) (g := (fun q : Int32 × FS => q.2)) (mc := 0) (ms := 0) (rest := []) ⟨hx, hb, hml, hown, hts⟩ (cL_othersM l D cy za zv Y hLn lbn ad hh aa pa H.size (nI (k + 1)) u (fun r q => r = 1 ∧ (∃ k1, k1 ≤ k + 1 + 40 ∧ q.1 = nI k1) ∧ Inv (i + 1) q.2) (hLo.2.2.2.2.2.2.1 i (k + 1) u (by omega) (by omega) hI)) (cwV 0 hts gL_holds_L_others rfl rfl rfl hdL_others ⟨Nat.le_of_ble_eq_true rfl, Nat.le_of_ble_eq_true rfl⟩) hY hZ hK hP hD hS hA hl.1 rfl (Nat.le_of_ble_eq_true rfl) dL_holds_73 ⟨by show _ ≤ 900; omega, by show _ ≤ 420000; omega⟩ (fun r9 q9 H locs h9 hP hD hS => ?_)
    obtain ⟨h9, ⟨k1, hk1, e9⟩, hI⟩ := h9
    subst h9
    rw [e9] at hP hD
    refine lv_istore (lv' := [(4, .int 1), (3, .int (nI i)), (2, .int (nI r0)), (0, .ref hLn)]) hx hb dL_holds_76 hl (by decide) rfl (fun ls hl => ?_)
    refine lv_goto (tgt := 137) hx hb dL_holds_78 (by decide) ?_
    exact tHo_t hN hLo E hZ hY i r0 hi k1 q9.2 bv bm nb ba bz cells slots H locs ls (by omega) hI (by omega) (by omega) hl hP hD hS (fun ls H locs hl hP hD hS => kk ls k1 q9.2 H locs (by omega) hI hl hP hD hS)
  by_cases z2 : z = 2
  · refine lv_tableIn (off := 39) (tgt := 81) hx hb dL_holds_42 (by rw [z2]; decide) (by rw [z2]; decide) (by rw [z2]; decide) (by decide) ?_
    refine lv_aload_n hx hb dL_holds_81 rfl (lv_at hl 2 rfl) ?_
    refine lv_iconst (v := 2) hx hb dL_holds_82 rfl ?_
    refine jd_dr (k := (k + 1)) (n9 := 2) (rest := []) hN (by omega) (by decide) (by decide) ⟨hx, hb, hml, hown, hts⟩ (cwV 1 hts gL_holds_L_draw rfl rfl rfl hdL_draw ⟨Nat.le_of_ble_eq_true rfl, Nat.le_of_ble_eq_true rfl⟩) hY hZ hK hP hD hS hA hl.1 rfl (Nat.le_of_ble_eq_true rfl) dL_holds_83 ⟨by show _ ≤ 900; omega, by show _ ≤ 420000; omega⟩ (fun H locs d2 hP hD hS => ?_)
    refine lv_if_gt (tgt := 96) hx hb dL_holds_86 (by decide) (fun _ => ?_) (fun _ => ?_)
    · refine lv_iconst (v := 1) hx hb dL_holds_96 rfl ?_
      refine lv_goto (tgt := 101) hx hb dL_holds_97 (by decide) ?_
      refine lv_istore (lv' := [(4, .int 1), (3, .int (nI i)), (2, .int (nI r0)), (0, .ref hLn)]) hx hb dL_holds_101 hl (by decide) rfl (fun ls hl => ?_)
      refine lv_goto (tgt := 137) hx hb dL_holds_103 (by decide) ?_
      exact tHo_t hN hLo E hZ hY i r0 hi (k + 1 + 1) u bv bm nb ba bz cells slots H locs ls (by omega) (hLo.2.2.2.2.2.2.2 i u (by omega) hI) (by omega) (by omega) hl hP hD hS (fun ls H locs hl hP hD hS => kk ls (k + 1 + 1) u H locs (by omega) (hLo.2.2.2.2.2.2.2 i u (by omega) hI) hl hP hD hS)
    · refine lv_aload_n hx hb dL_holds_89 rfl (lv_at hl 2 rfl) ?_
      refine jh_w (k := (k + 2)) (f := (fun q : Int32 × FS => q.1)) (g := (fun q : Int32 × FS => q.2)) (mc := 0) (ms := 0) (rest := []) ⟨hx, hb, hml, hown, hts⟩ (cL_comesM l D cy za zv Y hLn lbn ad hh aa pa H.size (nI (k + 2)) u (fun r q => r = 1 ∧ (∃ k1, k1 ≤ k + 2 + 40 ∧ q.1 = nI k1) ∧ Inv (i + 1) q.2) (hLo.2.2.2.2.1 i (k + 2) u (by omega) (by omega) hI)) (cwV 0 hts gL_holds_L_comes rfl rfl rfl hdL_comes ⟨Nat.le_of_ble_eq_true rfl, Nat.le_of_ble_eq_true rfl⟩) hY hZ hK hP hD hS hA hl.1 rfl (Nat.le_of_ble_eq_true rfl) dL_holds_90 ⟨by show _ ≤ 900; omega, by show _ ≤ 420000; omega⟩ (fun r9 q9 H locs h9 hP hD hS => ?_)
      obtain ⟨h9, ⟨k1, hk1, e9⟩, hI⟩ := h9
      subst h9
      rw [e9] at hP hD
      refine lv_if_eq (tgt := 100) hx hb dL_holds_93 (by decide) (fun c9 => absurd c9 (by decide)) (fun _ => ?_)
      refine lv_iconst (v := 1) hx hb dL_holds_96 rfl ?_
      refine lv_goto (tgt := 101) hx hb dL_holds_97 (by decide) ?_
      refine lv_istore (lv' := [(4, .int 1), (3, .int (nI i)), (2, .int (nI r0)), (0, .ref hLn)]) hx hb dL_holds_101 hl (by decide) rfl (fun ls hl => ?_)
      refine lv_goto (tgt := 137) hx hb dL_holds_103 (by decide) ?_
      exact tHo_t hN hLo E hZ hY i r0 hi k1 q9.2 bv bm nb ba bz cells slots H locs ls (by omega) hI (by omega) (by omega) hl hP hD hS (fun ls H locs hl hP hD hS => kk ls k1 q9.2 H locs (by omega) hI hl hP hD hS)
  by_cases z3 : z = 3
  · refine lv_tableIn (off := 64) (tgt := 106) hx hb dL_holds_42 (by rw [z3]; decide) (by rw [z3]; decide) (by rw [z3]; decide) (by decide) ?_
    refine lv_aload_n hx hb dL_holds_106 rfl (lv_at hl 2 rfl) ?_
    refine lv_iconst (v := 3) hx hb dL_holds_107 rfl ?_
    refine jd_dr (k := (k + 1)) (n9 := 3) (rest := []) hN (by omega) (by decide) (by decide) ⟨hx, hb, hml, hown, hts⟩ (cwV 1 hts gL_holds_L_draw rfl rfl rfl hdL_draw ⟨Nat.le_of_ble_eq_true rfl, Nat.le_of_ble_eq_true rfl⟩) hY hZ hK hP hD hS hA hl.1 rfl (Nat.le_of_ble_eq_true rfl) dL_holds_108 ⟨by show _ ≤ 900; omega, by show _ ≤ 420000; omega⟩ (fun H locs d2 hP hD hS => ?_)
    refine lv_if_gt (tgt := 121) hx hb dL_holds_111 (by decide) (fun _ => ?_) (fun _ => ?_)
    · refine lv_iconst (v := 1) hx hb dL_holds_121 rfl ?_
      refine lv_goto (tgt := 126) hx hb dL_holds_122 (by decide) ?_
      refine lv_istore (lv' := [(4, .int 1), (3, .int (nI i)), (2, .int (nI r0)), (0, .ref hLn)]) hx hb dL_holds_126 hl (by decide) rfl (fun ls hl => ?_)
      refine lv_goto (tgt := 137) hx hb dL_holds_128 (by decide) ?_
      exact tHo_t hN hLo E hZ hY i r0 hi (k + 1 + 1) u bv bm nb ba bz cells slots H locs ls (by omega) (hLo.2.2.2.2.2.2.2 i u (by omega) hI) (by omega) (by omega) hl hP hD hS (fun ls H locs hl hP hD hS => kk ls (k + 1 + 1) u H locs (by omega) (hLo.2.2.2.2.2.2.2 i u (by omega) hI) hl hP hD hS)
    · refine lv_aload_n hx hb dL_holds_114 rfl (lv_at hl 2 rfl) ?_
      refine jh_w (k := (k + 2)) (f := (fun q : Int32 × FS => q.1)) (g := (fun q : Int32 × FS => q.2)) (mc := 0) (ms := 0) (rest := []) ⟨hx, hb, hml, hown, hts⟩ (cL_bestM l D cy za zv Y hLn lbn ad hh aa pa H.size (nI (k + 2)) u (fun r q => r = 1 ∧ (∃ k1, k1 ≤ k + 2 + 40 ∧ q.1 = nI k1) ∧ Inv (i + 1) q.2) (hLo.2.2.2.2.2.1 i (k + 2) u (by omega) (by omega) hI)) (cwV 0 hts gL_holds_L_best rfl rfl rfl hdL_best ⟨Nat.le_of_ble_eq_true rfl, Nat.le_of_ble_eq_true rfl⟩) hY hZ hK hP hD hS hA hl.1 rfl (Nat.le_of_ble_eq_true rfl) dL_holds_115 ⟨by show _ ≤ 900; omega, by show _ ≤ 420000; omega⟩ (fun r9 q9 H locs h9 hP hD hS => ?_)
      obtain ⟨h9, ⟨k1, hk1, e9⟩, hI⟩ := h9
      subst h9
      rw [e9] at hP hD
      refine lv_if_eq (tgt := 125) hx hb dL_holds_118 (by decide) (fun c9 => absurd c9 (by decide)) (fun _ => ?_)
      refine lv_iconst (v := 1) hx hb dL_holds_121 rfl ?_
      refine lv_goto (tgt := 126) hx hb dL_holds_122 (by decide) ?_
      refine lv_istore (lv' := [(4, .int 1), (3, .int (nI i)), (2, .int (nI r0)), (0, .ref hLn)]) hx hb dL_holds_126 hl (by decide) rfl (fun ls hl => ?_)
      refine lv_goto (tgt := 137) hx hb dL_holds_128 (by decide) ?_
      exact tHo_t hN hLo E hZ hY i r0 hi k1 q9.2 bv bm nb ba bz cells slots H locs ls (by omega) hI (by omega) (by omega) hl hP hD hS (fun ls H locs hl hP hD hS => kk ls k1 q9.2 H locs (by omega) hI hl hP hD hS)
  have hz : ∀ j, j < 2147483648 → z ≠ j → ¬ nI z = nI j := fun j hj h q => h ((nI_eq (by omega) (by omega)).mp q)
  refine lv_tableOut (tgt := 131) hx hb dL_holds_42 (k_tout (x := nI z) [0, 1, 2, 3] (by decide) ⟨hz 0 (by decide) z0, hz 1 (by decide) z1, hz 2 (by decide) z2, hz 3 (by decide) z3, trivial⟩) (by decide) ?_
  refine lv_aload_n hx hb dL_holds_131 rfl (lv_at hl 2 rfl) ?_
  refine jh_w (k := (k + 1)) (f := (fun _ : FS => nI (k + 1))) (g := (fun q : FS => q)) (mc := 0) (ms := 0) (rest := []) ⟨hx, hb, hml, hown, hts⟩ (cL_ticksM l D cy za zv Y hLn lbn ad hh aa pa H.size (nI (k + 1)) u (fun r q => r = 1 ∧ Inv (i + 1) q) (hLo.2.2.2.1 i (k + 1) u (by omega) (by omega) hI)) (cwV 0 hts gL_holds_L_ticks rfl rfl rfl hdL_ticks ⟨Nat.le_of_ble_eq_true rfl, Nat.le_of_ble_eq_true rfl⟩) hY hZ hK hP hD hS hA hl.1 rfl (Nat.le_of_ble_eq_true rfl) dL_holds_132 ⟨by show _ ≤ 900; omega, by show _ ≤ 420000; omega⟩ (fun r9 q9 H locs h9 hP hD hS => ?_)
  obtain ⟨h9, hI⟩ := h9
  subst h9
  refine lv_istore (lv' := [(4, .int 1), (3, .int (nI i)), (2, .int (nI r0)), (0, .ref hLn)]) hx hb dL_holds_135 hl (by decide) rfl (fun ls hl => ?_)
  exact tHo_t hN hLo E hZ hY i r0 hi (k + 1) q9 bv bm nb ba bz cells slots H locs ls (by omega) hI (by omega) (by omega) hl hP hD hS (fun ls H locs hl hP hD hS => kk ls (k + 1) q9 H locs (by omega) hI hl hP hD hS)
set_option maxHeartbeats 4000000 in
set_option maxRecDepth 100000 in
theorem tHo_i (hN : Y.2.2.1 < 2147483648) (hLo : LawOk Y Inv InvL) (E : mE D cy RL cL_holds 5 (some .boolean) wsL_holds A p s m args meth c) (hZ : mZ za zv A s s.heap) (hY : mY Y A s s.heap) (r0 : Nat) : ∀ (n i : Nat) (k : Nat) (u : FS) (bv bm nb : Nat) (ba : Nat → Int32) (bz : Int32) (cells slots : Nat) (H : Heap) (locs : List Loc) (ls : Array Slot), i + n = 60 → k + 42 * n < 90000 → Inv i u → cells + 2 * n ≤ 900 → slots + 6 * n ≤ 420000 → lv_has ls 5 [(3, .int (nI i)), (2, .int (nI r0)), (0, .ref hLn)] → va_P D kCl (w3 cy hLn lbn ad hh aa pa Y k u bv bm ba nb bz) H → va_D A (w3 cy hLn lbn ad hh aa pa Y k u bv bm ba nb bz) → va_S A s.heap H locs →
    (∀ (ls : Array Slot) (k1 : Nat) (u1 : FS) (H : Heap) (locs : List Loc), k1 ≤ k + 42 * n → Inv 60 u1 → lv_has ls 5 [(2, .int (nI r0)), (0, .ref hLn)] → va_P D kCl (w3 cy hLn lbn ad hh aa pa Y k1 u1 bv bm ba nb bz) H → va_D A (w3 cy hLn lbn ad hh aa pa Y k1 u1 bv bm ba nb bz) → va_S A s.heap H locs → W p l e rmL_holds s m args below meth c H locs (cells + 2 * n) (slots + 6 * n) Q (F0 m 165 ls [])) →
    W p l e rmL_holds s m args below meth c H locs cells slots Q (F0 m 30 ls []) := by
  obtain ⟨hx, hb, hr, hml, hown, hts, hlocks, hK, hA⟩ := id E
  intro n
  induction n with
  | zero =>
    intro i k u bv bm nb ba bz cells slots H locs ls hi hk hI hc hs hl hP hD hS kk
    refine lv_iload_n hx hb dL_holds_30 rfl (lv_at hl 0 rfl) ?_
    refine lv_bipush (v := 60) hx hb dL_holds_31 rfl ?_
    refine lv_icmp_ge (tgt := 165) hx hb dL_holds_33 (by decide) (fun _ => ?_) (fun c9 => absurd (by rw [show i = 60 by omega]; decide) c9)
    exact kk ls k u H locs (Nat.le_refl _) (by rw [show (60 : Nat) = i by omega]; exact hI) (lv_sub hl [1, 2] rfl) hP hD hS
  | succ n ih =>
    intro i k u bv bm nb ba bz cells slots H locs ls hi hk hI hc hs hl hP hD hS kk
    refine tHo_u hN hLo E hZ hY i r0 (by omega) k u bv bm nb ba bz cells slots H locs ls (by omega) hI (by omega) (by omega) hl hP hD hS (fun ls k1 u1 H locs hk1 hI hl hP hD hS => ?_)
    exact ih (i + 1) k1 u1 bv bm nb ba bz (cells + 2) (slots + 6) H locs ls (by omega) (by omega) hI (by omega) (by omega) hl hP hD hS (fun ls k2 u2 H locs hk2 hI hl hP hD hS => W.widen (by omega) (by omega) (kk ls k2 u2 H locs (by omega) hI hl hP hD hS))
set_option maxHeartbeats 4000000 in
set_option maxRecDepth 100000 in
theorem tHo_r (hN : Y.2.2.1 < 2147483648) (hLo : LawOk Y Inv InvL) (E : mE D cy RL cL_holds 5 (some .boolean) wsL_holds A p s m args meth c) (hZ : mZ za zv A s s.heap) (hY : mY Y A s s.heap) (r0 : Nat) (hr0 : r0 < 3) : ∀ (k : Nat) (u : FS) (bv bm nb : Nat) (ba : Nat → Int32) (bz : Int32) (cells slots : Nat) (H : Heap) (locs : List Loc) (ls : Array Slot), k < 80000 → InvL u → bm ≤ 1100 → nb ≤ bm → sb_Fit ba → cells + 250 ≤ 900 → slots + 132400 ≤ 420000 → lv_has ls 5 [(2, .int (nI r0)), (0, .ref hLn)] → va_P D kCl (w3 cy hLn lbn ad hh aa pa Y k u bv bm ba nb bz) H → va_D A (w3 cy hLn lbn ad hh aa pa Y k u bv bm ba nb bz) → va_S A s.heap H locs →
    (∀ (k1 : Nat) (u1 : FS) (bv bm nb : Nat) (ba : Nat → Int32) (bz : Int32) (H : Heap) (locs : List Loc) (ls : Array Slot), k1 ≤ k + 2600 → Inv 60 u1 → bm ≤ 1100 → nb ≤ bm → sb_Fit ba → lv_has ls 5 [(2, .int (nI (r0 + 1))), (0, .ref hLn)] → va_P D kCl (w3 cy hLn lbn ad hh aa pa Y k1 u1 bv bm ba nb bz) H → va_D A (w3 cy hLn lbn ad hh aa pa Y k1 u1 bv bm ba nb bz) → va_S A s.heap H locs → W p l e rmL_holds s m args below meth c H locs (cells + 250) (slots + 132400) Q (F0 m 7 ls [])) →
    W p l e rmL_holds s m args below meth c H locs cells slots Q (F0 m 7 ls []) := by
  obtain ⟨hx, hb, hr, hml, hown, hts, hlocks, hK, hA⟩ := id E
  intro k u bv bm nb ba bz cells slots H locs ls hk hI hb1 hb2 hb3 hc hs hl hP hD hS kk
  refine lv_iload_n hx hb dL_holds_7 rfl (lv_at hl 0 rfl) ?_
  refine lv_iconst (v := 3) hx hb dL_holds_8 rfl ?_
  refine lv_icmp_ge (tgt := 180) hx hb dL_holds_9 (by decide) (fun c9 => absurd c9 (jd_nle (b := 3) (by omega) (by decide))) (fun _ => ?_)
  refine lv_aload_n hx hb dL_holds_12 rfl (lv_at hl 1 rfl) ?_
  have hT := ldT_k (Y := Y) hN (k := k) (by omega)
  have hp0 : (w3 cy hLn lbn ad hh aa pa Y k u bv bm ba nb bz).Perm (w3 cy hLn lbn ad hh aa pa Y k u bv bm ba nb bz ++ []) := by rw [List.append_nil]
  refine jr_i (As := [.ref hLn]) (rest := []) (mc := 120) (ms := 132000) (wr := []) (va_runV (b := hLn) (As := []) ⟨hx, hb, hml, hown, hts⟩ (cL_loadsM l D cy za zv Y hLn lbn ad hh aa pa H.size k u bv bm nb ba bz hN (by omega) hb1 hb2 hb3 (fun r q => r = 1 ∧ Inv 0 q) (hLo.2.1 k u (by omega) hI)) (cwV 0 hts gL_holds_L_loads rfl rfl rfl hdL_loads ⟨Nat.le_of_ble_eq_true rfl, Nat.le_of_ble_eq_true rfl⟩) (k_preVY hY hZ hS (k_free hp0 hD hS hA) hK hP hD (q0 := 0) (ci := 4) rfl rfl) rfl rfl hl.1 rfl (lv_room (Nat.le_of_ble_eq_true rfl)) dL_holds_13 ⟨by show _ ≤ 900; omega, by show _ ≤ 420000; omega⟩) hp0 hP hD hS hA (fun r9 w9 H locs h9 hP hD hS => ?_)
  rw [List.append_nil] at hP hD
  obtain ⟨u, k9, bv, bm, ba, nb, bz⟩ := w9
  obtain ⟨⟨h9, hI⟩, hk9, hb1, hb2, hb3⟩ := h9
  have hk9 : k9 = (ldT Y k).2 := hk9
  have hI : Inv 0 u := hI
  subst h9
  replace hP : va_P D kCl (w3 cy hLn lbn ad hh aa pa Y k9 u bv bm ba nb bz) H := hP
  replace hD : va_D A (w3 cy hLn lbn ad hh aa pa Y k9 u bv bm ba nb bz) := hD
  refine lv_if_eq (tgt := 26) hx hb dL_holds_16 (by decide) (fun c9 => absurd c9 (by decide)) (fun _ => ?_)
  refine lv_aload_n hx hb dL_holds_19 rfl (lv_at hl 1 rfl) ?_
  refine jh_w (k := k9) (f := (fun _ : Unit => nI k9)) (g := (fun _ : Unit => u)) (mc := 2) (ms := 6) (rest := []) ⟨hx, hb, hml, hown, hts⟩ (cL_addsUpM l D cy za zv Y hLn lbn ad hh aa pa H.size (nI k9) u (fun r => r = 1) (hLo.2.2.1 0 k9 u (by omega) (by omega) hI)) (cwV 0 hts gL_holds_L_addsUp rfl rfl rfl hdL_addsUp ⟨Nat.le_of_ble_eq_true rfl, Nat.le_of_ble_eq_true rfl⟩) hY hZ hK hP hD hS hA hl.1 rfl (Nat.le_of_ble_eq_true rfl) dL_holds_20 ⟨by show _ ≤ 900; omega, by show _ ≤ 420000; omega⟩ (fun r9 q9 H locs h9 hP hD hS => ?_)
  have h9 : r9 = 1 := h9
  subst h9
  refine lv_if_ne (tgt := 28) hx hb dL_holds_23 (by decide) (fun _ => ?_) (fun c9 => absurd c9 (by decide))
  refine lv_iconst (v := 0) hx hb dL_holds_28 rfl ?_
  refine lv_istore_n (lv' := [(3, .int (nI 0)), (2, .int (nI r0)), (0, .ref hLn)]) hx hb dL_holds_29 rfl hl (by decide) rfl (fun ls hl => ?_)
  refine tHo_i hN hLo E hZ hY r0 60 0 k9 u bv bm nb ba bz _ _ H locs ls rfl (by omega) hI (by omega) (by omega) hl hP hD hS (fun ls k1 u1 H locs hk1 hI hl hP hD hS => ?_)
  refine lv_aload_n hx hb dL_holds_165 rfl (lv_at hl 1 rfl) ?_
  refine jh_w (k := k1) (f := (fun _ : Unit => nI k1)) (g := (fun _ : Unit => u1)) (mc := 2) (ms := 6) (rest := []) ⟨hx, hb, hml, hown, hts⟩ (cL_addsUpM l D cy za zv Y hLn lbn ad hh aa pa H.size (nI k1) u1 (fun r => r = 1) (hLo.2.2.1 60 k1 u1 (by omega) (by omega) hI)) (cwV 0 hts gL_holds_L_addsUp rfl rfl rfl hdL_addsUp ⟨Nat.le_of_ble_eq_true rfl, Nat.le_of_ble_eq_true rfl⟩) hY hZ hK hP hD hS hA hl.1 rfl (Nat.le_of_ble_eq_true rfl) dL_holds_166 ⟨by show _ ≤ 900; omega, by show _ ≤ 420000; omega⟩ (fun r9 q9 H locs h9 hP hD hS => ?_)
  have h9 : r9 = 1 := h9
  subst h9
  refine lv_if_ne (tgt := 174) hx hb dL_holds_169 (by decide) (fun _ => ?_) (fun c9 => absurd c9 (by decide))
  refine lv_iinc (v := nI (r0 + 1)) (lv' := [(2, .int (nI (r0 + 1))), (0, .ref hLn)]) hx hb dL_holds_174 hl (k := 0) rfl (nI_1 r0) (by decide) rfl (fun ls hl => ?_)
  refine lv_goto (tgt := 7) hx hb dL_holds_177 (by decide) ?_
  refine W.widen (k := cells + 250) (n := slots + 132400) (by omega) (by omega) ?_
  exact kk k1 u1 bv bm nb ba bz H locs ls (by omega) hI hb1 hb2 hb3 hl hP hD hS
end JH2
set_option maxHeartbeats 4000000 in
set_option maxRecDepth 100000 in
theorem cL_holdsM (l : Launch) (D : va_G) (cy : Nat → ClassId) (za zv : Nat → Nat) (Y : YB) (hLn lbn : Nat) (ad hh : Nat → Nat) (aa : Nat → Nat → Nat) (pa : Nat → Nat) (sz : Nat) (u : FS) (bv bm nb : Nat) (ba : Nat → Int32) (bz : Int32) (Inv : Nat → FS → Prop) (InvL : FS → Prop) (hN : Y.2.2.1 < 2147483648) (hLo : LawOk Y Inv InvL) (hI : InvL u) (hb1 : bm ≤ 1100) (hb2 : nb ≤ bm) (hb3 : sb_Fit ba) : Met l yL_holds wsL_holds rmL_holds (va_Pc [.ref hLn, .ref Y.2.1] (kPreY D cy za zv Y sz (([([(hLn, .inr (4, [.ref (ad 0), .null, .int 0, .ref lbn]))] : va_W), wF cy ad hh aa pa u, wSB cy lbn bv bm ba nb bz] : List va_W).flatten))) (va_Qi (fun r (_ : LdS) => r = 1) (fun w => kPost D (va_A (([([(hLn, .inr (4, [.ref (ad 0), .null, .int 0, .ref lbn]))] : va_W), wF cy ad hh aa pa u, wSB cy lbn bv bm ba nb bz] : List va_W).flatten) sz) (jMk cy hLn lbn ad hh aa pa Y w)) (va_A (([([(hLn, .inr (4, [.ref (ad 0), .null, .int 0, .ref lbn]))] : va_W), wF cy ad hh aa pa u, wSB cy lbn bv bm ba nb bz] : List va_W).flatten) sz)) 900 420000 (va_A (([([(hLn, .inr (4, [.ref (ad 0), .null, .int 0, .ref lbn]))] : va_W), wF cy ad hh aa pa u, wSB cy lbn bv bm ba nb bz] : List va_W).flatten) sz) := by
  refine Met.ofW (cc := cL_holds) (maxL := 5) (ret := (some .boolean)) (by decide) rfl ?_
  intro p e s m args below meth c s₁ B hml hv
  obtain ⟨rfl, ⟨⟨hsz, hP, hK, hD0⟩, hZ⟩, hY⟩ := hv
  subst hsz
  have E : mE D cy RL cL_holds 5 (some .boolean) wsL_holds (va_A (([([(hLn, .inr (4, [.ref (ad 0), .null, .int 0, .ref lbn]))] : va_W), wF cy ad hh aa pa u, wSB cy lbn bv bm ba nb bz] : List va_W).flatten) s.heap.size) p s m _ meth c := ⟨B.exec, B.bytes, B.returns, hml, findClass_of_methodNamed B.named, atoms_spec (ws := wsL_holds) B.pre, B.notSynchronized, hK, fun q h => Or.inr h⟩
  have hl := lv_entry ([.ref hLn, .ref Y.2.1]) (n := 5) (Nat.le_of_ble_eq_true rfl)
  rw [lg_entry_eq]
  generalize (lg_sl ([.ref hLn, .ref Y.2.1]) ++ List.replicate (5 - (lg_sl ([.ref hLn, .ref Y.2.1])).length) Slot.unset).toArray = ls at hl ⊢
  have hl : lv_has ls 5 [(0, .ref hLn), (1, .ref Y.2.1)] := hl
  have hD : va_D (va_A (([([(hLn, .inr (4, [.ref (ad 0), .null, .int 0, .ref lbn]))] : va_W), wF cy ad hh aa pa u, wSB cy lbn bv bm ba nb bz] : List va_W).flatten) s.heap.size) (([([(hLn, .inr (4, [.ref (ad 0), .null, .int 0, .ref lbn]))] : va_W), wF cy ad hh aa pa u, wSB cy lbn bv bm ba nb bz] : List va_W).flatten) := hD0.self
  have hS : va_S (va_A (([([(hLn, .inr (4, [.ref (ad 0), .null, .int 0, .ref lbn]))] : va_W), wF cy ad hh aa pa u, wSB cy lbn bv bm ba nb bz] : List va_W).flatten) s.heap.size) s.heap s.heap [] := va_S.rf
  obtain ⟨hx, hb, hr, hml2, hown, hts, hlocks, hK2, hA⟩ := id E
  refine lv_aload_n hx hb dL_holds_0 rfl (lv_at hl 0 rfl) ?_
  refine lv_aload_n hx hb dL_holds_1 rfl (lv_at hl 1 rfl) ?_
  refine k_put (v := .ref Y.2.1) (ty := (.array .int)) (C := RL) (T := TL) (N := 4) hx hb hts inL_holds_L tyL tyL_ok nmL hown hK hP hD hS 0 rfl rfl 1 (by decide) lkL_holds_25 rfl (by decide +kernel) rfl rfl (Nat.le_of_ble_eq_true rfl) (ws' := w3 cy hLn lbn ad hh aa pa Y 0 u bv bm ba nb bz) rfl dL_holds_2 (fun H locs hP hD hS => ?_)
  refine lv_iconst (v := 0) hx hb dL_holds_5 rfl ?_
  refine lv_istore_n (lv' := [(2, .int (nI 0)), (0, .ref hLn), (1, .ref Y.2.1)]) hx hb dL_holds_6 rfl hl (by decide) rfl (fun ls hl => ?_)
  refine tHo_r hN hLo E hZ hY 0 (by decide) 0 u bv bm nb ba bz 0 0 H locs ls (by decide) hI hb1 hb2 hb3 (by decide) (by decide) (lv_sub hl [0, 1] rfl) hP hD hS (fun k1 u1 bv bm nb ba bz H locs ls hk1 hI hb1 hb2 hb3 hl hP hD hS => ?_)
  refine tHo_r hN hLo E hZ hY 1 (by decide) k1 u1 bv bm nb ba bz _ _ H locs ls (by omega) (hLo.1 60 _ (Nat.le_refl _) hI) hb1 hb2 hb3 (by decide) (by decide) hl hP hD hS (fun k2 u2 bv bm nb ba bz H locs ls hk2 hI hb1 hb2 hb3 hl hP hD hS => ?_)
  refine tHo_r hN hLo E hZ hY 2 (by decide) k2 u2 bv bm nb ba bz _ _ H locs ls (by omega) (hLo.1 60 _ (Nat.le_refl _) hI) hb1 hb2 hb3 (by decide) (by decide) hl hP hD hS (fun k3 u3 bv bm nb ba bz H locs ls hk3 hI hb1 hb2 hb3 hl hP hD hS => ?_)
  refine lv_iload_n hx hb dL_holds_7 rfl (lv_at hl 0 rfl) ?_
  refine lv_iconst (v := 3) hx hb dL_holds_8 rfl ?_
  refine lv_icmp_ge (tgt := 180) hx hb dL_holds_9 (by decide) (fun _ => ?_) (fun c9 => absurd (by decide) c9)
  refine lv_iconst (v := 1) hx hb dL_holds_180 rfl ?_
  refine W.widen (k := 900) (n := 420000) (by decide) (by decide) ?_
  exact W.zret hx hb hr rfl (fun t9 ht hW => ⟨⟨1, (u3, k3, bv, bm, ba, nb, bz), rfl, rfl, by rw [ht]; exact hP, hD⟩, hS.F ht⟩) hS.2.2 dL_holds_181 hlocks
