/-! the JDK's own methods on the Latin-1 road: StringBuilder, String, Integer, Arrays -/
/-- the capacity that a builder of capacity m grows to for q bytes -/
def jcap (q m : Nat) : Nat := m + (if q - m < m + 2 then m + 2 else q - m)
theorem jcap_le {q m : Nat} (h : m < q) (hq : q ≤ 520) : jcap q m ≤ 1042 ∧ q ≤ jcap q m ∧ m < jcap q m := by
  unfold jcap
  split <;> omega
theorem jneg {x : Int32} {n : Nat} (h : n < 2 ^ 31) (e : x = nI n) : ¬ x < 0 := by rw [e]; exact nI_pos h
section KT
variable {p : Program} {l : Launch} {e : Env} {R : Room} {s : State} {m : MethodId} {args : Array Value} {below : List Frame} {meth : Method} {c : Code} {H H0 : Heap} {locs : List Loc} {cells slots : Nat} {Q : State → Prop}
variable {mc ms pc : Nat} {b : Addr} {As rest st : List Value} {ls : Array Slot} {D : va_G} {ws wc wr : va_W} {A : Nat → Prop} {S : Type} {mk : S → va_W}
/-- a call that answers its own receiver -/
theorem jr_t {post : S → Prop}
    (hr : va_Run p l e R s m args below meth c H locs cells slots mc ms (F0 m pc ls st) rest (va_Qr post (fun u ra t => ra = b ∧ kPost D (va_A wc H.size) (mk u) t) (va_A wc H.size) As.toArray) (va_A wc H.size))
    (hp : ws.Perm (wc ++ wr)) (hP : va_P D kCl ws H) (hD : va_D A ws) (hS : va_S A H0 H locs) (hA : ∀ q, H0.size ≤ q → A q)
    (kk : ∀ (u : S) (H1 : Heap) (locs1 : List Loc), post u → va_P D kCl (mk u ++ wr) H1 → va_D A (mk u ++ wr) → va_S A H0 H1 locs1 → W p l e R s m args below meth c H1 locs1 (cells + mc) (slots + ms) Q (F0 m (pc + 3) ls (.ref b :: rest))) :
    W p l e R s m args below meth c H locs cells slots Q (F0 m pc ls st) := by
  have hF := k_free hp hD hS hA
  refine va_callr hr hS (fun q _ h => hF q h) hF (fun u ra t H1 locs1 ht hvm hw hB hz1 hk1 hS1 => ?_)
  obtain ⟨hra, hP1, hD1⟩ := hB
  subst hra
  rw [ht] at hP1
  obtain ⟨hP2, hD2⟩ := k_join hp hP hD hk1 hF hP1 hD1
  exact kk u H1 locs1 hw hP2 hD2 hS1
end KT
theorem lkJ5_isLatin1_aae02_18 : Cond.fieldLink RJ5 18 "java/lang/String" "COMPACT_STRINGS" "Z" ∈ wsJ5_isLatin1_aae02 := List.mem_of_getElem? (i := 1) rfl
theorem lkJ5_isLatin1_aae02_22 : Cond.fieldLink RJ5 22 "java/lang/AbstractStringBuilder" "coder" "B" ∈ wsJ5_isLatin1_aae02 := List.mem_of_getElem? (i := 2) rfl
theorem inJ5_isLatin1_aae02_J4 : ∀ w ∈ u_ws RJ4 TJ4 4, w ∈ wsJ5_isLatin1_aae02 := k_lays 3 rfl
abbrev rmJ5_isLatin1_aae02 : Room := { frames := 0, cells := 0, slots := 0, locals := 0 }
set_option maxHeartbeats 4000000 in
set_option maxRecDepth 100000 in
theorem cJ5_isLatin1_aae02M (l : Launch) (D : va_G) (cy : Nat → ClassId) (za zv : Nat → Nat) (Y : YB) (sz : Nat) (gb bv bm : Nat) (ba : Nat → Int32) (bn : Nat) (bz : Int32) : Met l yJ5_isLatin1_aae02 wsJ5_isLatin1_aae02 rmJ5_isLatin1_aae02 (va_Pc [.ref gb] (kPreY D cy za zv Y sz ([(gb, .inr (5, [.ref bv, .int 0, .int bz, .int (nI bn)])), (bv, .inl (cy 3, bm, .inl ba))]))) (va_Qi (fun r (_ : Unit) => r = 1) (fun _ => kPost D (va_A ([(gb, .inr (5, [.ref bv, .int 0, .int bz, .int (nI bn)])), (bv, .inl (cy 3, bm, .inl ba))]) sz) ([(gb, .inr (5, [.ref bv, .int 0, .int bz, .int (nI bn)])), (bv, .inl (cy 3, bm, .inl ba))])) (va_A ([(gb, .inr (5, [.ref bv, .int 0, .int bz, .int (nI bn)])), (bv, .inl (cy 3, bm, .inl ba))]) sz)) 0 0 (va_A ([(gb, .inr (5, [.ref bv, .int 0, .int bz, .int (nI bn)])), (bv, .inl (cy 3, bm, .inl ba))]) sz) := by
  refine Met.ofW (cc := cJ5_isLatin1_aae02) (maxL := 1) (ret := (some .boolean)) (by decide) rfl ?_
  intro p e s m args below meth c s₁ B hml hv
  obtain ⟨rfl, ⟨⟨⟨hsz, hP, hK, hD0⟩, hZ⟩, hY⟩⟩ := hv
  subst hsz
  have hx := B.exec
  have hb := B.bytes
  have hr := B.returns
  have hts := atoms_spec (ws := wsJ5_isLatin1_aae02) B.pre
  have hown : s.vm.findClass RJ5 = some m.cls := findClass_of_methodNamed B.named
  have hlocks := B.notSynchronized
  have hA : ∀ q, s.heap.size ≤ q → va_A ([(gb, .inr (5, [.ref bv, .int 0, .int bz, .int (nI bn)])), (bv, .inl (cy 3, bm, .inl ba))]) s.heap.size q := fun q h => Or.inr h
  have hS : va_S (va_A ([(gb, .inr (5, [.ref bv, .int 0, .int bz, .int (nI bn)])), (bv, .inl (cy 3, bm, .inl ba))]) s.heap.size) s.heap s.heap [] := va_S.rf
  have hD : va_D (va_A ([(gb, .inr (5, [.ref bv, .int 0, .int bz, .int (nI bn)])), (bv, .inl (cy 3, bm, .inl ba))]) s.heap.size) ([(gb, .inr (5, [.ref bv, .int 0, .int bz, .int (nI bn)])), (bv, .inl (cy 3, bm, .inl ba))]) := hD0.self
  have hl := lv_entry ([.ref gb]) (n := 1) (Nat.le_of_ble_eq_true rfl)
  rw [lg_entry_eq]
  generalize (lg_sl ([.ref gb]) ++ List.replicate (1 - (lg_sl ([.ref gb])).length) Slot.unset).toArray = ls at hl ⊢
  have hl : lv_has ls 1 [(0, .ref gb)] := hl
  refine va_gets hx hb hZ.1 hS hown (hts _ lkJ5_isLatin1_aae02_18) (fun _ h => h) dJ5_isLatin1_aae02_0 ?_
  refine lv_if_eq (tgt := 17) hx hb dJ5_isLatin1_aae02_3 (by decide) (fun c => absurd c (by decide)) (fun _ => ?_)
  refine lv_aload_n hx hb dJ5_isLatin1_aae02_6 rfl (lv_at hl 0 rfl) ?_
  refine k_get (v := .int 0) (C := RJ4) (T := TJ4) (N := 4) hx hb hts inJ5_isLatin1_aae02_J4 hown hK hP 0 rfl rfl 1 (by decide) lkJ5_isLatin1_aae02_22 rfl dJ5_isLatin1_aae02_7 ?_
  refine lv_if_ne (tgt := 17) hx hb dJ5_isLatin1_aae02_10 (by decide) (fun c => absurd (rfl) c) (fun _ => ?_)
  refine lv_iconst (v := 1) hx hb dJ5_isLatin1_aae02_13 rfl ?_
  refine lv_goto (tgt := 18) hx hb dJ5_isLatin1_aae02_14 (by decide) ?_
  exact W.zret hx hb hr (rfl) (fun t ht hW => ⟨⟨1, (), rfl, rfl, by rw [ht]; exact hP, hD⟩, hS.F ht⟩) hS.2.2 dJ5_isLatin1_aae02_18 hlocks
theorem jl_max {y w : Nat} (hy : y < 2147483648) (hw : w < 2147483648) : (if nI y < nI w then nI w else nI y) = nI (if y < w then w else y) := by
  by_cases h : y < w
  · rw [if_pos h, if_pos (nI_lt h hw)]
  · rw [if_neg h, if_neg (nI_nlt (by omega) hy)]
theorem jl_min {y w : Nat} (hy : y < 2147483648) (hw : w < 2147483648) : (if nI w < nI y then nI w else nI y) = nI (if w < y then w else y) := by
  by_cases h : w < y
  · rw [if_pos h, if_pos (nI_lt h hy)]
  · rw [if_neg h, if_neg (nI_nlt (by omega) hw)]
abbrev rmJ8_newLength_cabcc : Room := { frames := 1, cells := 0, slots := 0, locals := 40 }
set_option maxHeartbeats 4000000 in
set_option maxRecDepth 100000 in
theorem cJ8_newLength_cabccM (l : Launch) (D : va_G) (cy : Nat → ClassId) (za zv : Nat → Nat) (Y : YB) (sz : Nat) (x y w : Nat) (h0 : 0 < x + (if y < w then w else y)) (h1 : x + (if y < w then w else y) < 100000) : Met l yJ8_newLength_cabcc wsJ8_newLength_cabcc rmJ8_newLength_cabcc (va_Pc [.int (nI x), .int (nI y), .int (nI w)] (kPreY D cy za zv Y sz ([]))) (va_Qi (fun r (_ : Unit) => r = nI (x + (if y < w then w else y))) (fun _ => kPost D (va_A ([]) sz) (([] : va_W))) (va_A ([]) sz)) 0 0 (va_A ([]) sz) := by
  refine Met.ofW (cc := cJ8_newLength_cabcc) (maxL := 4) (ret := (some .int)) (by decide) rfl ?_
  intro p e s m args below meth c s₁ B hml hv
  obtain ⟨rfl, ⟨⟨⟨hsz, hP, hK, hD0⟩, hZ⟩, hY⟩⟩ := hv
  subst hsz
  have hx := B.exec
  have hb := B.bytes
  have hr := B.returns
  have hts := atoms_spec (ws := wsJ8_newLength_cabcc) B.pre
  have hown : s.vm.findClass RJ8 = some m.cls := findClass_of_methodNamed B.named
  have hlocks := B.notSynchronized
  have hA : ∀ q, s.heap.size ≤ q → va_A ([]) s.heap.size q := fun q h => Or.inr h
  have hS : va_S (va_A ([]) s.heap.size) s.heap s.heap [] := va_S.rf
  have hD : va_D (va_A ([]) s.heap.size) ([]) := hD0.self
  have hl := lv_entry ([.int (nI x), .int (nI y), .int (nI w)]) (n := 4) (Nat.le_of_ble_eq_true rfl)
  rw [lg_entry_eq]
  generalize (lg_sl ([.int (nI x), .int (nI y), .int (nI w)]) ++ List.replicate (4 - (lg_sl ([.int (nI x), .int (nI y), .int (nI w)])).length) Slot.unset).toArray = ls at hl ⊢
  have hl : lv_has ls 4 [(0, .int (nI x)), (1, .int (nI y)), (2, .int (nI w))] := hl
  have hy : y < 2147483648 := by split at h1 <;> omega
  have hw9 : w < 2147483648 := by split at h1 <;> omega
  refine lv_iload_n hx hb dJ8_newLength_cabcc_0 rfl (lv_at hl 0 rfl) ?_
  refine lv_iload_n hx hb dJ8_newLength_cabcc_1 rfl (lv_at hl 1 rfl) ?_
  refine lv_iload_n hx hb dJ8_newLength_cabcc_2 rfl (lv_at hl 2 rfl) ?_
  refine va_mmax hx hb (hml.trans hl.1.symm) hown (hts _ (List.mem_of_getElem? (i := 1) rfl)) (hts _ (List.mem_of_getElem? (i := 2) rfl)) (hts _ (List.mem_of_getElem? (i := 3) rfl)) (hts _ (List.mem_of_getElem? (i := 4) rfl)) (by first | exact Nat.le_of_ble_eq_true rfl | decide) (by first | exact Nat.le_of_ble_eq_true rfl | decide) (by first | exact Nat.zero_le _ | exact Nat.le_of_ble_eq_true rfl) (by first | exact Nat.zero_le _ | exact Nat.le_of_ble_eq_true rfl) dJ8_newLength_cabcc_3 ?_
  rw [show (if ((nI y)) < ((nI w)) then ((nI w)) else ((nI y)) : Int32) = nI (if y < w then w else y) from jl_max (by omega) (by omega)]
  refine lv_iadd hx hb dJ8_newLength_cabcc_6 ?_
  rw [show (((nI x)) + ((nI (if y < w then w else y))) : Int32) = nI (x + (if y < w then w else y)) from nI_add _ _]
  refine lv_istore_n (lv' := [(3, .int (nI (x + (if y < w then w else y)))), (0, .int (nI x)), (1, .int (nI y)), (2, .int (nI w))]) hx hb dJ8_newLength_cabcc_7 rfl hl (by decide) rfl (fun ls hl => ?_)
  refine lv_iconst (v := 0) hx hb dJ8_newLength_cabcc_8 rfl ?_
  refine lv_iload_n hx hb dJ8_newLength_cabcc_9 rfl (lv_at hl 0 rfl) ?_
  refine lv_icmp_ge (tgt := 21) hx hb dJ8_newLength_cabcc_10 (by decide) (fun c => absurd c (nI_nle h0 (by omega))) (fun _ => ?_)
  refine lv_iload_n hx hb dJ8_newLength_cabcc_13 rfl (lv_at hl 0 rfl) ?_
  refine lv_ldc (v := 2147483639) hx hb hown (hts _ (List.mem_of_getElem? (i := 5) rfl)) dJ8_newLength_cabcc_14 ?_
  refine lv_icmp_gt (tgt := 21) hx hb dJ8_newLength_cabcc_16 (by decide) (fun c => absurd c (nI_nlt (a := 2147483639) (by omega) (by decide))) (fun _ => ?_)
  refine lv_iload_n hx hb dJ8_newLength_cabcc_19 rfl (lv_at hl 0 rfl) ?_
  exact W.iret hx hb hr (fun t ht hW => ⟨⟨_, (), rfl, rfl, by rw [ht]; exact hP, hD⟩, hS.F ht⟩) hS.2.2 dJ8_newLength_cabcc_20 hlocks
theorem lkJ5_newCapacity_0f7a4_15 : Cond.fieldLink RJ5 15 "java/lang/AbstractStringBuilder" "value" "[B" ∈ wsJ5_newCapacity_0f7a4 := List.mem_of_getElem? (i := 1) rfl
theorem inJ5_newCapacity_0f7a4_J4 : ∀ w ∈ u_ws RJ4 TJ4 4, w ∈ wsJ5_newCapacity_0f7a4 := k_lays 16 rfl
theorem lkJ5_newCapacity_0f7a4_22 : Cond.fieldLink RJ5 22 "java/lang/AbstractStringBuilder" "coder" "B" ∈ wsJ5_newCapacity_0f7a4 := List.mem_of_getElem? (i := 2) rfl
theorem heJ8_newLength_cabcc : yJ8_newLength_cabcc.cls ≠ "java/lang/invoke/MethodHandle" ∧ yJ8_newLength_cabcc.cls ≠ "java/lang/invoke/VarHandle" ∧ (parseMethodDescriptor yJ8_newLength_cabcc.desc).map (fun d => d.parameters.length) = some 3 := by decide +kernel
abbrev rmJ5_newCapacity_0f7a4 : Room := { frames := 2, cells := 0, slots := 0, locals := 80 }
set_option maxHeartbeats 4000000 in
set_option maxRecDepth 100000 in
theorem cJ5_newCapacity_0f7a4M (l : Launch) (D : va_G) (cy : Nat → ClassId) (za zv : Nat → Nat) (Y : YB) (sz : Nat) (gb bv bm : Nat) (ba : Nat → Int32) (bn : Nat) (bz : Int32) (q : Nat) (hq : bm < q) (hq2 : q ≤ 520) : Met l yJ5_newCapacity_0f7a4 wsJ5_newCapacity_0f7a4 rmJ5_newCapacity_0f7a4 (va_Pc [.ref gb, .int (nI q)] (kPreY D cy za zv Y sz ([(gb, .inr (5, [.ref bv, .int 0, .int bz, .int (nI bn)])), (bv, .inl (cy 3, bm, .inl ba))]))) (va_Qi (fun r (_ : Unit) => r = nI (jcap q bm)) (fun _ => kPost D (va_A ([(gb, .inr (5, [.ref bv, .int 0, .int bz, .int (nI bn)])), (bv, .inl (cy 3, bm, .inl ba))]) sz) ([(gb, .inr (5, [.ref bv, .int 0, .int bz, .int (nI bn)])), (bv, .inl (cy 3, bm, .inl ba))])) (va_A ([(gb, .inr (5, [.ref bv, .int 0, .int bz, .int (nI bn)])), (bv, .inl (cy 3, bm, .inl ba))]) sz)) 0 0 (va_A ([(gb, .inr (5, [.ref bv, .int 0, .int bz, .int (nI bn)])), (bv, .inl (cy 3, bm, .inl ba))]) sz) := by
  refine Met.ofW (cc := cJ5_newCapacity_0f7a4) (maxL := 6) (ret := (some .int)) (by decide) rfl ?_
  intro p e s m args below meth c s₁ B hml hv
  obtain ⟨rfl, ⟨⟨⟨hsz, hP, hK, hD0⟩, hZ⟩, hY⟩⟩ := hv
  subst hsz
  have hx := B.exec
  have hb := B.bytes
  have hr := B.returns
  have hts := atoms_spec (ws := wsJ5_newCapacity_0f7a4) B.pre
  have hown : s.vm.findClass RJ5 = some m.cls := findClass_of_methodNamed B.named
  have hlocks := B.notSynchronized
  have hA : ∀ q, s.heap.size ≤ q → va_A ([(gb, .inr (5, [.ref bv, .int 0, .int bz, .int (nI bn)])), (bv, .inl (cy 3, bm, .inl ba))]) s.heap.size q := fun q h => Or.inr h
  have hS : va_S (va_A ([(gb, .inr (5, [.ref bv, .int 0, .int bz, .int (nI bn)])), (bv, .inl (cy 3, bm, .inl ba))]) s.heap.size) s.heap s.heap [] := va_S.rf
  have hD : va_D (va_A ([(gb, .inr (5, [.ref bv, .int 0, .int bz, .int (nI bn)])), (bv, .inl (cy 3, bm, .inl ba))]) s.heap.size) ([(gb, .inr (5, [.ref bv, .int 0, .int bz, .int (nI bn)])), (bv, .inl (cy 3, bm, .inl ba))]) := hD0.self
  have hl := lv_entry ([.ref gb, .int (nI q)]) (n := 6) (Nat.le_of_ble_eq_true rfl)
  rw [lg_entry_eq]
  generalize (lg_sl ([.ref gb, .int (nI q)]) ++ List.replicate (6 - (lg_sl ([.ref gb, .int (nI q)])).length) Slot.unset).toArray = ls at hl ⊢
  have hl : lv_has ls 6 [(0, .ref gb), (1, .int (nI q))] := hl
  have hj := jcap_le hq hq2
  refine lv_aload_n hx hb dJ5_newCapacity_0f7a4_0 rfl (lv_at hl 0 rfl) ?_
  refine k_get (v := .ref bv) (C := RJ4) (T := TJ4) (N := 4) hx hb hts inJ5_newCapacity_0f7a4_J4 hown hK hP 0 rfl rfl 0 (by decide) lkJ5_newCapacity_0f7a4_15 rfl dJ5_newCapacity_0f7a4_1 ?_
  refine va_alen (v := nI bm) hx hb hK.1 hP 1 3 rfl rfl rfl dJ5_newCapacity_0f7a4_4 ?_
  refine lv_istore_n (lv' := [(2, .int (nI bm)), (0, .ref gb), (1, .int (nI q))]) hx hb dJ5_newCapacity_0f7a4_5 rfl hl (by decide) rfl (fun ls hl => ?_)
  refine lv_iload_n hx hb dJ5_newCapacity_0f7a4_6 rfl (lv_at hl 2 rfl) ?_
  refine lv_aload_n hx hb dJ5_newCapacity_0f7a4_7 rfl (lv_at hl 1 rfl) ?_
  refine k_get (v := .int 0) (C := RJ4) (T := TJ4) (N := 4) hx hb hts inJ5_newCapacity_0f7a4_J4 hown hK hP 0 rfl rfl 1 (by decide) lkJ5_newCapacity_0f7a4_22 rfl dJ5_newCapacity_0f7a4_8 ?_
  refine lv_ishl hx hb dJ5_newCapacity_0f7a4_11 ?_
  rw [show ((((nI q)) : Int32) <<< (((0) : Int32) &&& 31) : Int32) = nI q from sb_shl0 _]
  refine lv_istore_n (lv' := [(3, .int (nI q)), (2, .int (nI bm)), (0, .ref gb), (1, .int (nI q))]) hx hb dJ5_newCapacity_0f7a4_12 rfl hl (by decide) rfl (fun ls hl => ?_)
  refine lv_iload_n hx hb dJ5_newCapacity_0f7a4_13 rfl (lv_at hl 0 rfl) ?_
  refine lv_iload_n hx hb dJ5_newCapacity_0f7a4_14 rfl (lv_at hl 1 rfl) ?_
  refine lv_isub hx hb dJ5_newCapacity_0f7a4_15 ?_
  rw [show (((nI q)) - ((nI bm)) : Int32) = nI (q - bm) from pk_sub (by omega)]
  refine lv_istore (lv' := [(4, .int (nI (q - bm))), (3, .int (nI q)), (2, .int (nI bm)), (0, .ref gb), (1, .int (nI q))]) hx hb dJ5_newCapacity_0f7a4_16 hl (by decide) rfl (fun ls hl => ?_)
  refine lv_iload_n hx hb dJ5_newCapacity_0f7a4_18 rfl (lv_at hl 2 rfl) ?_
  refine lv_iload hx hb dJ5_newCapacity_0f7a4_19 (lv_at hl 0 rfl) ?_
  refine lv_iload_n hx hb dJ5_newCapacity_0f7a4_21 rfl (lv_at hl 2 rfl) ?_
  refine lv_iconst (v := 2) hx hb dJ5_newCapacity_0f7a4_22 rfl ?_
  refine lv_aload_n hx hb dJ5_newCapacity_0f7a4_23 rfl (lv_at hl 3 rfl) ?_
  refine k_get (v := .int 0) (C := RJ4) (T := TJ4) (N := 4) hx hb hts inJ5_newCapacity_0f7a4_J4 hown hK hP 0 rfl rfl 1 (by decide) lkJ5_newCapacity_0f7a4_22 rfl dJ5_newCapacity_0f7a4_24 ?_
  refine lv_ishl hx hb dJ5_newCapacity_0f7a4_27 ?_
  rw [show (((2) : Int32) <<< (((0) : Int32) &&& 31) : Int32) = 2 from by decide]
  refine lv_iadd hx hb dJ5_newCapacity_0f7a4_28 ?_
  rw [show (((nI bm)) + ((2)) : Int32) = nI (bm + 2) from nI_add bm 2]
  have hp := (show ([(gb, .inr (5, [.ref bv, .int 0, .int bz, .int (nI bn)])), (bv, .inl (cy 3, bm, .inl ba))] : va_W).Perm ([] ++ [(gb, .inr (5, [.ref bv, .int 0, .int bz, .int (nI bn)])), (bv, .inl (cy 3, bm, .inl ba))]) from List.Perm.refl _)
  refine jr_i (va_runS (As := [.int (nI bm), .int (nI (q - bm)), .int (nI (bm + 2))]) (rest := []) ⟨hx, hb, hml, hown, hts⟩ (cJ8_newLength_cabccM l D cy za zv Y _ bm (q - bm) (bm + 2) (by split <;> omega) (by split <;> omega)) (va_cwS 3 hts gJ5_newCapacity_0f7a4_J8_newLength_cabcc rfl rfl rfl heJ8_newLength_cabcc ⟨Nat.le_of_ble_eq_true rfl, Nat.le_of_ble_eq_true rfl⟩) (k_preSY hY hZ hS (k_free hp hD hS hA) hK (kP_app.mp (kP_perm hp hP)).1 (kD_app (kD_perm hp hD)).1) rfl rfl hl.1 rfl (Nat.le_of_ble_eq_true rfl) dJ5_newCapacity_0f7a4_29 ⟨by first | exact Nat.le_of_ble_eq_true rfl | omega, by first | exact Nat.le_of_ble_eq_true rfl | (show _ ≤ (_ : Nat); omega)⟩) hp hP hD hS hA (fun r u9 H locs hu927 hP hD hS => ?_)
  replace hu927 : r = nI (jcap q bm) := hu927
  subst hu927
  replace hP : va_P D kCl ([(gb, .inr (5, [.ref bv, .int 0, .int bz, .int (nI bn)])), (bv, .inl (cy 3, bm, .inl ba))]) H := hP
  replace hD : va_D _ ([(gb, .inr (5, [.ref bv, .int 0, .int bz, .int (nI bn)])), (bv, .inl (cy 3, bm, .inl ba))]) := hD
  refine lv_istore (lv' := [(5, .int (nI (jcap q bm))), (4, .int (nI (q - bm))), (3, .int (nI q)), (2, .int (nI bm)), (0, .ref gb), (1, .int (nI q))]) hx hb dJ5_newCapacity_0f7a4_32 hl (by decide) rfl (fun ls hl => ?_)
  refine lv_iload hx hb dJ5_newCapacity_0f7a4_34 (lv_at hl 0 rfl) ?_
  refine lv_ldc (v := 2147483647) hx hb hown (hts _ (List.mem_of_getElem? (i := 3) rfl)) dJ5_newCapacity_0f7a4_36 ?_
  refine lv_icmp_ne (tgt := 51) hx hb dJ5_newCapacity_0f7a4_38 (by decide) (fun _ => ?_) (fun c => absurd c (fun c => by have := (nI_eq (by omega) (by decide)).mp (show nI (jcap q bm) = nI 2147483647 from c); omega))
  refine lv_iload hx hb dJ5_newCapacity_0f7a4_51 (lv_at hl 0 rfl) ?_
  refine lv_aload_n hx hb dJ5_newCapacity_0f7a4_53 rfl (lv_at hl 4 rfl) ?_
  refine k_get (v := .int 0) (C := RJ4) (T := TJ4) (N := 4) hx hb hts inJ5_newCapacity_0f7a4_J4 hown hK hP 0 rfl rfl 1 (by decide) lkJ5_newCapacity_0f7a4_22 rfl dJ5_newCapacity_0f7a4_54 ?_
  refine lv_ishr hx hb dJ5_newCapacity_0f7a4_57 ?_
  rw [show ((((nI (jcap q bm))) : Int32) >>> (((0) : Int32) &&& 31) : Int32) = nI (jcap q bm) from sb_shr0 _]
  exact W.iret hx hb hr (fun t ht hW => ⟨⟨_, (), rfl, rfl, by rw [ht]; exact hP, hD⟩, hS.F ht⟩) hS.2.2 dJ5_newCapacity_0f7a4_58 hlocks
abbrev rmJ7_copyOf_9075b : Room := { frames := 1, cells := 1, slots := 1100, locals := 60 }
set_option maxHeartbeats 4000000 in
set_option maxRecDepth 100000 in
theorem cJ7_copyOf_9075bM (l : Launch) (D : va_G) (cy : Nat → ClassId) (za zv : Nat → Nat) (Y : YB) (sz : Nat) (bv bm : Nat) (ba : Nat → Int32) (q : Nat) (hq : bm < q) (hq2 : q ≤ 1100) (hf : sb_Fit ba) : Met l yJ7_copyOf_9075b wsJ7_copyOf_9075b rmJ7_copyOf_9075b (va_Pc [.ref bv, .int (nI q)] (kPreY D cy za zv Y sz ([(bv, .inl (cy 3, bm, .inl ba))]))) (va_Qr (fun _ : Unit => True) (fun _ ra t => kPost D (va_A ([(bv, .inl (cy 3, bm, .inl ba))]) sz) ([(bv, .inl (cy 3, bm, .inl ba)), (ra, .inl (cy 3, q, .inl (va_cpy ba (fun _ => 0) 0 0 bm)))]) t) (va_A ([(bv, .inl (cy 3, bm, .inl ba))]) sz)) 1 1100 (va_A ([(bv, .inl (cy 3, bm, .inl ba))]) sz) := by
  refine Met.ofW (cc := cJ7_copyOf_9075b) (maxL := 3) (ret := (some (.array .byte))) (by decide) rfl ?_
  intro p e s m args below meth c s₁ B hml hv
  obtain ⟨rfl, ⟨⟨⟨hsz, hP, hK, hD0⟩, hZ⟩, hY⟩⟩ := hv
  subst hsz
  have hx := B.exec
  have hb := B.bytes
  have hr := B.returns
  have hts := atoms_spec (ws := wsJ7_copyOf_9075b) B.pre
  have hown : s.vm.findClass RJ7 = some m.cls := findClass_of_methodNamed B.named
  have hlocks := B.notSynchronized
  have hA : ∀ q, s.heap.size ≤ q → va_A ([(bv, .inl (cy 3, bm, .inl ba))]) s.heap.size q := fun q h => Or.inr h
  have hS : va_S (va_A ([(bv, .inl (cy 3, bm, .inl ba))]) s.heap.size) s.heap s.heap [] := va_S.rf
  have hD : va_D (va_A ([(bv, .inl (cy 3, bm, .inl ba))]) s.heap.size) ([(bv, .inl (cy 3, bm, .inl ba))]) := hD0.self
  have hl := lv_entry ([.ref bv, .int (nI q)]) (n := 3) (Nat.le_of_ble_eq_true rfl)
  rw [lg_entry_eq]
  generalize (lg_sl ([.ref bv, .int (nI q)]) ++ List.replicate (3 - (lg_sl ([.ref bv, .int (nI q)])).length) Slot.unset).toArray = ls at hl ⊢
  have hl : lv_has ls 3 [(0, .ref bv), (1, .int (nI q))] := hl
  refine lv_iload_n hx hb dJ7_copyOf_9075b_0 rfl (lv_at hl 1 rfl) ?_
  refine lv_aload_n hx hb dJ7_copyOf_9075b_1 rfl (lv_at hl 0 rfl) ?_
  refine va_alen (v := nI bm) hx hb hK.1 hP 0 3 rfl rfl rfl dJ7_copyOf_9075b_2 ?_
  refine lv_icmp_ne (tgt := 14) hx hb dJ7_copyOf_9075b_3 (by decide) (fun _ => ?_) (fun c => absurd c (fun c => by have := (nI_eq (by omega) (by omega)).mp c; omega))
  refine lv_iload_n hx hb dJ7_copyOf_9075b_14 rfl (lv_at hl 1 rfl) ?_
  refine k_newb (k := q) hx hb (hts _ (List.mem_of_getElem? (i := 7) rfl)) hK hP hD hS hA (nI_pos (by omega)) (nI_clamp (by omega)) (by omega) (by exact Nat.le_of_ble_eq_true rfl) (by show 0 + q ≤ 1100; omega) dJ7_copyOf_9075b_15 (fun nv H hP hD hS => ?_)
  replace hP : va_P D kCl ([(bv, .inl (cy 3, bm, .inl ba)), (nv, .inl (cy 3, q, .inl (fun _ => 0)))]) H := hP
  replace hD : va_D _ ([(bv, .inl (cy 3, bm, .inl ba)), (nv, .inl (cy 3, q, .inl (fun _ => 0)))]) := hD
  refine W.widen (k := 1) (n := 1100) (Nat.le_of_ble_eq_true rfl) (by omega) ?_
  refine lv_astore_n (lv' := [(2, .ref nv), (0, .ref bv), (1, .int (nI q))]) hx hb dJ7_copyOf_9075b_17 rfl hl (by decide) rfl (fun ls hl => ?_)
  refine lv_aload_n hx hb dJ7_copyOf_9075b_18 rfl (lv_at hl 1 rfl) ?_
  refine lv_iconst (v := 0) hx hb dJ7_copyOf_9075b_19 rfl ?_
  refine lv_aload_n hx hb dJ7_copyOf_9075b_20 rfl (lv_at hl 0 rfl) ?_
  refine lv_iconst (v := 0) hx hb dJ7_copyOf_9075b_21 rfl ?_
  refine lv_aload_n hx hb dJ7_copyOf_9075b_22 rfl (lv_at hl 1 rfl) ?_
  refine va_alen (v := nI bm) hx hb hK.1 hP 0 3 rfl rfl rfl dJ7_copyOf_9075b_23 ?_
  refine lv_iload_n hx hb dJ7_copyOf_9075b_24 rfl (lv_at hl 2 rfl) ?_
  refine va_mmin hx hb (hml.trans hl.1.symm) hown (hts _ (List.mem_of_getElem? (i := 8) rfl)) (hts _ (List.mem_of_getElem? (i := 9) rfl)) (hts _ (List.mem_of_getElem? (i := 10) rfl)) (hts _ (List.mem_of_getElem? (i := 11) rfl)) (by first | exact Nat.le_of_ble_eq_true rfl | decide) (by first | exact Nat.le_of_ble_eq_true rfl | decide) (by first | exact Nat.zero_le _ | exact Nat.le_of_ble_eq_true rfl) (by first | exact Nat.zero_le _ | exact Nat.le_of_ble_eq_true rfl) dJ7_copyOf_9075b_25 ?_
  rw [show (if ((nI q)) < ((nI bm)) then ((nI q)) else ((nI bm)) : Int32) = nI bm from (jl_min (by omega) (by omega)).trans (by rw [if_neg (by omega)])]
  refine va_copyi hx hb (hml.trans hl.1.symm) hown (hts _ (List.mem_of_getElem? (i := 12) rfl)) (hts _ (List.mem_of_getElem? (i := 13) rfl)) (hts _ (List.mem_of_getElem? (i := 14) rfl)) (hts _ (List.mem_of_getElem? (i := 15) rfl)) hK.1 hP hD hS 0 1 3 3 rfl rfl rfl rfl rfl (by decide) (by decide) (nI_pos (by omega)) (by rw [sb_cl0, nI_clamp (by omega)]; omega) (by rw [sb_cl0, nI_clamp (by omega)]; omega) (fun i _ => hf _) (by first | exact Nat.le_of_ble_eq_true rfl | decide) (by first | exact Nat.le_of_ble_eq_true rfl | decide) dJ7_copyOf_9075b_28 (fun H locs hP hD hS => ?_)
  rw [sb_cl0, nI_clamp (by omega)] at hP hD
  replace hP : va_P D kCl ([(bv, .inl (cy 3, bm, .inl ba)), (nv, .inl (cy 3, q, .inl (va_cpy ba (fun _ => 0) 0 0 bm)))]) H := hP
  replace hD : va_D _ ([(bv, .inl (cy 3, bm, .inl ba)), (nv, .inl (cy 3, q, .inl (va_cpy ba (fun _ => 0) 0 0 bm)))]) := hD
  refine lv_aload_n hx hb dJ7_copyOf_9075b_31 rfl (lv_at hl 0 rfl) ?_
  refine W.widen (k := 1) (n := 1100) (by first | exact Nat.le_of_ble_eq_true rfl | omega) (by first | exact Nat.le_of_ble_eq_true rfl | omega) ?_
  exact W.aret hx hb hr (Or.inr ⟨_, rfl⟩) (Or.inr ⟨_, rfl⟩) (fun t ht hW => ⟨⟨(), nv, rfl, trivial, by rw [ht]; exact hP, hD⟩, hS.F ht⟩) hS.2.2 dJ7_copyOf_9075b_32 hlocks
theorem jn_le {q m : Nat} (h : q ≤ m) (hq : q < 1000000) (hm : m < 1000000) : nI q - nI m ≤ 0 := by
  rw [Int32.le_iff_toInt_le, pk_sub_toInt (by omega) (by omega), Int32.toInt_zero]
  omega
theorem jn_nle {q m : Nat} (h : m < q) (hq : q < 1000000) (hm : m < 1000000) : ¬ nI q - nI m ≤ 0 := by
  rw [Int32.le_iff_toInt_le, pk_sub_toInt (by omega) (by omega), Int32.toInt_zero]
  omega
theorem lkJ5_ensureCapacityInternal_d00df_15 : Cond.fieldLink RJ5 15 "java/lang/AbstractStringBuilder" "value" "[B" ∈ wsJ5_ensureCapacityInternal_d00df := List.mem_of_getElem? (i := 1) rfl
theorem inJ5_ensureCapacityInternal_d00df_J4 : ∀ w ∈ u_ws RJ4 TJ4 4, w ∈ wsJ5_ensureCapacityInternal_d00df := k_lays 40 rfl
theorem lkJ5_ensureCapacityInternal_d00df_22 : Cond.fieldLink RJ5 22 "java/lang/AbstractStringBuilder" "coder" "B" ∈ wsJ5_ensureCapacityInternal_d00df := List.mem_of_getElem? (i := 2) rfl
theorem heJ7_copyOf_9075b : yJ7_copyOf_9075b.cls ≠ "java/lang/invoke/MethodHandle" ∧ yJ7_copyOf_9075b.cls ≠ "java/lang/invoke/VarHandle" ∧ (parseMethodDescriptor yJ7_copyOf_9075b.desc).map (fun d => d.parameters.length) = some 2 := by decide +kernel
abbrev rmJ5_ensureCapacityInternal_d00df : Room := { frames := 3, cells := 1, slots := 1100, locals := 150 }
set_option maxHeartbeats 4000000 in
set_option maxRecDepth 100000 in
theorem cJ5_ensureCapacityInternal_d00dfM (l : Launch) (D : va_G) (cy : Nat → ClassId) (za zv : Nat → Nat) (Y : YB) (sz : Nat) (gb bv bm : Nat) (ba : Nat → Int32) (bn : Nat) (bz : Int32) (q : Nat) (hq2 : q ≤ 520) (hm : bm ≤ 1100) (hf : sb_Fit ba) : Met l yJ5_ensureCapacityInternal_d00df wsJ5_ensureCapacityInternal_d00df rmJ5_ensureCapacityInternal_d00df (va_Pc [.ref gb, .int (nI q)] (kPreY D cy za zv Y sz ([(gb, .inr (5, [.ref bv, .int 0, .int bz, .int (nI bn)])), (bv, .inl (cy 3, bm, .inl ba))]))) (va_Qv (fun u : Nat × Nat × (Nat → Int32) => q ≤ u.2.1 ∧ u.2.1 ≤ 1100 ∧ bm ≤ u.2.1 ∧ sb_Fit u.2.2 ∧ ∀ j, j < bm → u.2.2 j = ba j) (fun u => kPost D (va_A ([(gb, .inr (5, [.ref bv, .int 0, .int bz, .int (nI bn)])), (bv, .inl (cy 3, bm, .inl ba))]) sz) ([(gb, .inr (5, [.ref u.1, .int 0, .int bz, .int (nI bn)])), (u.1, .inl (cy 3, u.2.1, .inl u.2.2))])) (va_A ([(gb, .inr (5, [.ref bv, .int 0, .int bz, .int (nI bn)])), (bv, .inl (cy 3, bm, .inl ba))]) sz)) 1 1100 (va_A ([(gb, .inr (5, [.ref bv, .int 0, .int bz, .int (nI bn)])), (bv, .inl (cy 3, bm, .inl ba))]) sz) := by
  refine Met.ofW (cc := cJ5_ensureCapacityInternal_d00df) (maxL := 3) (ret := none) (by decide) rfl ?_
  intro p e s m args below meth c s₁ B hml hv
  obtain ⟨rfl, ⟨⟨⟨hsz, hP, hK, hD0⟩, hZ⟩, hY⟩⟩ := hv
  subst hsz
  have hx := B.exec
  have hb := B.bytes
  have hr := B.returns
  have hts := atoms_spec (ws := wsJ5_ensureCapacityInternal_d00df) B.pre
  have hown : s.vm.findClass RJ5 = some m.cls := findClass_of_methodNamed B.named
  have hlocks := B.notSynchronized
  have hA : ∀ q, s.heap.size ≤ q → va_A ([(gb, .inr (5, [.ref bv, .int 0, .int bz, .int (nI bn)])), (bv, .inl (cy 3, bm, .inl ba))]) s.heap.size q := fun q h => Or.inr h
  have hS : va_S (va_A ([(gb, .inr (5, [.ref bv, .int 0, .int bz, .int (nI bn)])), (bv, .inl (cy 3, bm, .inl ba))]) s.heap.size) s.heap s.heap [] := va_S.rf
  have hD : va_D (va_A ([(gb, .inr (5, [.ref bv, .int 0, .int bz, .int (nI bn)])), (bv, .inl (cy 3, bm, .inl ba))]) s.heap.size) ([(gb, .inr (5, [.ref bv, .int 0, .int bz, .int (nI bn)])), (bv, .inl (cy 3, bm, .inl ba))]) := hD0.self
  have hl := lv_entry ([.ref gb, .int (nI q)]) (n := 3) (Nat.le_of_ble_eq_true rfl)
  rw [lg_entry_eq]
  generalize (lg_sl ([.ref gb, .int (nI q)]) ++ List.replicate (3 - (lg_sl ([.ref gb, .int (nI q)])).length) Slot.unset).toArray = ls at hl ⊢
  have hl : lv_has ls 3 [(0, .ref gb), (1, .int (nI q))] := hl
  by_cases hc : q ≤ bm
  · refine lv_aload_n hx hb dJ5_ensureCapacityInternal_d00df_0 rfl (lv_at hl 0 rfl) ?_
    refine k_get (v := .ref bv) (C := RJ4) (T := TJ4) (N := 4) hx hb hts inJ5_ensureCapacityInternal_d00df_J4 hown hK hP 0 rfl rfl 0 (by decide) lkJ5_ensureCapacityInternal_d00df_15 rfl dJ5_ensureCapacityInternal_d00df_1 ?_
    refine va_alen (v := nI bm) hx hb hK.1 hP 1 3 rfl rfl rfl dJ5_ensureCapacityInternal_d00df_4 ?_
    refine lv_aload_n hx hb dJ5_ensureCapacityInternal_d00df_5 rfl (lv_at hl 0 rfl) ?_
    refine k_get (v := .int 0) (C := RJ4) (T := TJ4) (N := 4) hx hb hts inJ5_ensureCapacityInternal_d00df_J4 hown hK hP 0 rfl rfl 1 (by decide) lkJ5_ensureCapacityInternal_d00df_22 rfl dJ5_ensureCapacityInternal_d00df_6 ?_
    refine lv_ishr hx hb dJ5_ensureCapacityInternal_d00df_9 ?_
    rw [show ((((nI bm)) : Int32) >>> (((0) : Int32) &&& 31) : Int32) = nI bm from sb_shr0 _]
    refine lv_istore_n (lv' := [(2, .int (nI bm)), (0, .ref gb), (1, .int (nI q))]) hx hb dJ5_ensureCapacityInternal_d00df_10 rfl hl (by decide) rfl (fun ls hl => ?_)
    refine lv_iload_n hx hb dJ5_ensureCapacityInternal_d00df_11 rfl (lv_at hl 2 rfl) ?_
    refine lv_iload_n hx hb dJ5_ensureCapacityInternal_d00df_12 rfl (lv_at hl 0 rfl) ?_
    refine lv_isub hx hb dJ5_ensureCapacityInternal_d00df_13 ?_
    refine lv_if_le (tgt := 38) hx hb dJ5_ensureCapacityInternal_d00df_14 (by decide) (fun _ => ?_) (fun c => absurd (jn_le hc (by omega) (by omega)) c)
    refine W.widen (k := 1) (n := 1100) (by first | exact Nat.le_of_ble_eq_true rfl | omega) (by first | exact Nat.le_of_ble_eq_true rfl | omega) ?_
    exact W.vret hx hb hr (fun t ht hW => ⟨⟨(bv, bm, ba), rfl, ⟨hc, hm, Nat.le_refl _, hf, fun _ _ => rfl⟩, by rw [ht]; exact hP, hD⟩, hS.F ht⟩) hS.2.2 dJ5_ensureCapacityInternal_d00df_38 hlocks
  · have hj := jcap_le (by omega : bm < q) hq2
    refine lv_aload_n hx hb dJ5_ensureCapacityInternal_d00df_0 rfl (lv_at hl 0 rfl) ?_
    refine k_get (v := .ref bv) (C := RJ4) (T := TJ4) (N := 4) hx hb hts inJ5_ensureCapacityInternal_d00df_J4 hown hK hP 0 rfl rfl 0 (by decide) lkJ5_ensureCapacityInternal_d00df_15 rfl dJ5_ensureCapacityInternal_d00df_1 ?_
    refine va_alen (v := nI bm) hx hb hK.1 hP 1 3 rfl rfl rfl dJ5_ensureCapacityInternal_d00df_4 ?_
    refine lv_aload_n hx hb dJ5_ensureCapacityInternal_d00df_5 rfl (lv_at hl 0 rfl) ?_
    refine k_get (v := .int 0) (C := RJ4) (T := TJ4) (N := 4) hx hb hts inJ5_ensureCapacityInternal_d00df_J4 hown hK hP 0 rfl rfl 1 (by decide) lkJ5_ensureCapacityInternal_d00df_22 rfl dJ5_ensureCapacityInternal_d00df_6 ?_
    refine lv_ishr hx hb dJ5_ensureCapacityInternal_d00df_9 ?_
    rw [show ((((nI bm)) : Int32) >>> (((0) : Int32) &&& 31) : Int32) = nI bm from sb_shr0 _]
    refine lv_istore_n (lv' := [(2, .int (nI bm)), (0, .ref gb), (1, .int (nI q))]) hx hb dJ5_ensureCapacityInternal_d00df_10 rfl hl (by decide) rfl (fun ls hl => ?_)
    refine lv_iload_n hx hb dJ5_ensureCapacityInternal_d00df_11 rfl (lv_at hl 2 rfl) ?_
    refine lv_iload_n hx hb dJ5_ensureCapacityInternal_d00df_12 rfl (lv_at hl 0 rfl) ?_
    refine lv_isub hx hb dJ5_ensureCapacityInternal_d00df_13 ?_
    refine lv_if_le (tgt := 38) hx hb dJ5_ensureCapacityInternal_d00df_14 (by decide) (fun c => absurd c (jn_nle (by omega) (by omega) (by omega))) (fun _ => ?_)
    refine lv_aload_n hx hb dJ5_ensureCapacityInternal_d00df_17 rfl (lv_at hl 1 rfl) ?_
    refine lv_aload_n hx hb dJ5_ensureCapacityInternal_d00df_18 rfl (lv_at hl 1 rfl) ?_
    refine k_get (v := .ref bv) (C := RJ4) (T := TJ4) (N := 4) hx hb hts inJ5_ensureCapacityInternal_d00df_J4 hown hK hP 0 rfl rfl 0 (by decide) lkJ5_ensureCapacityInternal_d00df_15 rfl dJ5_ensureCapacityInternal_d00df_19 ?_
    refine lv_aload_n hx hb dJ5_ensureCapacityInternal_d00df_22 rfl (lv_at hl 1 rfl) ?_
    refine lv_iload_n hx hb dJ5_ensureCapacityInternal_d00df_23 rfl (lv_at hl 2 rfl) ?_
    have hp := (show ([(gb, .inr (5, [.ref bv, .int 0, .int bz, .int (nI bn)])), (bv, .inl (cy 3, bm, .inl ba))] : va_W).Perm ([(gb, .inr (5, [.ref bv, .int 0, .int bz, .int (nI bn)])), (bv, .inl (cy 3, bm, .inl ba))] ++ []) from (List.append_nil _).symm ▸ List.Perm.refl _)
    refine jr_i (va_runU (b := gb) (As := [.int (nI q)]) (rest := [.ref bv, .ref gb]) ⟨hx, hb, hml, hown, hts⟩ (cJ5_newCapacity_0f7a4M l D cy za zv Y _ gb bv bm ba bn bz q (by omega) hq2) (va_cwU 1 hts gJ5_ensureCapacityInternal_d00df_J5_newCapacity_0f7a4_u104J4 rfl rfl rfl rfl ⟨by decide +kernel, by decide +kernel, by decide +kernel⟩ ⟨Nat.le_of_ble_eq_true rfl, Nat.le_of_ble_eq_true rfl⟩) (k_preVY hY hZ hS (k_free hp hD hS hA) hK (kP_app.mp (kP_perm hp hP)).1 (kD_app (kD_perm hp hD)).1 (q0 := 0) (ci := 5) rfl rfl) rfl rfl hl.1 rfl (Nat.le_of_ble_eq_true rfl) dJ5_ensureCapacityInternal_d00df_24 ⟨by first | exact Nat.le_of_ble_eq_true rfl | omega, by first | exact Nat.le_of_ble_eq_true rfl | (show _ ≤ (_ : Nat); omega)⟩) hp hP hD hS hA (fun r u9 H locs hu919 hP hD hS => ?_)
    subst hu919
    replace hP : va_P D kCl ([(gb, .inr (5, [.ref bv, .int 0, .int bz, .int (nI bn)])), (bv, .inl (cy 3, bm, .inl ba))]) H := hP
    replace hD : va_D _ ([(gb, .inr (5, [.ref bv, .int 0, .int bz, .int (nI bn)])), (bv, .inl (cy 3, bm, .inl ba))]) := hD
    refine lv_aload_n hx hb dJ5_ensureCapacityInternal_d00df_27 rfl (lv_at hl 1 rfl) ?_
    refine k_get (v := .int 0) (C := RJ4) (T := TJ4) (N := 4) hx hb hts inJ5_ensureCapacityInternal_d00df_J4 hown hK hP 0 rfl rfl 1 (by decide) lkJ5_ensureCapacityInternal_d00df_22 rfl dJ5_ensureCapacityInternal_d00df_28 ?_
    refine lv_ishl hx hb dJ5_ensureCapacityInternal_d00df_31 ?_
    rw [show ((((nI (jcap q bm))) : Int32) <<< (((0) : Int32) &&& 31) : Int32) = nI (jcap q bm) from sb_shl0 _]
    have hp := (k_pick (l := ([(gb, .inr (5, [.ref bv, .int 0, .int bz, .int (nI bn)])), (bv, .inl (cy 3, bm, .inl ba))] : va_W)) (k := 1) rfl)
    refine jr_r (va_runS (As := [.ref bv, .int (nI (jcap q bm))]) (rest := [.ref gb]) ⟨hx, hb, hml, hown, hts⟩ (cJ7_copyOf_9075bM l D cy za zv Y _ bv bm ba (jcap q bm) (by omega) (by omega) hf) (va_cwS 2 hts gJ5_ensureCapacityInternal_d00df_J7_copyOf_9075b rfl rfl rfl heJ7_copyOf_9075b ⟨Nat.le_of_ble_eq_true rfl, Nat.le_of_ble_eq_true rfl⟩) (k_preSY hY hZ hS (k_free hp hD hS hA) hK (kP_app.mp (kP_perm hp hP)).1 (kD_app (kD_perm hp hD)).1) rfl rfl hl.1 rfl (Nat.le_of_ble_eq_true rfl) dJ5_ensureCapacityInternal_d00df_32 ⟨by first | exact Nat.le_of_ble_eq_true rfl | omega, by first | exact Nat.le_of_ble_eq_true rfl | (show _ ≤ (_ : Nat); omega)⟩) hp hP hD hS hA (fun u ra H locs hu28 hP hD hS => ?_)
    replace hP : va_P D kCl ([(bv, .inl (cy 3, bm, .inl ba)), (ra, .inl (cy 3, (jcap q bm), .inl (va_cpy ba (fun _ => 0) 0 0 bm))), (gb, .inr (5, [.ref bv, .int 0, .int bz, .int (nI bn)]))]) H := hP
    replace hD : va_D _ ([(bv, .inl (cy 3, bm, .inl ba)), (ra, .inl (cy 3, (jcap q bm), .inl (va_cpy ba (fun _ => 0) 0 0 bm))), (gb, .inr (5, [.ref bv, .int 0, .int bz, .int (nI bn)]))]) := hD
    refine W.widen (k := 1) (n := 1100) (by first | exact Nat.le_of_ble_eq_true rfl | omega) (by first | exact Nat.le_of_ble_eq_true rfl | omega) ?_
    replace hP := kP_perm (show List.Perm ([(bv, .inl (cy 3, bm, .inl ba)), (ra, .inl (cy 3, (jcap q bm), .inl (va_cpy ba (fun _ => 0) 0 0 bm))), (gb, .inr (5, [.ref bv, .int 0, .int bz, .int (nI bn)]))] : va_W) ([(gb, .inr (5, [.ref bv, .int 0, .int bz, .int (nI bn)])), (ra, .inl (cy 3, (jcap q bm), .inl (va_cpy ba (fun _ => 0) 0 0 bm))), (bv, .inl (cy 3, bm, .inl ba))]) from (List.reverse_perm ([(bv, .inl (cy 3, bm, .inl ba)), (ra, .inl (cy 3, (jcap q bm), .inl (va_cpy ba (fun _ => 0) 0 0 bm))), (gb, .inr (5, [.ref bv, .int 0, .int bz, .int (nI bn)]))] : va_W)).symm) hP
    replace hD := kD_perm (show List.Perm ([(bv, .inl (cy 3, bm, .inl ba)), (ra, .inl (cy 3, (jcap q bm), .inl (va_cpy ba (fun _ => 0) 0 0 bm))), (gb, .inr (5, [.ref bv, .int 0, .int bz, .int (nI bn)]))] : va_W) ([(gb, .inr (5, [.ref bv, .int 0, .int bz, .int (nI bn)])), (ra, .inl (cy 3, (jcap q bm), .inl (va_cpy ba (fun _ => 0) 0 0 bm))), (bv, .inl (cy 3, bm, .inl ba))]) from (List.reverse_perm ([(bv, .inl (cy 3, bm, .inl ba)), (ra, .inl (cy 3, (jcap q bm), .inl (va_cpy ba (fun _ => 0) 0 0 bm))), (gb, .inr (5, [.ref bv, .int 0, .int bz, .int (nI bn)]))] : va_W)).symm) hD
    refine k_put (v := .ref ra) (ty := (.array .byte)) (C := RJ4) (T := TJ4) (N := 4) hx hb hts inJ5_ensureCapacityInternal_d00df_J4 tyJ4 tyJ4_ok nmJ4 hown hK hP hD hS 0 rfl rfl 0 (by decide) lkJ5_ensureCapacityInternal_d00df_15 rfl (by decide +kernel) rfl rfl (Nat.le_of_ble_eq_true rfl) (ws' := [(gb, .inr (5, [.ref ra, .int 0, .int bz, .int (nI bn)])), (ra, .inl (cy 3, (jcap q bm), .inl (va_cpy ba (fun _ => 0) 0 0 bm))), (bv, .inl (cy 3, bm, .inl ba))]) rfl dJ5_ensureCapacityInternal_d00df_35 (fun H locs hP hD hS => ?_)
    replace hP : va_P D kCl ([(gb, .inr (5, [.ref ra, .int 0, .int bz, .int (nI bn)])), (ra, .inl (cy 3, (jcap q bm), .inl (va_cpy ba (fun _ => 0) 0 0 bm)))]) H := (kP_app.mp (show va_P D kCl ([(gb, .inr (5, [.ref ra, .int 0, .int bz, .int (nI bn)])), (ra, .inl (cy 3, (jcap q bm), .inl (va_cpy ba (fun _ => 0) 0 0 bm)))] ++ [(bv, .inl (cy 3, bm, .inl ba))]) H from hP)).1
    replace hD : va_D _ ([(gb, .inr (5, [.ref ra, .int 0, .int bz, .int (nI bn)])), (ra, .inl (cy 3, (jcap q bm), .inl (va_cpy ba (fun _ => 0) 0 0 bm)))]) := (kD_app (show va_D _ ([(gb, .inr (5, [.ref ra, .int 0, .int bz, .int (nI bn)])), (ra, .inl (cy 3, (jcap q bm), .inl (va_cpy ba (fun _ => 0) 0 0 bm)))] ++ [(bv, .inl (cy 3, bm, .inl ba))]) from hD)).1
    refine W.widen (k := 1) (n := 1100) (by first | exact Nat.le_of_ble_eq_true rfl | omega) (by first | exact Nat.le_of_ble_eq_true rfl | omega) ?_
    exact W.vret hx hb hr (fun t ht hW => ⟨⟨(ra, jcap q bm, va_cpy ba (fun _ => 0) 0 0 bm), rfl, ⟨hj.2.1, by show jcap q bm ≤ 1100; omega, by show bm ≤ jcap q bm; omega, sb_fitC hf sb_fit0, fun j hj => sb_cpy0 (f := ba) (g := fun _ => 0) hj⟩, by rw [ht]; exact hP, hD⟩, hS.F ht⟩) hS.2.2 dJ5_ensureCapacityInternal_d00df_38 hlocks
theorem jx_100 : (-100 : Int32) = -nI 100 := by decide
theorem jx_10 : (-10 : Int32) = -nI 10 := by decide
theorem jx_9 : (-9 : Int32) = -nI 9 := by decide
/-- what a piece s of w letters behind n letters leaves of a builder's bytes -/
def jApp (ba : Nat → Int32) (n w : Nat) (s : Nat → Nat) (u : Nat × Nat × (Nat → Int32)) : Prop := n + w ≤ u.2.1 ∧ u.2.1 ≤ 1100 ∧ sb_Fit u.2.2 ∧ (∀ j, j < n → u.2.2 j = ba j) ∧ ∀ i, i < w → u.2.2 (n + i) = sb_b (s i)
theorem lkJ5_setLength_d00df_79 : Cond.fieldLink RJ5 79 "java/lang/AbstractStringBuilder" "count" "I" ∈ wsJ5_setLength_d00df := List.mem_of_getElem? (i := 4) rfl
theorem inJ5_setLength_d00df_J4 : ∀ w ∈ u_ws RJ4 TJ4 4, w ∈ wsJ5_setLength_d00df := k_lays 83 rfl
theorem lkJ5_setLength_d00df_73 : Cond.fieldLink RJ5 73 "java/lang/AbstractStringBuilder" "maybeLatin1" "Z" ∈ wsJ5_setLength_d00df := List.mem_of_getElem? (i := 6) rfl
abbrev rmJ5_setLength_d00df : Room := { frames := 4, cells := 1, slots := 1100, locals := 200 }
set_option maxHeartbeats 4000000 in
set_option maxRecDepth 100000 in
theorem cJ5_setLength_d00dfM (l : Launch) (D : va_G) (cy : Nat → ClassId) (za zv : Nat → Nat) (Y : YB) (sz : Nat) (gb bv bm : Nat) (ba : Nat → Int32) (bn : Nat) (bz : Int32) (hm : bm ≤ 1100) (hn : bn ≤ bm) (hf : sb_Fit ba) : Met l yJ5_setLength_d00df wsJ5_setLength_d00df rmJ5_setLength_d00df (va_Pc [.ref gb, .int (nI 0)] (kPreY D cy za zv Y sz ([(gb, .inr (5, [.ref bv, .int 0, .int bz, .int (nI bn)])), (bv, .inl (cy 3, bm, .inl ba))]))) (va_Qv (fun u : Nat × Nat × (Nat → Int32) × Int32 => u.2.1 ≤ 1100 ∧ sb_Fit u.2.2.1) (fun u => kPost D (va_A ([(gb, .inr (5, [.ref bv, .int 0, .int bz, .int (nI bn)])), (bv, .inl (cy 3, bm, .inl ba))]) sz) ([(gb, .inr (5, [.ref u.1, .int 0, .int u.2.2.2, .int (nI 0)])), (u.1, .inl (cy 3, u.2.1, .inl u.2.2.1))])) (va_A ([(gb, .inr (5, [.ref bv, .int 0, .int bz, .int (nI bn)])), (bv, .inl (cy 3, bm, .inl ba))]) sz)) 1 1100 (va_A ([(gb, .inr (5, [.ref bv, .int 0, .int bz, .int (nI bn)])), (bv, .inl (cy 3, bm, .inl ba))]) sz) := by
  refine Met.ofW (cc := cJ5_setLength_d00df) (maxL := 2) (ret := none) (by decide) rfl ?_
  intro p e s m args below meth c s₁ B hml hv
  obtain ⟨rfl, ⟨⟨⟨hsz, hP, hK, hD0⟩, hZ⟩, hY⟩⟩ := hv
  subst hsz
  have hx := B.exec
  have hb := B.bytes
  have hr := B.returns
  have hts := atoms_spec (ws := wsJ5_setLength_d00df) B.pre
  have hown : s.vm.findClass RJ5 = some m.cls := findClass_of_methodNamed B.named
  have hlocks := B.notSynchronized
  have hA : ∀ q, s.heap.size ≤ q → va_A ([(gb, .inr (5, [.ref bv, .int 0, .int bz, .int (nI bn)])), (bv, .inl (cy 3, bm, .inl ba))]) s.heap.size q := fun q h => Or.inr h
  have hS : va_S (va_A ([(gb, .inr (5, [.ref bv, .int 0, .int bz, .int (nI bn)])), (bv, .inl (cy 3, bm, .inl ba))]) s.heap.size) s.heap s.heap [] := va_S.rf
  have hD : va_D (va_A ([(gb, .inr (5, [.ref bv, .int 0, .int bz, .int (nI bn)])), (bv, .inl (cy 3, bm, .inl ba))]) s.heap.size) ([(gb, .inr (5, [.ref bv, .int 0, .int bz, .int (nI bn)])), (bv, .inl (cy 3, bm, .inl ba))]) := hD0.self
  have hl := lv_entry ([.ref gb, .int (nI 0)]) (n := 2) (Nat.le_of_ble_eq_true rfl)
  rw [lg_entry_eq]
  generalize (lg_sl ([.ref gb, .int (nI 0)]) ++ List.replicate (2 - (lg_sl ([.ref gb, .int (nI 0)])).length) Slot.unset).toArray = ls at hl ⊢
  have hl : lv_has ls 2 [(0, .ref gb), (1, .int (nI 0))] := hl
  refine lv_iload_n hx hb dJ5_setLength_d00df_0 rfl (lv_at hl 1 rfl) ?_
  refine lv_if_ge (tgt := 13) hx hb dJ5_setLength_d00df_1 (by decide) (fun _ => ?_) (fun c => absurd (by decide) c)
  refine lv_aload_n hx hb dJ5_setLength_d00df_13 rfl (lv_at hl 0 rfl) ?_
  refine lv_iload_n hx hb dJ5_setLength_d00df_14 rfl (lv_at hl 1 rfl) ?_
  have hp := (show ([(gb, .inr (5, [.ref bv, .int 0, .int bz, .int (nI bn)])), (bv, .inl (cy 3, bm, .inl ba))] : va_W).Perm ([(gb, .inr (5, [.ref bv, .int 0, .int bz, .int (nI bn)])), (bv, .inl (cy 3, bm, .inl ba))] ++ []) from (List.append_nil _).symm ▸ List.Perm.refl _)
  refine jr_v (va_runU (b := gb) (As := [.int (nI 0)]) (rest := []) ⟨hx, hb, hml, hown, hts⟩ (cJ5_ensureCapacityInternal_d00dfM l D cy za zv Y _ gb bv bm ba bn bz 0 (by omega) hm hf) (va_cwU 1 hts gJ5_setLength_d00df_J5_ensureCapacityInternal_d00df_u100J4 rfl rfl rfl rfl ⟨by decide +kernel, by decide +kernel, by decide +kernel⟩ ⟨Nat.le_of_ble_eq_true rfl, Nat.le_of_ble_eq_true rfl⟩) (k_preVY hY hZ hS (k_free hp hD hS hA) hK (kP_app.mp (kP_perm hp hP)).1 (kD_app (kD_perm hp hD)).1 (q0 := 0) (ci := 5) rfl rfl) rfl rfl hl.1 rfl (Nat.le_of_ble_eq_true rfl) dJ5_setLength_d00df_15 ⟨by first | exact Nat.le_of_ble_eq_true rfl | omega, by first | exact Nat.le_of_ble_eq_true rfl | (show _ ≤ (_ : Nat); omega)⟩) hp hP hD hS hA (fun u H locs hu5 hP hD hS => ?_)
  obtain ⟨hu1, hu2, hu3, hu4, hu5⟩ := hu5
  replace hP : va_P D kCl ([(gb, .inr (5, [.ref u.1, .int 0, .int bz, .int (nI bn)])), (u.1, .inl (cy 3, u.2.1, .inl u.2.2))]) H := hP
  replace hD : va_D _ ([(gb, .inr (5, [.ref u.1, .int 0, .int bz, .int (nI bn)])), (u.1, .inl (cy 3, u.2.1, .inl u.2.2))]) := hD
  refine W.widen (k := 1) (n := 1100) (by first | exact Nat.le_of_ble_eq_true rfl | omega) (by first | exact Nat.le_of_ble_eq_true rfl | omega) ?_
  refine lv_aload_n hx hb dJ5_setLength_d00df_18 rfl (lv_at hl 0 rfl) ?_
  refine k_get (v := .int (nI bn)) (C := RJ4) (T := TJ4) (N := 4) hx hb hts inJ5_setLength_d00df_J4 hown hK hP 0 rfl rfl 3 (by decide) lkJ5_setLength_d00df_79 rfl dJ5_setLength_d00df_19 ?_
  refine lv_iload_n hx hb dJ5_setLength_d00df_22 rfl (lv_at hl 1 rfl) ?_
  refine lv_icmp_ge (tgt := 63) hx hb dJ5_setLength_d00df_23 (by decide) (fun _ => ?_) (fun c => absurd (nI_le (Nat.zero_le bn) (by omega)) c)
  by_cases hc : bn = 0
  · refine lv_aload_n hx hb dJ5_setLength_d00df_63 rfl (lv_at hl 0 rfl) ?_
    refine k_get (v := .int (nI bn)) (C := RJ4) (T := TJ4) (N := 4) hx hb hts inJ5_setLength_d00df_J4 hown hK hP 0 rfl rfl 3 (by decide) lkJ5_setLength_d00df_79 rfl dJ5_setLength_d00df_64 ?_
    refine lv_iload_n hx hb dJ5_setLength_d00df_67 rfl (lv_at hl 1 rfl) ?_
    refine lv_icmp_le (tgt := 76) hx hb dJ5_setLength_d00df_68 (by decide) (fun _ => ?_) (fun c => absurd (by rw [hc]; decide) c)
    refine lv_aload_n hx hb dJ5_setLength_d00df_76 rfl (lv_at hl 0 rfl) ?_
    refine lv_iload_n hx hb dJ5_setLength_d00df_77 rfl (lv_at hl 1 rfl) ?_
    refine k_put (v := .int (nI 0)) (ty := .int) (C := RJ4) (T := TJ4) (N := 4) hx hb hts inJ5_setLength_d00df_J4 tyJ4 tyJ4_ok nmJ4 hown hK hP hD hS 0 rfl rfl 3 (by decide) lkJ5_setLength_d00df_79 rfl (by decide +kernel) rfl rfl (Nat.le_of_ble_eq_true rfl) (ws' := [(gb, .inr (5, [.ref u.1, .int 0, .int bz, .int (nI 0)])), (u.1, .inl (cy 3, u.2.1, .inl u.2.2))]) rfl dJ5_setLength_d00df_78 (fun H locs hP hD hS => ?_)
    refine W.widen (k := 1) (n := 1100) (by first | exact Nat.le_of_ble_eq_true rfl | omega) (by first | exact Nat.le_of_ble_eq_true rfl | omega) ?_
    exact W.vret hx hb hr (fun t ht hW => ⟨⟨(u.1, u.2.1, u.2.2, bz), rfl, ⟨hu2, hu4⟩, by rw [ht]; exact hP, hD⟩, hS.F ht⟩) hS.2.2 dJ5_setLength_d00df_81 hlocks
  · refine lv_aload_n hx hb dJ5_setLength_d00df_63 rfl (lv_at hl 0 rfl) ?_
    refine k_get (v := .int (nI bn)) (C := RJ4) (T := TJ4) (N := 4) hx hb hts inJ5_setLength_d00df_J4 hown hK hP 0 rfl rfl 3 (by decide) lkJ5_setLength_d00df_79 rfl dJ5_setLength_d00df_64 ?_
    refine lv_iload_n hx hb dJ5_setLength_d00df_67 rfl (lv_at hl 1 rfl) ?_
    refine lv_icmp_le (tgt := 76) hx hb dJ5_setLength_d00df_68 (by decide) (fun c => absurd c (nI_ge (by omega) (by omega))) (fun _ => ?_)
    refine lv_aload_n hx hb dJ5_setLength_d00df_71 rfl (lv_at hl 0 rfl) ?_
    refine lv_iconst (v := 1) hx hb dJ5_setLength_d00df_72 rfl ?_
    refine k_put (v := .int 1) (ty := .boolean) (C := RJ4) (T := TJ4) (N := 4) hx hb hts inJ5_setLength_d00df_J4 tyJ4 tyJ4_ok nmJ4 hown hK hP hD hS 0 rfl rfl 2 (by decide) lkJ5_setLength_d00df_73 rfl (by decide +kernel) rfl rfl (Nat.le_of_ble_eq_true rfl) (ws' := [(gb, .inr (5, [.ref u.1, .int 0, .int 1, .int (nI bn)])), (u.1, .inl (cy 3, u.2.1, .inl u.2.2))]) rfl dJ5_setLength_d00df_73 (fun H locs hP hD hS => ?_)
    refine lv_aload_n hx hb dJ5_setLength_d00df_76 rfl (lv_at hl 0 rfl) ?_
    refine lv_iload_n hx hb dJ5_setLength_d00df_77 rfl (lv_at hl 1 rfl) ?_
    refine k_put (v := .int (nI 0)) (ty := .int) (C := RJ4) (T := TJ4) (N := 4) hx hb hts inJ5_setLength_d00df_J4 tyJ4 tyJ4_ok nmJ4 hown hK hP hD hS 0 rfl rfl 3 (by decide) lkJ5_setLength_d00df_79 rfl (by decide +kernel) rfl rfl (Nat.le_of_ble_eq_true rfl) (ws' := [(gb, .inr (5, [.ref u.1, .int 0, .int 1, .int (nI 0)])), (u.1, .inl (cy 3, u.2.1, .inl u.2.2))]) rfl dJ5_setLength_d00df_78 (fun H locs hP hD hS => ?_)
    refine W.widen (k := 1) (n := 1100) (by first | exact Nat.le_of_ble_eq_true rfl | omega) (by first | exact Nat.le_of_ble_eq_true rfl | omega) ?_
    exact W.vret hx hb hr (fun t ht hW => ⟨⟨(u.1, u.2.1, u.2.2, 1), rfl, ⟨hu2, hu4⟩, by rw [ht]; exact hP, hD⟩, hS.F ht⟩) hS.2.2 dJ5_setLength_d00df_81 hlocks
theorem hpJ5_setLength_d00df : yJ5_setLength_d00df.name ≠ "<init>" ∧ (parseMethodDescriptor yJ5_setLength_d00df.desc).map (fun d => d.parameters.length) = some 1 := by decide +kernel
abbrev rmJ4_setLength_d00df : Room := { frames := 5, cells := 1, slots := 1100, locals := 250 }
set_option maxHeartbeats 4000000 in
set_option maxRecDepth 100000 in
theorem cJ4_setLength_d00dfM (l : Launch) (D : va_G) (cy : Nat → ClassId) (za zv : Nat → Nat) (Y : YB) (sz : Nat) (gb bv bm : Nat) (ba : Nat → Int32) (bn : Nat) (bz : Int32) (hm : bm ≤ 1100) (hn : bn ≤ bm) (hf : sb_Fit ba) : Met l yJ4_setLength_d00df wsJ4_setLength_d00df rmJ4_setLength_d00df (va_Pc [.ref gb, .int (nI 0)] (kPreY D cy za zv Y sz ([(gb, .inr (5, [.ref bv, .int 0, .int bz, .int (nI bn)])), (bv, .inl (cy 3, bm, .inl ba))]))) (va_Qv (fun u : Nat × Nat × (Nat → Int32) × Int32 => u.2.1 ≤ 1100 ∧ sb_Fit u.2.2.1) (fun u => kPost D (va_A ([(gb, .inr (5, [.ref bv, .int 0, .int bz, .int (nI bn)])), (bv, .inl (cy 3, bm, .inl ba))]) sz) ([(gb, .inr (5, [.ref u.1, .int 0, .int u.2.2.2, .int (nI 0)])), (u.1, .inl (cy 3, u.2.1, .inl u.2.2.1))])) (va_A ([(gb, .inr (5, [.ref bv, .int 0, .int bz, .int (nI bn)])), (bv, .inl (cy 3, bm, .inl ba))]) sz)) 1 1100 (va_A ([(gb, .inr (5, [.ref bv, .int 0, .int bz, .int (nI bn)])), (bv, .inl (cy 3, bm, .inl ba))]) sz) := by
  refine Met.ofW (cc := cJ4_setLength_d00df) (maxL := 2) (ret := none) (by decide) rfl ?_
  intro p e s m args below meth c s₁ B hml hv
  obtain ⟨rfl, ⟨⟨⟨hsz, hP, hK, hD0⟩, hZ⟩, hY⟩⟩ := hv
  subst hsz
  have hx := B.exec
  have hb := B.bytes
  have hr := B.returns
  have hts := atoms_spec (ws := wsJ4_setLength_d00df) B.pre
  have hown : s.vm.findClass RJ4 = some m.cls := findClass_of_methodNamed B.named
  have hlocks := B.notSynchronized
  have hA : ∀ q, s.heap.size ≤ q → va_A ([(gb, .inr (5, [.ref bv, .int 0, .int bz, .int (nI bn)])), (bv, .inl (cy 3, bm, .inl ba))]) s.heap.size q := fun q h => Or.inr h
  have hS : va_S (va_A ([(gb, .inr (5, [.ref bv, .int 0, .int bz, .int (nI bn)])), (bv, .inl (cy 3, bm, .inl ba))]) s.heap.size) s.heap s.heap [] := va_S.rf
  have hD : va_D (va_A ([(gb, .inr (5, [.ref bv, .int 0, .int bz, .int (nI bn)])), (bv, .inl (cy 3, bm, .inl ba))]) s.heap.size) ([(gb, .inr (5, [.ref bv, .int 0, .int bz, .int (nI bn)])), (bv, .inl (cy 3, bm, .inl ba))]) := hD0.self
  have hl := lv_entry ([.ref gb, .int (nI 0)]) (n := 2) (Nat.le_of_ble_eq_true rfl)
  rw [lg_entry_eq]
  generalize (lg_sl ([.ref gb, .int (nI 0)]) ++ List.replicate (2 - (lg_sl ([.ref gb, .int (nI 0)])).length) Slot.unset).toArray = ls at hl ⊢
  have hl : lv_has ls 2 [(0, .ref gb), (1, .int (nI 0))] := hl
  refine lv_aload_n hx hb dJ4_setLength_d00df_0 rfl (lv_at hl 0 rfl) ?_
  refine lv_iload_n hx hb dJ4_setLength_d00df_1 rfl (lv_at hl 1 rfl) ?_
  have hp := (show ([(gb, .inr (5, [.ref bv, .int 0, .int bz, .int (nI bn)])), (bv, .inl (cy 3, bm, .inl ba))] : va_W).Perm ([(gb, .inr (5, [.ref bv, .int 0, .int bz, .int (nI bn)])), (bv, .inl (cy 3, bm, .inl ba))] ++ []) from (List.append_nil _).symm ▸ List.Perm.refl _)
  refine jr_v (va_runSU (hK.1.1 5 _ rfl).2 (b := gb) (As := [.int (nI 0)]) (rest := []) ⟨hx, hb, hml, hown, hts⟩ (cJ5_setLength_d00dfM l D cy za zv Y _ gb bv bm ba bn bz hm hn hf) (va_cwSU 1 hts gJ4_setLength_d00df_J5_setLength_d00df_s333 rfl rfl rfl hpJ5_setLength_d00df ⟨Nat.le_of_ble_eq_true rfl, Nat.le_of_ble_eq_true rfl⟩) (k_preVY hY hZ hS (k_free hp hD hS hA) hK (kP_app.mp (kP_perm hp hP)).1 (kD_app (kD_perm hp hD)).1 (q0 := 0) (ci := 5) rfl rfl) rfl rfl hl.1 rfl (Nat.le_of_ble_eq_true rfl) dJ4_setLength_d00df_2 ⟨by first | exact Nat.le_of_ble_eq_true rfl | omega, by first | exact Nat.le_of_ble_eq_true rfl | (show _ ≤ (_ : Nat); omega)⟩) hp hP hD hS hA (fun u H locs hu3 hP hD hS => ?_)
  replace hP : va_P D kCl ([(gb, .inr (5, [.ref u.1, .int 0, .int u.2.2.2, .int (nI 0)])), (u.1, .inl (cy 3, u.2.1, .inl u.2.2.1))]) H := hP
  replace hD : va_D _ ([(gb, .inr (5, [.ref u.1, .int 0, .int u.2.2.2, .int (nI 0)])), (u.1, .inl (cy 3, u.2.1, .inl u.2.2.1))]) := hD
  refine W.widen (k := 1) (n := 1100) (by first | exact Nat.le_of_ble_eq_true rfl | omega) (by first | exact Nat.le_of_ble_eq_true rfl | omega) ?_
  refine W.widen (k := 1) (n := 1100) (by first | exact Nat.le_of_ble_eq_true rfl | omega) (by first | exact Nat.le_of_ble_eq_true rfl | omega) ?_
  exact W.vret hx hb hr (fun t ht hW => ⟨⟨u, rfl, hu3, by rw [ht]; exact hP, hD⟩, hS.F ht⟩) hS.2.2 dJ4_setLength_d00df_5 hlocks
abbrev rmJ1_canEncode_fc78d : Room := { frames := 0, cells := 0, slots := 0, locals := 0 }
set_option maxHeartbeats 4000000 in
set_option maxRecDepth 100000 in
theorem cJ1_canEncode_fc78dM (l : Launch) (D : va_G) (cy : Nat → ClassId) (za zv : Nat → Nat) (Y : YB) (sz : Nat) (x : Nat) (hx256 : x < 256) : Met l yJ1_canEncode_fc78d wsJ1_canEncode_fc78d rmJ1_canEncode_fc78d (va_Pc [.int (nI x)] (kPreY D cy za zv Y sz ([]))) (va_Qi (fun r (_ : Unit) => r = 1) (fun _ => kPost D (va_A ([]) sz) (([] : va_W))) (va_A ([]) sz)) 0 0 (va_A ([]) sz) := by
  refine Met.ofW (cc := cJ1_canEncode_fc78d) (maxL := 1) (ret := (some .boolean)) (by decide) rfl ?_
  intro p e s m args below meth c s₁ B hml hv
  obtain ⟨rfl, ⟨⟨⟨hsz, hP, hK, hD0⟩, hZ⟩, hY⟩⟩ := hv
  subst hsz
  have hx := B.exec
  have hb := B.bytes
  have hr := B.returns
  have hts := atoms_spec (ws := wsJ1_canEncode_fc78d) B.pre
  have hown : s.vm.findClass RJ1 = some m.cls := findClass_of_methodNamed B.named
  have hlocks := B.notSynchronized
  have hA : ∀ q, s.heap.size ≤ q → va_A ([]) s.heap.size q := fun q h => Or.inr h
  have hS : va_S (va_A ([]) s.heap.size) s.heap s.heap [] := va_S.rf
  have hD : va_D (va_A ([]) s.heap.size) ([]) := hD0.self
  have hl := lv_entry ([.int (nI x)]) (n := 1) (Nat.le_of_ble_eq_true rfl)
  rw [lg_entry_eq]
  generalize (lg_sl ([.int (nI x)]) ++ List.replicate (1 - (lg_sl ([.int (nI x)])).length) Slot.unset).toArray = ls at hl ⊢
  have hl : lv_has ls 1 [(0, .int (nI x))] := hl
  refine lv_iload_n hx hb dJ1_canEncode_fc78d_0 rfl (lv_at hl 0 rfl) ?_
  refine lv_sipush (v := 255) hx hb dJ1_canEncode_fc78d_1 rfl ?_
  refine lv_icmp_gt (tgt := 11) hx hb dJ1_canEncode_fc78d_4 (by decide) (fun c => absurd c (nI_nlt (a := 255) (by omega) (by decide))) (fun _ => ?_)
  refine lv_iconst (v := 1) hx hb dJ1_canEncode_fc78d_7 rfl ?_
  refine lv_goto (tgt := 12) hx hb dJ1_canEncode_fc78d_8 (by decide) ?_
  exact W.zret hx hb hr (rfl) (fun t ht hW => ⟨⟨1, (), rfl, rfl, by rw [ht]; exact hP, hD⟩, hS.F ht⟩) hS.2.2 dJ1_canEncode_fc78d_12 hlocks
theorem lkJ5_append_3fe6f_79 : Cond.fieldLink RJ5 79 "java/lang/AbstractStringBuilder" "count" "I" ∈ wsJ5_append_3fe6f := List.mem_of_getElem? (i := 1) rfl
theorem inJ5_append_3fe6f_J4 : ∀ w ∈ u_ws RJ4 TJ4 4, w ∈ wsJ5_append_3fe6f := k_lays 108 rfl
theorem heJ1_canEncode_fc78d : yJ1_canEncode_fc78d.cls ≠ "java/lang/invoke/MethodHandle" ∧ yJ1_canEncode_fc78d.cls ≠ "java/lang/invoke/VarHandle" ∧ (parseMethodDescriptor yJ1_canEncode_fc78d.desc).map (fun d => d.parameters.length) = some 1 := by decide +kernel
theorem lkJ5_append_3fe6f_15 : Cond.fieldLink RJ5 15 "java/lang/AbstractStringBuilder" "value" "[B" ∈ wsJ5_append_3fe6f := List.mem_of_getElem? (i := 2) rfl
abbrev rmJ5_append_3fe6f : Room := { frames := 4, cells := 1, slots := 1100, locals := 200 }
set_option maxHeartbeats 4000000 in
set_option maxRecDepth 100000 in
theorem cJ5_append_3fe6fM (l : Launch) (D : va_G) (cy : Nat → ClassId) (za zv : Nat → Nat) (Y : YB) (sz : Nat) (gb bv bm : Nat) (ba : Nat → Int32) (bn : Nat) (bz : Int32) (x : Nat) (hx256 : x < 256) (hq : bn + 1 ≤ 520) (hm : bm ≤ 1100) (hn : bn ≤ bm) (hf : sb_Fit ba) : Met l yJ5_append_3fe6f wsJ5_append_3fe6f rmJ5_append_3fe6f (va_Pc [.ref gb, .int (nI x)] (kPreY D cy za zv Y sz ([(gb, .inr (5, [.ref bv, .int 0, .int bz, .int (nI bn)])), (bv, .inl (cy 3, bm, .inl ba))]))) (va_Qr (fun u : Nat × Nat × (Nat → Int32) => jApp ba bn 1 (fun _ => x) u) (fun u ra t => ra = gb ∧ kPost D (va_A ([(gb, .inr (5, [.ref bv, .int 0, .int bz, .int (nI bn)])), (bv, .inl (cy 3, bm, .inl ba))]) sz) ([(gb, .inr (5, [.ref u.1, .int 0, .int bz, .int (nI (bn + 1))])), (u.1, .inl (cy 3, u.2.1, .inl u.2.2))]) t) (va_A ([(gb, .inr (5, [.ref bv, .int 0, .int bz, .int (nI bn)])), (bv, .inl (cy 3, bm, .inl ba))]) sz)) 1 1100 (va_A ([(gb, .inr (5, [.ref bv, .int 0, .int bz, .int (nI bn)])), (bv, .inl (cy 3, bm, .inl ba))]) sz) := by
  refine Met.ofW (cc := cJ5_append_3fe6f) (maxL := 2) (ret := (some (.object "java/lang/AbstractStringBuilder"))) (by decide) rfl ?_
  intro p e s m args below meth c s₁ B hml hv
  obtain ⟨rfl, ⟨⟨⟨hsz, hP, hK, hD0⟩, hZ⟩, hY⟩⟩ := hv
  subst hsz
  have hx := B.exec
  have hb := B.bytes
  have hr := B.returns
  have hts := atoms_spec (ws := wsJ5_append_3fe6f) B.pre
  have hown : s.vm.findClass RJ5 = some m.cls := findClass_of_methodNamed B.named
  have hlocks := B.notSynchronized
  have hA : ∀ q, s.heap.size ≤ q → va_A ([(gb, .inr (5, [.ref bv, .int 0, .int bz, .int (nI bn)])), (bv, .inl (cy 3, bm, .inl ba))]) s.heap.size q := fun q h => Or.inr h
  have hS : va_S (va_A ([(gb, .inr (5, [.ref bv, .int 0, .int bz, .int (nI bn)])), (bv, .inl (cy 3, bm, .inl ba))]) s.heap.size) s.heap s.heap [] := va_S.rf
  have hD : va_D (va_A ([(gb, .inr (5, [.ref bv, .int 0, .int bz, .int (nI bn)])), (bv, .inl (cy 3, bm, .inl ba))]) s.heap.size) ([(gb, .inr (5, [.ref bv, .int 0, .int bz, .int (nI bn)])), (bv, .inl (cy 3, bm, .inl ba))]) := hD0.self
  have hl := lv_entry ([.ref gb, .int (nI x)]) (n := 2) (Nat.le_of_ble_eq_true rfl)
  rw [lg_entry_eq]
  generalize (lg_sl ([.ref gb, .int (nI x)]) ++ List.replicate (2 - (lg_sl ([.ref gb, .int (nI x)])).length) Slot.unset).toArray = ls at hl ⊢
  have hl : lv_has ls 2 [(0, .ref gb), (1, .int (nI x))] := hl
  refine lv_aload_n hx hb dJ5_append_3fe6f_0 rfl (lv_at hl 0 rfl) ?_
  refine lv_aload_n hx hb dJ5_append_3fe6f_1 rfl (lv_at hl 0 rfl) ?_
  refine k_get (v := .int (nI bn)) (C := RJ4) (T := TJ4) (N := 4) hx hb hts inJ5_append_3fe6f_J4 hown hK hP 0 rfl rfl 3 (by decide) lkJ5_append_3fe6f_79 rfl dJ5_append_3fe6f_2 ?_
  refine lv_iconst (v := 1) hx hb dJ5_append_3fe6f_5 rfl ?_
  refine lv_iadd hx hb dJ5_append_3fe6f_6 ?_
  rw [show (((nI bn)) + (1) : Int32) = nI (bn + 1) from nI_1 _]
  have hp := (show ([(gb, .inr (5, [.ref bv, .int 0, .int bz, .int (nI bn)])), (bv, .inl (cy 3, bm, .inl ba))] : va_W).Perm ([(gb, .inr (5, [.ref bv, .int 0, .int bz, .int (nI bn)])), (bv, .inl (cy 3, bm, .inl ba))] ++ []) from (List.append_nil _).symm ▸ List.Perm.refl _)
  refine jr_v (va_runU (b := gb) (As := [.int (nI (bn + 1))]) (rest := []) ⟨hx, hb, hml, hown, hts⟩ (cJ5_ensureCapacityInternal_d00dfM l D cy za zv Y _ gb bv bm ba bn bz (bn + 1) hq hm hf) (va_cwU 1 hts gJ5_append_3fe6f_J5_ensureCapacityInternal_d00df_u100J4 rfl rfl rfl rfl ⟨by decide +kernel, by decide +kernel, by decide +kernel⟩ ⟨Nat.le_of_ble_eq_true rfl, Nat.le_of_ble_eq_true rfl⟩) (k_preVY hY hZ hS (k_free hp hD hS hA) hK (kP_app.mp (kP_perm hp hP)).1 (kD_app (kD_perm hp hD)).1 (q0 := 0) (ci := 5) rfl rfl) rfl rfl hl.1 rfl (Nat.le_of_ble_eq_true rfl) dJ5_append_3fe6f_7 ⟨by first | exact Nat.le_of_ble_eq_true rfl | omega, by first | exact Nat.le_of_ble_eq_true rfl | (show _ ≤ (_ : Nat); omega)⟩) hp hP hD hS hA (fun u H locs hu7 hP hD hS => ?_)
  obtain ⟨hu1, hu2, hu3, hu4, hu5⟩ := hu7
  replace hP : va_P D kCl ([(gb, .inr (5, [.ref u.1, .int 0, .int bz, .int (nI bn)])), (u.1, .inl (cy 3, u.2.1, .inl u.2.2))]) H := hP
  replace hD : va_D _ ([(gb, .inr (5, [.ref u.1, .int 0, .int bz, .int (nI bn)])), (u.1, .inl (cy 3, u.2.1, .inl u.2.2))]) := hD
  refine W.widen (k := 1) (n := 1100) (by first | exact Nat.le_of_ble_eq_true rfl | omega) (by first | exact Nat.le_of_ble_eq_true rfl | omega) ?_
  refine lv_aload_n hx hb dJ5_append_3fe6f_10 rfl (lv_at hl 0 rfl) ?_
  have hp := (show ([(gb, .inr (5, [.ref u.1, .int 0, .int bz, .int (nI bn)])), (u.1, .inl (cy 3, u.2.1, .inl u.2.2))] : va_W).Perm ([(gb, .inr (5, [.ref u.1, .int 0, .int bz, .int (nI bn)])), (u.1, .inl (cy 3, u.2.1, .inl u.2.2))] ++ []) from (List.append_nil _).symm ▸ List.Perm.refl _)
  refine jr_i (va_runU (b := gb) (As := []) (rest := []) ⟨hx, hb, hml, hown, hts⟩ (cJ5_isLatin1_aae02M l D cy za zv Y _ gb u.1 u.2.1 u.2.2 bn bz) (va_cwU 0 hts gJ5_append_3fe6f_J5_isLatin1_aae02_u83J4 rfl rfl rfl rfl ⟨by decide +kernel, by decide +kernel, by decide +kernel⟩ ⟨Nat.le_of_ble_eq_true rfl, Nat.le_of_ble_eq_true rfl⟩) (k_preVY hY hZ hS (k_free hp hD hS hA) hK (kP_app.mp (kP_perm hp hP)).1 (kD_app (kD_perm hp hD)).1 (q0 := 0) (ci := 5) rfl rfl) rfl rfl hl.1 rfl (Nat.le_of_ble_eq_true rfl) dJ5_append_3fe6f_11 ⟨by first | exact Nat.le_of_ble_eq_true rfl | omega, by first | exact Nat.le_of_ble_eq_true rfl | (show _ ≤ (_ : Nat); omega)⟩) hp hP hD hS hA (fun r u9 H locs hu914 hP hD hS => ?_)
  subst hu914
  replace hP : va_P D kCl ([(gb, .inr (5, [.ref u.1, .int 0, .int bz, .int (nI bn)])), (u.1, .inl (cy 3, u.2.1, .inl u.2.2))]) H := hP
  replace hD : va_D _ ([(gb, .inr (5, [.ref u.1, .int 0, .int bz, .int (nI bn)])), (u.1, .inl (cy 3, u.2.1, .inl u.2.2))]) := hD
  refine lv_if_eq (tgt := 45) hx hb dJ5_append_3fe6f_14 (by decide) (fun c => absurd c (by decide)) (fun _ => ?_)
  refine lv_iload_n hx hb dJ5_append_3fe6f_17 rfl (lv_at hl 1 rfl) ?_
  have hp := (show ([(gb, .inr (5, [.ref u.1, .int 0, .int bz, .int (nI bn)])), (u.1, .inl (cy 3, u.2.1, .inl u.2.2))] : va_W).Perm ([] ++ [(gb, .inr (5, [.ref u.1, .int 0, .int bz, .int (nI bn)])), (u.1, .inl (cy 3, u.2.1, .inl u.2.2))]) from List.Perm.refl _)
  refine jr_i (va_runS (As := [.int (nI x)]) (rest := []) ⟨hx, hb, hml, hown, hts⟩ (cJ1_canEncode_fc78dM l D cy za zv Y _ x hx256) (va_cwS 1 hts gJ5_append_3fe6f_J1_canEncode_fc78d rfl rfl rfl heJ1_canEncode_fc78d ⟨Nat.le_of_ble_eq_true rfl, Nat.le_of_ble_eq_true rfl⟩) (k_preSY hY hZ hS (k_free hp hD hS hA) hK (kP_app.mp (kP_perm hp hP)).1 (kD_app (kD_perm hp hD)).1) rfl rfl hl.1 rfl (Nat.le_of_ble_eq_true rfl) dJ5_append_3fe6f_18 ⟨by first | exact Nat.le_of_ble_eq_true rfl | omega, by first | exact Nat.le_of_ble_eq_true rfl | (show _ ≤ (_ : Nat); omega)⟩) hp hP hD hS hA (fun r u9 H locs hu921 hP hD hS => ?_)
  subst hu921
  replace hP : va_P D kCl ([(gb, .inr (5, [.ref u.1, .int 0, .int bz, .int (nI bn)])), (u.1, .inl (cy 3, u.2.1, .inl u.2.2))]) H := hP
  replace hD : va_D _ ([(gb, .inr (5, [.ref u.1, .int 0, .int bz, .int (nI bn)])), (u.1, .inl (cy 3, u.2.1, .inl u.2.2))]) := hD
  refine lv_if_eq (tgt := 45) hx hb dJ5_append_3fe6f_21 (by decide) (fun c => absurd c (by decide)) (fun _ => ?_)
  refine lv_aload_n hx hb dJ5_append_3fe6f_24 rfl (lv_at hl 0 rfl) ?_
  refine k_get (v := .ref u.1) (C := RJ4) (T := TJ4) (N := 4) hx hb hts inJ5_append_3fe6f_J4 hown hK hP 0 rfl rfl 0 (by decide) lkJ5_append_3fe6f_15 rfl dJ5_append_3fe6f_25 ?_
  refine lv_aload_n hx hb dJ5_append_3fe6f_28 rfl (lv_at hl 0 rfl) ?_
  refine lv_dup hx hb dJ5_append_3fe6f_29 rfl ?_
  refine k_get (v := .int (nI bn)) (C := RJ4) (T := TJ4) (N := 4) hx hb hts inJ5_append_3fe6f_J4 hown hK hP 0 rfl rfl 3 (by decide) lkJ5_append_3fe6f_79 rfl dJ5_append_3fe6f_30 ?_
  refine lv_dup_x1 hx hb dJ5_append_3fe6f_33 rfl rfl ?_
  refine lv_iconst (v := 1) hx hb dJ5_append_3fe6f_34 rfl ?_
  refine lv_iadd hx hb dJ5_append_3fe6f_35 ?_
  rw [show (((nI bn)) + (1) : Int32) = nI (bn + 1) from nI_1 _]
  refine k_put (v := .int (nI (bn + 1))) (ty := .int) (C := RJ4) (T := TJ4) (N := 4) hx hb hts inJ5_append_3fe6f_J4 tyJ4 tyJ4_ok nmJ4 hown hK hP hD hS 0 rfl rfl 3 (by decide) lkJ5_append_3fe6f_79 rfl (by decide +kernel) rfl rfl (Nat.le_of_ble_eq_true rfl) (ws' := [(gb, .inr (5, [.ref u.1, .int 0, .int bz, .int (nI (bn + 1))])), (u.1, .inl (cy 3, u.2.1, .inl u.2.2))]) rfl dJ5_append_3fe6f_36 (fun H locs hP hD hS => ?_)
  refine lv_iload_n hx hb dJ5_append_3fe6f_39 rfl (lv_at hl 1 rfl) ?_
  refine lv_i2b (v := ((nI x)).toInt8.toInt32) hx hb dJ5_append_3fe6f_40 rfl ?_
  refine va_bast hx hb hK.1 hP hD hS 1 3 rfl rfl (vp_in_nI (n := bn) (by omega) (by omega)) dJ5_append_3fe6f_41 (fun H locs hP hD hS => ?_)
  have eb : upd (u.2.2) (nI (bn)).toNatClampNeg (vp_nar .byte ((((nI x)).toInt8.toInt32))) = upd u.2.2 bn (sb_b x) := by rw [nI_clamp (by omega)]; exact congrArg _ (pk_vb _)
  rw [eb] at hP hD
  replace hP : va_P D kCl ([(gb, .inr (5, [.ref u.1, .int 0, .int bz, .int (nI (bn + 1))])), (u.1, .inl (cy 3, u.2.1, .inl (upd u.2.2 bn (sb_b x))))]) H := hP
  replace hD : va_D _ ([(gb, .inr (5, [.ref u.1, .int 0, .int bz, .int (nI (bn + 1))])), (u.1, .inl (cy 3, u.2.1, .inl (upd u.2.2 bn (sb_b x))))]) := hD
  refine lv_goto (tgt := 75) hx hb dJ5_append_3fe6f_42 (by decide) ?_
  refine lv_aload_n hx hb dJ5_append_3fe6f_75 rfl (lv_at hl 0 rfl) ?_
  refine W.widen (k := 1) (n := 1100) (by first | exact Nat.le_of_ble_eq_true rfl | omega) (by first | exact Nat.le_of_ble_eq_true rfl | omega) ?_
  exact W.aret hx hb hr (Or.inl ⟨_, rfl⟩) (Or.inr ⟨_, rfl⟩) (fun t ht hW => ⟨⟨(u.1, u.2.1, upd u.2.2 bn (sb_b x)), gb, rfl, ⟨hu1, hu2, sb_fitU hu4 (sb_fitB x), fun j hj => (pk_un (by omega)).trans (hu5 j (by omega)), fun i hi => by obtain rfl : i = 0 := (by omega); exact pk_us⟩, rfl, by rw [ht]; exact hP, hD⟩, hS.F ht⟩) hS.2.2 dJ5_append_3fe6f_76 hlocks
theorem hpJ5_append_3fe6f : yJ5_append_3fe6f.name ≠ "<init>" ∧ (parseMethodDescriptor yJ5_append_3fe6f.desc).map (fun d => d.parameters.length) = some 1 := by decide +kernel
abbrev rmJ4_append_cf468 : Room := { frames := 6, cells := 1, slots := 1100, locals := 300 }
set_option maxHeartbeats 4000000 in
set_option maxRecDepth 100000 in
theorem cJ4_append_cf468M (l : Launch) (D : va_G) (cy : Nat → ClassId) (za zv : Nat → Nat) (Y : YB) (sz : Nat) (gb bv bm : Nat) (ba : Nat → Int32) (bn : Nat) (bz : Int32) (x : Nat) (hx256 : x < 256) (hq : bn + 1 ≤ 520) (hm : bm ≤ 1100) (hn : bn ≤ bm) (hf : sb_Fit ba) : Met l yJ4_append_cf468 wsJ4_append_cf468 rmJ4_append_cf468 (va_Pc [.ref gb, .int (nI x)] (kPreY D cy za zv Y sz ([(gb, .inr (5, [.ref bv, .int 0, .int bz, .int (nI bn)])), (bv, .inl (cy 3, bm, .inl ba))]))) (va_Qr (fun u : Nat × Nat × (Nat → Int32) => jApp ba bn 1 (fun _ => x) u) (fun u ra t => ra = gb ∧ kPost D (va_A ([(gb, .inr (5, [.ref bv, .int 0, .int bz, .int (nI bn)])), (bv, .inl (cy 3, bm, .inl ba))]) sz) ([(gb, .inr (5, [.ref u.1, .int 0, .int bz, .int (nI (bn + 1))])), (u.1, .inl (cy 3, u.2.1, .inl u.2.2))]) t) (va_A ([(gb, .inr (5, [.ref bv, .int 0, .int bz, .int (nI bn)])), (bv, .inl (cy 3, bm, .inl ba))]) sz)) 1 1100 (va_A ([(gb, .inr (5, [.ref bv, .int 0, .int bz, .int (nI bn)])), (bv, .inl (cy 3, bm, .inl ba))]) sz) := by
  refine Met.ofW (cc := cJ4_append_cf468) (maxL := 2) (ret := (some (.object "java/lang/StringBuilder"))) (by decide) rfl ?_
  intro p e s m args below meth c s₁ B hml hv
  obtain ⟨rfl, ⟨⟨⟨hsz, hP, hK, hD0⟩, hZ⟩, hY⟩⟩ := hv
  subst hsz
  have hx := B.exec
  have hb := B.bytes
  have hr := B.returns
  have hts := atoms_spec (ws := wsJ4_append_cf468) B.pre
  have hown : s.vm.findClass RJ4 = some m.cls := findClass_of_methodNamed B.named
  have hlocks := B.notSynchronized
  have hA : ∀ q, s.heap.size ≤ q → va_A ([(gb, .inr (5, [.ref bv, .int 0, .int bz, .int (nI bn)])), (bv, .inl (cy 3, bm, .inl ba))]) s.heap.size q := fun q h => Or.inr h
  have hS : va_S (va_A ([(gb, .inr (5, [.ref bv, .int 0, .int bz, .int (nI bn)])), (bv, .inl (cy 3, bm, .inl ba))]) s.heap.size) s.heap s.heap [] := va_S.rf
  have hD : va_D (va_A ([(gb, .inr (5, [.ref bv, .int 0, .int bz, .int (nI bn)])), (bv, .inl (cy 3, bm, .inl ba))]) s.heap.size) ([(gb, .inr (5, [.ref bv, .int 0, .int bz, .int (nI bn)])), (bv, .inl (cy 3, bm, .inl ba))]) := hD0.self
  have hl := lv_entry ([.ref gb, .int (nI x)]) (n := 2) (Nat.le_of_ble_eq_true rfl)
  rw [lg_entry_eq]
  generalize (lg_sl ([.ref gb, .int (nI x)]) ++ List.replicate (2 - (lg_sl ([.ref gb, .int (nI x)])).length) Slot.unset).toArray = ls at hl ⊢
  have hl : lv_has ls 2 [(0, .ref gb), (1, .int (nI x))] := hl
  refine lv_aload_n hx hb dJ4_append_cf468_0 rfl (lv_at hl 0 rfl) ?_
  refine lv_iload_n hx hb dJ4_append_cf468_1 rfl (lv_at hl 1 rfl) ?_
  have hp := (show ([(gb, .inr (5, [.ref bv, .int 0, .int bz, .int (nI bn)])), (bv, .inl (cy 3, bm, .inl ba))] : va_W).Perm ([(gb, .inr (5, [.ref bv, .int 0, .int bz, .int (nI bn)])), (bv, .inl (cy 3, bm, .inl ba))] ++ []) from (List.append_nil _).symm ▸ List.Perm.refl _)
  refine jr_t (va_runSU (hK.1.1 5 _ rfl).2 (b := gb) (As := [.int (nI x)]) (rest := []) ⟨hx, hb, hml, hown, hts⟩ (cJ5_append_3fe6fM l D cy za zv Y _ gb bv bm ba bn bz x hx256 hq hm hn hf) (va_cwSU 1 hts gJ4_append_cf468_J5_append_3fe6f_s50 rfl rfl rfl hpJ5_append_3fe6f ⟨Nat.le_of_ble_eq_true rfl, Nat.le_of_ble_eq_true rfl⟩) (k_preVY hY hZ hS (k_free hp hD hS hA) hK (kP_app.mp (kP_perm hp hP)).1 (kD_app (kD_perm hp hD)).1 (q0 := 0) (ci := 5) rfl rfl) rfl rfl hl.1 rfl (Nat.le_of_ble_eq_true rfl) dJ4_append_cf468_2 ⟨by first | exact Nat.le_of_ble_eq_true rfl | omega, by first | exact Nat.le_of_ble_eq_true rfl | (show _ ≤ (_ : Nat); omega)⟩) hp hP hD hS hA (fun u H locs hu3 hP hD hS => ?_)
  replace hP : va_P D kCl ([(gb, .inr (5, [.ref u.1, .int 0, .int bz, .int (nI (bn + 1))])), (u.1, .inl (cy 3, u.2.1, .inl u.2.2))]) H := hP
  replace hD : va_D _ ([(gb, .inr (5, [.ref u.1, .int 0, .int bz, .int (nI (bn + 1))])), (u.1, .inl (cy 3, u.2.1, .inl u.2.2))]) := hD
  refine W.widen (k := 1) (n := 1100) (by first | exact Nat.le_of_ble_eq_true rfl | omega) (by first | exact Nat.le_of_ble_eq_true rfl | omega) ?_
  refine lv_pop hx hb dJ4_append_cf468_5 rfl ?_
  refine lv_aload_n hx hb dJ4_append_cf468_6 rfl (lv_at hl 0 rfl) ?_
  refine W.widen (k := 1) (n := 1100) (by first | exact Nat.le_of_ble_eq_true rfl | omega) (by first | exact Nat.le_of_ble_eq_true rfl | omega) ?_
  exact W.aret hx hb hr (Or.inl ⟨_, rfl⟩) (Or.inr ⟨_, rfl⟩) (fun t ht hW => ⟨⟨u, gb, rfl, hu3, rfl, by rw [ht]; exact hP, hD⟩, hS.F ht⟩) hS.2.2 dJ4_append_cf468_7 hlocks
def jDg (x : Nat) : Nat := if x < 10 then 1 else if x < 100 then 2 else 3
/-- the digits of a number below 1000 -/
def decL (x : Nat) : List Nat := if x < 10 then [48 + x] else if x < 100 then [48 + x / 10, 48 + x % 10] else [48 + x / 100, 48 + x % 100 / 10, 48 + x % 10]
theorem decL_len (x : Nat) : (decL x).length = jDg x := by
  unfold decL jDg
  split
  · rfl
  · split <;> rfl
theorem jd_on : ∀ x, x < 100 → dOn x = sb_b (48 + x % 10) ∧ vp_nar .byte (dOn x) = dOn x := by decide +kernel
theorem jd_te : ∀ x, x < 100 → dTe x = sb_b (48 + x / 10) ∧ vp_nar .byte (dTe x) = dTe x := by decide +kernel
abbrev rmJ6_stringSize_0f7a4 : Room := { frames := 0, cells := 0, slots := 0, locals := 0 }
set_option maxHeartbeats 4000000 in
set_option maxRecDepth 100000 in
theorem cJ6_stringSize_0f7a4M (l : Launch) (D : va_G) (cy : Nat → ClassId) (za zv : Nat → Nat) (Y : YB) (sz : Nat) (x : Nat) (h9 : x < 1000) : Met l yJ6_stringSize_0f7a4 wsJ6_stringSize_0f7a4 rmJ6_stringSize_0f7a4 (va_Pc [.int (nI x)] (kPreY D cy za zv Y sz ([]))) (va_Qi (fun r (_ : Unit) => r = nI (jDg x)) (fun _ => kPost D (va_A ([]) sz) (([] : va_W))) (va_A ([]) sz)) 0 0 (va_A ([]) sz) := by
  refine Met.ofW (cc := cJ6_stringSize_0f7a4) (maxL := 4) (ret := (some .int)) (by decide) rfl ?_
  intro p e s m args below meth c s₁ B hml hv
  obtain ⟨rfl, ⟨⟨⟨hsz, hP, hK, hD0⟩, hZ⟩, hY⟩⟩ := hv
  subst hsz
  have hx := B.exec
  have hb := B.bytes
  have hr := B.returns
  have hts := atoms_spec (ws := wsJ6_stringSize_0f7a4) B.pre
  have hown : s.vm.findClass RJ6 = some m.cls := findClass_of_methodNamed B.named
  have hlocks := B.notSynchronized
  have hA : ∀ q, s.heap.size ≤ q → va_A ([]) s.heap.size q := fun q h => Or.inr h
  have hS : va_S (va_A ([]) s.heap.size) s.heap s.heap [] := va_S.rf
  have hD : va_D (va_A ([]) s.heap.size) ([]) := hD0.self
  have hl := lv_entry ([.int (nI x)]) (n := 4) (Nat.le_of_ble_eq_true rfl)
  rw [lg_entry_eq]
  generalize (lg_sl ([.int (nI x)]) ++ List.replicate (4 - (lg_sl ([.int (nI x)])).length) Slot.unset).toArray = ls at hl ⊢
  have hl : lv_has ls 4 [(0, .int (nI x))] := hl
  rcases (by omega : x < 10 ∨ (10 ≤ x ∧ x < 100) ∨ 100 ≤ x) with hc | hc | hc
  · refine lv_iconst (v := 1) hx hb dJ6_stringSize_0f7a4_0 rfl ?_
    refine lv_istore_n (lv' := [(1, .int 1), (0, .int (nI x))]) hx hb dJ6_stringSize_0f7a4_1 rfl hl (by decide) rfl (fun ls hl => ?_)
    refine lv_iload_n hx hb dJ6_stringSize_0f7a4_2 rfl (lv_at hl 1 rfl) ?_
    refine lv_if_lt (tgt := 11) hx hb dJ6_stringSize_0f7a4_3 (by decide) (fun c => absurd c (nI_pos (by omega))) (fun _ => ?_)
    refine lv_iconst (v := 0) hx hb dJ6_stringSize_0f7a4_6 rfl ?_
    refine lv_istore_n (lv' := [(1, .int 0), (0, .int (nI x))]) hx hb dJ6_stringSize_0f7a4_7 rfl hl (by decide) rfl (fun ls hl => ?_)
    refine lv_iload_n hx hb dJ6_stringSize_0f7a4_8 rfl (lv_at hl 1 rfl) ?_
    refine lv_ineg hx hb dJ6_stringSize_0f7a4_9 ?_
    rw [show (-((nI x)) : Int32) = -nI x from rfl]
    refine lv_istore_n (lv' := [(0, .int (-nI x)), (1, .int 0)]) hx hb dJ6_stringSize_0f7a4_10 rfl hl (by decide) rfl (fun ls hl => ?_)
    refine lv_bipush (v := (-10)) hx hb dJ6_stringSize_0f7a4_11 rfl ?_
    refine lv_istore_n (lv' := [(2, .int (-10)), (0, .int (-nI x)), (1, .int 0)]) hx hb dJ6_stringSize_0f7a4_13 rfl hl (by decide) rfl (fun ls hl => ?_)
    refine lv_iconst (v := 1) hx hb dJ6_stringSize_0f7a4_14 rfl ?_
    refine lv_istore_n (lv' := [(3, .int 1), (2, .int (-10)), (0, .int (-nI x)), (1, .int 0)]) hx hb dJ6_stringSize_0f7a4_15 rfl hl (by decide) rfl (fun ls hl => ?_)
    refine lv_iload_n hx hb dJ6_stringSize_0f7a4_16 rfl (lv_at hl 0 rfl) ?_
    refine lv_bipush (v := 10) hx hb dJ6_stringSize_0f7a4_17 rfl ?_
    refine lv_icmp_ge (tgt := 42) hx hb dJ6_stringSize_0f7a4_19 (by decide) (fun c9 => absurd c9 (by decide)) (fun _ => ?_)
    refine lv_iload_n hx hb dJ6_stringSize_0f7a4_22 rfl (lv_at hl 2 rfl) ?_
    refine lv_iload_n hx hb dJ6_stringSize_0f7a4_23 rfl (lv_at hl 1 rfl) ?_
    refine lv_icmp_le (tgt := 31) hx hb dJ6_stringSize_0f7a4_24 (by decide) (fun c9 => absurd (show -nI x ≤ (-10) from c9) (by rw [show ((-10) : Int32) = -nI 10 from by decide]; exact fun q => absurd ((sb_nle (by omega) (by omega)).mp q) (by omega))) (fun _ => ?_)
    refine lv_iload_n hx hb dJ6_stringSize_0f7a4_27 rfl (lv_at hl 0 rfl) ?_
    refine lv_iload_n hx hb dJ6_stringSize_0f7a4_28 rfl (lv_at hl 3 rfl) ?_
    refine lv_iadd hx hb dJ6_stringSize_0f7a4_29 ?_
    rw [show ((1) + (0) : Int32) = 1 from by decide]
    exact W.iret hx hb hr (fun t ht hW => ⟨⟨1, (), rfl, (by show (1 : Int32) = nI (jDg x); rw [jDg, if_pos (by omega)]; rfl), by rw [ht]; exact hP, hD⟩, hS.F ht⟩) hS.2.2 dJ6_stringSize_0f7a4_30 hlocks
  · refine lv_iconst (v := 1) hx hb dJ6_stringSize_0f7a4_0 rfl ?_
    refine lv_istore_n (lv' := [(1, .int 1), (0, .int (nI x))]) hx hb dJ6_stringSize_0f7a4_1 rfl hl (by decide) rfl (fun ls hl => ?_)
    refine lv_iload_n hx hb dJ6_stringSize_0f7a4_2 rfl (lv_at hl 1 rfl) ?_
    refine lv_if_lt (tgt := 11) hx hb dJ6_stringSize_0f7a4_3 (by decide) (fun c => absurd c (nI_pos (by omega))) (fun _ => ?_)
    refine lv_iconst (v := 0) hx hb dJ6_stringSize_0f7a4_6 rfl ?_
    refine lv_istore_n (lv' := [(1, .int 0), (0, .int (nI x))]) hx hb dJ6_stringSize_0f7a4_7 rfl hl (by decide) rfl (fun ls hl => ?_)
    refine lv_iload_n hx hb dJ6_stringSize_0f7a4_8 rfl (lv_at hl 1 rfl) ?_
    refine lv_ineg hx hb dJ6_stringSize_0f7a4_9 ?_
    rw [show (-((nI x)) : Int32) = -nI x from rfl]
    refine lv_istore_n (lv' := [(0, .int (-nI x)), (1, .int 0)]) hx hb dJ6_stringSize_0f7a4_10 rfl hl (by decide) rfl (fun ls hl => ?_)
    refine lv_bipush (v := (-10)) hx hb dJ6_stringSize_0f7a4_11 rfl ?_
    refine lv_istore_n (lv' := [(2, .int (-10)), (0, .int (-nI x)), (1, .int 0)]) hx hb dJ6_stringSize_0f7a4_13 rfl hl (by decide) rfl (fun ls hl => ?_)
    refine lv_iconst (v := 1) hx hb dJ6_stringSize_0f7a4_14 rfl ?_
    refine lv_istore_n (lv' := [(3, .int 1), (2, .int (-10)), (0, .int (-nI x)), (1, .int 0)]) hx hb dJ6_stringSize_0f7a4_15 rfl hl (by decide) rfl (fun ls hl => ?_)
    refine lv_iload_n hx hb dJ6_stringSize_0f7a4_16 rfl (lv_at hl 0 rfl) ?_
    refine lv_bipush (v := 10) hx hb dJ6_stringSize_0f7a4_17 rfl ?_
    refine lv_icmp_ge (tgt := 42) hx hb dJ6_stringSize_0f7a4_19 (by decide) (fun c9 => absurd c9 (by decide)) (fun _ => ?_)
    refine lv_iload_n hx hb dJ6_stringSize_0f7a4_22 rfl (lv_at hl 2 rfl) ?_
    refine lv_iload_n hx hb dJ6_stringSize_0f7a4_23 rfl (lv_at hl 1 rfl) ?_
    refine lv_icmp_le (tgt := 31) hx hb dJ6_stringSize_0f7a4_24 (by decide) (fun _ => ?_) (fun c9 => absurd (show -nI x ≤ (-10) from by rw [show ((-10) : Int32) = -nI 10 from by decide]; exact (sb_nle (by omega) (by omega)).mpr (by omega)) c9)
    refine lv_bipush (v := 10) hx hb dJ6_stringSize_0f7a4_31 rfl ?_
    refine lv_iload_n hx hb dJ6_stringSize_0f7a4_33 rfl (lv_at hl 1 rfl) ?_
    refine lv_imul hx hb dJ6_stringSize_0f7a4_34 ?_
    rw [show ((10) * ((-10)) : Int32) = (-100) from by decide]
    refine lv_istore_n (lv' := [(2, .int (-100)), (3, .int 1), (0, .int (-nI x)), (1, .int 0)]) hx hb dJ6_stringSize_0f7a4_35 rfl hl (by decide) rfl (fun ls hl => ?_)
    refine lv_iinc (v := 2) (lv' := [(3, .int 2), (2, .int (-100)), (0, .int (-nI x)), (1, .int 0)]) hx hb dJ6_stringSize_0f7a4_36 hl (k := 1) rfl (by decide) (by decide) rfl (fun ls hl => ?_)
    refine lv_goto (tgt := 16) hx hb dJ6_stringSize_0f7a4_39 (by decide) ?_
    refine lv_iload_n hx hb dJ6_stringSize_0f7a4_16 rfl (lv_at hl 0 rfl) ?_
    refine lv_bipush (v := 10) hx hb dJ6_stringSize_0f7a4_17 rfl ?_
    refine lv_icmp_ge (tgt := 42) hx hb dJ6_stringSize_0f7a4_19 (by decide) (fun c9 => absurd c9 (by decide)) (fun _ => ?_)
    refine lv_iload_n hx hb dJ6_stringSize_0f7a4_22 rfl (lv_at hl 2 rfl) ?_
    refine lv_iload_n hx hb dJ6_stringSize_0f7a4_23 rfl (lv_at hl 1 rfl) ?_
    refine lv_icmp_le (tgt := 31) hx hb dJ6_stringSize_0f7a4_24 (by decide) (fun c9 => absurd (show -nI x ≤ (-100) from c9) (by rw [show ((-100) : Int32) = -nI 100 from by decide]; exact fun q => absurd ((sb_nle (by omega) (by omega)).mp q) (by omega))) (fun _ => ?_)
    refine lv_iload_n hx hb dJ6_stringSize_0f7a4_27 rfl (lv_at hl 0 rfl) ?_
    refine lv_iload_n hx hb dJ6_stringSize_0f7a4_28 rfl (lv_at hl 3 rfl) ?_
    refine lv_iadd hx hb dJ6_stringSize_0f7a4_29 ?_
    rw [show ((2) + (0) : Int32) = 2 from by decide]
    exact W.iret hx hb hr (fun t ht hW => ⟨⟨2, (), rfl, (by show (2 : Int32) = nI (jDg x); rw [jDg, if_neg (by omega), if_pos (by omega)]; rfl), by rw [ht]; exact hP, hD⟩, hS.F ht⟩) hS.2.2 dJ6_stringSize_0f7a4_30 hlocks
  · refine lv_iconst (v := 1) hx hb dJ6_stringSize_0f7a4_0 rfl ?_
    refine lv_istore_n (lv' := [(1, .int 1), (0, .int (nI x))]) hx hb dJ6_stringSize_0f7a4_1 rfl hl (by decide) rfl (fun ls hl => ?_)
    refine lv_iload_n hx hb dJ6_stringSize_0f7a4_2 rfl (lv_at hl 1 rfl) ?_
    refine lv_if_lt (tgt := 11) hx hb dJ6_stringSize_0f7a4_3 (by decide) (fun c => absurd c (nI_pos (by omega))) (fun _ => ?_)
    refine lv_iconst (v := 0) hx hb dJ6_stringSize_0f7a4_6 rfl ?_
    refine lv_istore_n (lv' := [(1, .int 0), (0, .int (nI x))]) hx hb dJ6_stringSize_0f7a4_7 rfl hl (by decide) rfl (fun ls hl => ?_)
    refine lv_iload_n hx hb dJ6_stringSize_0f7a4_8 rfl (lv_at hl 1 rfl) ?_
    refine lv_ineg hx hb dJ6_stringSize_0f7a4_9 ?_
    rw [show (-((nI x)) : Int32) = -nI x from rfl]
    refine lv_istore_n (lv' := [(0, .int (-nI x)), (1, .int 0)]) hx hb dJ6_stringSize_0f7a4_10 rfl hl (by decide) rfl (fun ls hl => ?_)
    refine lv_bipush (v := (-10)) hx hb dJ6_stringSize_0f7a4_11 rfl ?_
    refine lv_istore_n (lv' := [(2, .int (-10)), (0, .int (-nI x)), (1, .int 0)]) hx hb dJ6_stringSize_0f7a4_13 rfl hl (by decide) rfl (fun ls hl => ?_)
    refine lv_iconst (v := 1) hx hb dJ6_stringSize_0f7a4_14 rfl ?_
    refine lv_istore_n (lv' := [(3, .int 1), (2, .int (-10)), (0, .int (-nI x)), (1, .int 0)]) hx hb dJ6_stringSize_0f7a4_15 rfl hl (by decide) rfl (fun ls hl => ?_)
    refine lv_iload_n hx hb dJ6_stringSize_0f7a4_16 rfl (lv_at hl 0 rfl) ?_
    refine lv_bipush (v := 10) hx hb dJ6_stringSize_0f7a4_17 rfl ?_
    refine lv_icmp_ge (tgt := 42) hx hb dJ6_stringSize_0f7a4_19 (by decide) (fun c9 => absurd c9 (by decide)) (fun _ => ?_)
    refine lv_iload_n hx hb dJ6_stringSize_0f7a4_22 rfl (lv_at hl 2 rfl) ?_
    refine lv_iload_n hx hb dJ6_stringSize_0f7a4_23 rfl (lv_at hl 1 rfl) ?_
    refine lv_icmp_le (tgt := 31) hx hb dJ6_stringSize_0f7a4_24 (by decide) (fun _ => ?_) (fun c9 => absurd (show -nI x ≤ (-10) from by rw [show ((-10) : Int32) = -nI 10 from by decide]; exact (sb_nle (by omega) (by omega)).mpr (by omega)) c9)
    refine lv_bipush (v := 10) hx hb dJ6_stringSize_0f7a4_31 rfl ?_
    refine lv_iload_n hx hb dJ6_stringSize_0f7a4_33 rfl (lv_at hl 1 rfl) ?_
    refine lv_imul hx hb dJ6_stringSize_0f7a4_34 ?_
    rw [show ((10) * ((-10)) : Int32) = (-100) from by decide]
    refine lv_istore_n (lv' := [(2, .int (-100)), (3, .int 1), (0, .int (-nI x)), (1, .int 0)]) hx hb dJ6_stringSize_0f7a4_35 rfl hl (by decide) rfl (fun ls hl => ?_)
    refine lv_iinc (v := 2) (lv' := [(3, .int 2), (2, .int (-100)), (0, .int (-nI x)), (1, .int 0)]) hx hb dJ6_stringSize_0f7a4_36 hl (k := 1) rfl (by decide) (by decide) rfl (fun ls hl => ?_)
    refine lv_goto (tgt := 16) hx hb dJ6_stringSize_0f7a4_39 (by decide) ?_
    refine lv_iload_n hx hb dJ6_stringSize_0f7a4_16 rfl (lv_at hl 0 rfl) ?_
    refine lv_bipush (v := 10) hx hb dJ6_stringSize_0f7a4_17 rfl ?_
    refine lv_icmp_ge (tgt := 42) hx hb dJ6_stringSize_0f7a4_19 (by decide) (fun c9 => absurd c9 (by decide)) (fun _ => ?_)
    refine lv_iload_n hx hb dJ6_stringSize_0f7a4_22 rfl (lv_at hl 2 rfl) ?_
    refine lv_iload_n hx hb dJ6_stringSize_0f7a4_23 rfl (lv_at hl 1 rfl) ?_
    refine lv_icmp_le (tgt := 31) hx hb dJ6_stringSize_0f7a4_24 (by decide) (fun _ => ?_) (fun c9 => absurd (show -nI x ≤ (-100) from by rw [show ((-100) : Int32) = -nI 100 from by decide]; exact (sb_nle (by omega) (by omega)).mpr (by omega)) c9)
    refine lv_bipush (v := 10) hx hb dJ6_stringSize_0f7a4_31 rfl ?_
    refine lv_iload_n hx hb dJ6_stringSize_0f7a4_33 rfl (lv_at hl 1 rfl) ?_
    refine lv_imul hx hb dJ6_stringSize_0f7a4_34 ?_
    rw [show ((10) * ((-100)) : Int32) = (-1000) from by decide]
    refine lv_istore_n (lv' := [(2, .int (-1000)), (3, .int 2), (0, .int (-nI x)), (1, .int 0)]) hx hb dJ6_stringSize_0f7a4_35 rfl hl (by decide) rfl (fun ls hl => ?_)
    refine lv_iinc (v := 3) (lv' := [(3, .int 3), (2, .int (-1000)), (0, .int (-nI x)), (1, .int 0)]) hx hb dJ6_stringSize_0f7a4_36 hl (k := 1) rfl (by decide) (by decide) rfl (fun ls hl => ?_)
    refine lv_goto (tgt := 16) hx hb dJ6_stringSize_0f7a4_39 (by decide) ?_
    refine lv_iload_n hx hb dJ6_stringSize_0f7a4_16 rfl (lv_at hl 0 rfl) ?_
    refine lv_bipush (v := 10) hx hb dJ6_stringSize_0f7a4_17 rfl ?_
    refine lv_icmp_ge (tgt := 42) hx hb dJ6_stringSize_0f7a4_19 (by decide) (fun c9 => absurd c9 (by decide)) (fun _ => ?_)
    refine lv_iload_n hx hb dJ6_stringSize_0f7a4_22 rfl (lv_at hl 2 rfl) ?_
    refine lv_iload_n hx hb dJ6_stringSize_0f7a4_23 rfl (lv_at hl 1 rfl) ?_
    refine lv_icmp_le (tgt := 31) hx hb dJ6_stringSize_0f7a4_24 (by decide) (fun c9 => absurd (show -nI x ≤ (-1000) from c9) (by rw [show ((-1000) : Int32) = -nI 1000 from by decide]; exact fun q => absurd ((sb_nle (by omega) (by omega)).mp q) (by omega))) (fun _ => ?_)
    refine lv_iload_n hx hb dJ6_stringSize_0f7a4_27 rfl (lv_at hl 0 rfl) ?_
    refine lv_iload_n hx hb dJ6_stringSize_0f7a4_28 rfl (lv_at hl 3 rfl) ?_
    refine lv_iadd hx hb dJ6_stringSize_0f7a4_29 ?_
    rw [show ((3) + (0) : Int32) = 3 from by decide]
    exact W.iret hx hb hr (fun t ht hW => ⟨⟨3, (), rfl, (by show (3 : Int32) = nI (jDg x); rw [jDg, if_neg (by omega), if_neg (by omega)]; rfl), by rw [ht]; exact hP, hD⟩, hS.F ht⟩) hS.2.2 dJ6_stringSize_0f7a4_30 hlocks
theorem jc_fit {a : Nat → Int32} {k x : Nat} {f : Nat → Int32} (h : sb_Fit a) (hx : f x = sb_b (48 + x % 10) ∨ f x = sb_b (48 + x / 10)) : sb_Fit (upd a k (f x)) := sb_fitU h (by rcases hx with e | e <;> (rw [e]; exact sb_fitB _))
theorem jc_1 {ba : Nat → Int32} {q x : Nat} (hf : sb_Fit ba) (hc : x < 10) (hq : 1 ≤ q) : sb_Fit (upd ba (q - 1) (dOn x)) ∧ (∀ j, j < q - jDg x → upd ba (q - 1) (dOn x) j = ba j) ∧ ∀ i, i < jDg x → upd ba (q - 1) (dOn x) (q - jDg x + i) = sb_b ((decL x).getD i 0) := by
  have h1 := (jd_on x (by omega)).1
  have g : jDg x = 1 := by rw [jDg, if_pos hc]
  have gl : decL x = [48 + x] := by rw [decL, if_pos hc]
  rw [g, gl]
  refine ⟨jc_fit hf (Or.inl h1), fun j hj => pk_un (by omega), fun i hi => ?_⟩
  obtain rfl : i = 0 := by omega
  show upd ba (q - 1) (dOn x) (q - 1) = _
  rw [pk_us, h1, Nat.mod_eq_of_lt hc]
  rfl
theorem jc_2 {ba : Nat → Int32} {q x : Nat} (hf : sb_Fit ba) (hc : 10 ≤ x ∧ x < 100) (hq : 2 ≤ q) : sb_Fit (upd (upd ba (q - 1) (dOn x)) (q - 2) (dTe x)) ∧ (∀ j, j < q - jDg x → upd (upd ba (q - 1) (dOn x)) (q - 2) (dTe x) j = ba j) ∧ ∀ i, i < jDg x → upd (upd ba (q - 1) (dOn x)) (q - 2) (dTe x) (q - jDg x + i) = sb_b ((decL x).getD i 0) := by
  have h1 := (jd_on x (by omega)).1
  have h2 := (jd_te x (by omega)).1
  have g : jDg x = 2 := by rw [jDg, if_neg (by omega), if_pos (by omega)]
  have gl : decL x = [48 + x / 10, 48 + x % 10] := by rw [decL, if_neg (by omega), if_pos (by omega)]
  rw [g, gl]
  refine ⟨jc_fit (jc_fit hf (Or.inl h1)) (Or.inr h2), fun j hj => (pk_un (by omega)).trans (pk_un (by omega)), fun i hi => ?_⟩
  rcases (by omega : i = 0 ∨ i = 1) with rfl | rfl
  · show upd _ (q - 2) (dTe x) (q - 2) = _
    rw [pk_us, h2]
    rfl
  · rw [show q - 2 + 1 = q - 1 by omega, pk_un (by omega), pk_us, h1]
    rfl
theorem jc_3 {ba : Nat → Int32} {q x : Nat} (hf : sb_Fit ba) (hc : 100 ≤ x ∧ x < 1000) (hq : 3 ≤ q) : sb_Fit (upd (upd (upd ba (q - 1) (dOn (x % 100))) (q - 2) (dTe (x % 100))) (q - 3) (dOn (x / 100))) ∧ (∀ j, j < q - jDg x → upd (upd (upd ba (q - 1) (dOn (x % 100))) (q - 2) (dTe (x % 100))) (q - 3) (dOn (x / 100)) j = ba j) ∧ ∀ i, i < jDg x → upd (upd (upd ba (q - 1) (dOn (x % 100))) (q - 2) (dTe (x % 100))) (q - 3) (dOn (x / 100)) (q - jDg x + i) = sb_b ((decL x).getD i 0) := by
  have h1 := (jd_on (x % 100) (by omega)).1
  have h2 := (jd_te (x % 100) (by omega)).1
  have h3 := (jd_on (x / 100) (by omega)).1
  have g : jDg x = 3 := by rw [jDg, if_neg (by omega), if_neg (by omega)]
  have gl : decL x = [48 + x / 100, 48 + x % 100 / 10, 48 + x % 10] := by rw [decL, if_neg (by omega), if_neg (by omega)]
  rw [g, gl]
  refine ⟨jc_fit (jc_fit (jc_fit hf (Or.inl h1)) (Or.inr h2)) (Or.inl h3), fun j hj => (pk_un (by omega)).trans ((pk_un (by omega)).trans (pk_un (by omega))), fun i hi => ?_⟩
  rcases (by omega : i = 0 ∨ i = 1 ∨ i = 2) with rfl | rfl | rfl
  · show upd _ (q - 3) _ (q - 3) = _
    rw [pk_us, h3, show x / 100 % 10 = x / 100 by omega]
    rfl
  · rw [show q - 3 + 1 = q - 2 by omega, pk_un (by omega), pk_us, h2]
    rfl
  · rw [show q - 3 + 2 = q - 1 by omega, pk_un (by omega), pk_un (by omega), pk_us, h1, show x % 100 % 10 = x % 10 by omega]
    rfl
theorem lkJ6_getChars_ba4f3_83 : Cond.fieldLink RJ6 83 "java/lang/Integer" "DigitOnes" "[B" ∈ wsJ6_getChars_ba4f3 := List.mem_of_getElem? (i := 1) rfl
theorem lkJ6_getChars_ba4f3_87 : Cond.fieldLink RJ6 87 "java/lang/Integer" "DigitTens" "[B" ∈ wsJ6_getChars_ba4f3 := List.mem_of_getElem? (i := 2) rfl
abbrev rmJ6_getChars_ba4f3 : Room := { frames := 0, cells := 0, slots := 0, locals := 0 }
set_option maxHeartbeats 4000000 in
set_option maxRecDepth 100000 in
theorem cJ6_getChars_ba4f3M (l : Launch) (D : va_G) (cy : Nat → ClassId) (za zv : Nat → Nat) (Y : YB) (sz : Nat) (bv bm : Nat) (ba : Nat → Int32) (q x : Nat) (h9 : x < 1000) (hq : jDg x ≤ q) (hqm : q ≤ bm) (hbm : bm ≤ 1100) (hf : sb_Fit ba) : Met l yJ6_getChars_ba4f3 wsJ6_getChars_ba4f3 rmJ6_getChars_ba4f3 (va_Pc [.int (nI x), .int (nI q), .ref bv] (kPreY D cy za zv Y sz ([(bv, .inl (cy 3, bm, .inl ba))]))) (va_Qi (fun r (u : Nat → Int32) => sb_Fit u ∧ (∀ j, j < q - jDg x → u j = ba j) ∧ ∀ i, i < jDg x → u (q - jDg x + i) = sb_b ((decL x).getD i 0)) (fun u => kPost D (va_A ([(bv, .inl (cy 3, bm, .inl ba))]) sz) ([(bv, .inl (cy 3, bm, .inl u))])) (va_A ([(bv, .inl (cy 3, bm, .inl ba))]) sz)) 0 0 (va_A ([(bv, .inl (cy 3, bm, .inl ba))]) sz) := by
  refine Met.ofW (cc := cJ6_getChars_ba4f3) (maxL := 7) (ret := (some .int)) (by decide) rfl ?_
  intro p e s m args below meth c s₁ B hml hv
  obtain ⟨rfl, ⟨⟨⟨hsz, hP, hK, hD0⟩, hZ⟩, hY⟩⟩ := hv
  subst hsz
  have hx := B.exec
  have hb := B.bytes
  have hr := B.returns
  have hts := atoms_spec (ws := wsJ6_getChars_ba4f3) B.pre
  have hown : s.vm.findClass RJ6 = some m.cls := findClass_of_methodNamed B.named
  have hlocks := B.notSynchronized
  have hA : ∀ q, s.heap.size ≤ q → va_A ([(bv, .inl (cy 3, bm, .inl ba))]) s.heap.size q := fun q h => Or.inr h
  have hS : va_S (va_A ([(bv, .inl (cy 3, bm, .inl ba))]) s.heap.size) s.heap s.heap [] := va_S.rf
  have hD : va_D (va_A ([(bv, .inl (cy 3, bm, .inl ba))]) s.heap.size) ([(bv, .inl (cy 3, bm, .inl ba))]) := hD0.self
  have hl := lv_entry ([.int (nI x), .int (nI q), .ref bv]) (n := 7) (Nat.le_of_ble_eq_true rfl)
  rw [lg_entry_eq]
  generalize (lg_sl ([.int (nI x), .int (nI q), .ref bv]) ++ List.replicate (7 - (lg_sl ([.int (nI x), .int (nI q), .ref bv])).length) Slot.unset).toArray = ls at hl ⊢
  have hl : lv_has ls 7 [(0, .int (nI x)), (1, .int (nI q)), (2, .ref bv)] := hl
  have hg : jDg x = if x < 10 then 1 else if x < 100 then 2 else 3 := rfl
  rcases (by omega : x < 10 ∨ (10 ≤ x ∧ x < 100) ∨ 100 ≤ x) with hc | hc | hc
  · rw [if_pos hc] at hg
    refine lv_iload_n hx hb dJ6_getChars_ba4f3_0 rfl (lv_at hl 1 rfl) ?_
    refine lv_istore (lv' := [(5, .int (nI q)), (0, .int (nI x)), (1, .int (nI q)), (2, .ref bv)]) hx hb dJ6_getChars_ba4f3_1 hl (by decide) rfl (fun ls hl => ?_)
    refine lv_iload_n hx hb dJ6_getChars_ba4f3_3 rfl (lv_at hl 1 rfl) ?_
    refine lv_if_ge (tgt := 11) hx hb dJ6_getChars_ba4f3_4 (by decide) (fun _ => ?_) (fun c => absurd (nI_pos' (by omega)) c)
    refine lv_iconst (v := 0) hx hb dJ6_getChars_ba4f3_11 rfl ?_
    refine lv_istore (lv' := [(6, .int 0), (5, .int (nI q)), (0, .int (nI x)), (1, .int (nI q)), (2, .ref bv)]) hx hb dJ6_getChars_ba4f3_12 hl (by decide) rfl (fun ls hl => ?_)
    refine lv_iload hx hb dJ6_getChars_ba4f3_14 (lv_at hl 0 rfl) ?_
    refine lv_if_ne (tgt := 22) hx hb dJ6_getChars_ba4f3_16 (by decide) (fun c => absurd (rfl) c) (fun _ => ?_)
    refine lv_iload_n hx hb dJ6_getChars_ba4f3_19 rfl (lv_at hl 2 rfl) ?_
    refine lv_ineg hx hb dJ6_getChars_ba4f3_20 ?_
    rw [show (-((nI x)) : Int32) = -nI x from rfl]
    refine lv_istore_n (lv' := [(0, .int (-nI x)), (6, .int 0), (5, .int (nI q)), (1, .int (nI q)), (2, .ref bv)]) hx hb dJ6_getChars_ba4f3_21 rfl hl (by decide) rfl (fun ls hl => ?_)
    refine lv_iload_n hx hb dJ6_getChars_ba4f3_22 rfl (lv_at hl 0 rfl) ?_
    refine lv_bipush (v := (-100)) hx hb dJ6_getChars_ba4f3_23 rfl ?_
    refine lv_icmp_gt (tgt := 72) hx hb dJ6_getChars_ba4f3_25 (by decide) (fun _ => ?_) (fun c9 => absurd (show (-100 : Int32) < -nI (x) from by rw [jx_100]; exact (sb_nlt (by omega) (by omega)).mpr (by omega)) c9)
    refine lv_aload_n hx hb dJ6_getChars_ba4f3_72 rfl (lv_at hl 4 rfl) ?_
    refine lv_iinc (v := nI (q - 1)) (lv' := [(5, .int (nI (q - 1))), (0, .int (-nI x)), (6, .int 0), (1, .int (nI q)), (2, .ref bv)]) hx hb dJ6_getChars_ba4f3_73 hl (k := 2) rfl (sb_m1 (by omega : 0 < q)) (by decide) rfl (fun ls hl => ?_)
    refine lv_iload hx hb dJ6_getChars_ba4f3_76 (lv_at hl 0 rfl) ?_
    refine va_gets hx hb hY.2.2.2.1 hS hown (hts _ lkJ6_getChars_ba4f3_83) (fun _ h => h) dJ6_getChars_ba4f3_78 ?_
    refine lv_iload_n hx hb dJ6_getChars_ba4f3_81 rfl (lv_at hl 1 rfl) ?_
    refine lv_ineg hx hb dJ6_getChars_ba4f3_82 ?_
    rw [show (-((-nI x)) : Int32) = nI (x) from by rw [Int32.neg_neg]]
    refine va_tb hx hb hY.2.2.2.2.1 hS (vp_in_nI (n := x) (by omega) (by decide)) (v := .int (dOn (x))) (by rw [nI_clamp (by omega)]) dJ6_getChars_ba4f3_83 ?_
    refine va_bast hx hb hK.1 hP hD hS 0 3 rfl rfl (vp_in_nI (n := q - 1) (by omega) (by omega)) dJ6_getChars_ba4f3_84 (fun H locs hP hD hS => ?_)
    have eb : upd (ba) (nI (q - 1)).toNatClampNeg (vp_nar .byte ((dOn (x)))) = upd ba (q - 1) (dOn (x)) := by rw [nI_clamp (by omega)]; rw [(jd_on (x) (by omega)).2]
    rw [eb] at hP hD
    replace hP : va_P D kCl ([(bv, .inl (cy 3, bm, .inl (upd ba (q - 1) (dOn (x)))))]) H := hP
    replace hD : va_D _ ([(bv, .inl (cy 3, bm, .inl (upd ba (q - 1) (dOn (x)))))]) := hD
    refine lv_iload_n hx hb dJ6_getChars_ba4f3_85 rfl (lv_at hl 1 rfl) ?_
    refine lv_bipush (v := (-9)) hx hb dJ6_getChars_ba4f3_86 rfl ?_
    refine lv_icmp_ge (tgt := 104) hx hb dJ6_getChars_ba4f3_88 (by decide) (fun _ => ?_) (fun c9 => absurd (show (-9 : Int32) ≤ -nI (x) from by rw [jx_9]; exact (sb_nle (by omega) (by omega)).mpr (by omega)) c9)
    refine lv_iload hx hb dJ6_getChars_ba4f3_104 (lv_at hl 2 rfl) ?_
    refine lv_if_eq (tgt := 118) hx hb dJ6_getChars_ba4f3_106 (by decide) (fun _ => ?_) (fun c => absurd (rfl) c)
    refine lv_iload hx hb dJ6_getChars_ba4f3_118 (lv_at hl 0 rfl) ?_
    exact W.iret hx hb hr (fun t ht hW => ⟨⟨_, upd ba (q - 1) (dOn (x)), rfl, jc_1 hf (by omega) (by omega), by rw [ht]; exact hP, hD⟩, hS.F ht⟩) hS.2.2 dJ6_getChars_ba4f3_120 hlocks
  · rw [if_neg (by omega), if_pos (by omega)] at hg
    refine lv_iload_n hx hb dJ6_getChars_ba4f3_0 rfl (lv_at hl 1 rfl) ?_
    refine lv_istore (lv' := [(5, .int (nI q)), (0, .int (nI x)), (1, .int (nI q)), (2, .ref bv)]) hx hb dJ6_getChars_ba4f3_1 hl (by decide) rfl (fun ls hl => ?_)
    refine lv_iload_n hx hb dJ6_getChars_ba4f3_3 rfl (lv_at hl 1 rfl) ?_
    refine lv_if_ge (tgt := 11) hx hb dJ6_getChars_ba4f3_4 (by decide) (fun _ => ?_) (fun c => absurd (nI_pos' (by omega)) c)
    refine lv_iconst (v := 0) hx hb dJ6_getChars_ba4f3_11 rfl ?_
    refine lv_istore (lv' := [(6, .int 0), (5, .int (nI q)), (0, .int (nI x)), (1, .int (nI q)), (2, .ref bv)]) hx hb dJ6_getChars_ba4f3_12 hl (by decide) rfl (fun ls hl => ?_)
    refine lv_iload hx hb dJ6_getChars_ba4f3_14 (lv_at hl 0 rfl) ?_
    refine lv_if_ne (tgt := 22) hx hb dJ6_getChars_ba4f3_16 (by decide) (fun c => absurd (rfl) c) (fun _ => ?_)
    refine lv_iload_n hx hb dJ6_getChars_ba4f3_19 rfl (lv_at hl 2 rfl) ?_
    refine lv_ineg hx hb dJ6_getChars_ba4f3_20 ?_
    rw [show (-((nI x)) : Int32) = -nI x from rfl]
    refine lv_istore_n (lv' := [(0, .int (-nI x)), (6, .int 0), (5, .int (nI q)), (1, .int (nI q)), (2, .ref bv)]) hx hb dJ6_getChars_ba4f3_21 rfl hl (by decide) rfl (fun ls hl => ?_)
    refine lv_iload_n hx hb dJ6_getChars_ba4f3_22 rfl (lv_at hl 0 rfl) ?_
    refine lv_bipush (v := (-100)) hx hb dJ6_getChars_ba4f3_23 rfl ?_
    refine lv_icmp_gt (tgt := 72) hx hb dJ6_getChars_ba4f3_25 (by decide) (fun _ => ?_) (fun c9 => absurd (show (-100 : Int32) < -nI (x) from by rw [jx_100]; exact (sb_nlt (by omega) (by omega)).mpr (by omega)) c9)
    refine lv_aload_n hx hb dJ6_getChars_ba4f3_72 rfl (lv_at hl 4 rfl) ?_
    refine lv_iinc (v := nI (q - 1)) (lv' := [(5, .int (nI (q - 1))), (0, .int (-nI x)), (6, .int 0), (1, .int (nI q)), (2, .ref bv)]) hx hb dJ6_getChars_ba4f3_73 hl (k := 2) rfl (sb_m1 (by omega : 0 < q)) (by decide) rfl (fun ls hl => ?_)
    refine lv_iload hx hb dJ6_getChars_ba4f3_76 (lv_at hl 0 rfl) ?_
    refine va_gets hx hb hY.2.2.2.1 hS hown (hts _ lkJ6_getChars_ba4f3_83) (fun _ h => h) dJ6_getChars_ba4f3_78 ?_
    refine lv_iload_n hx hb dJ6_getChars_ba4f3_81 rfl (lv_at hl 1 rfl) ?_
    refine lv_ineg hx hb dJ6_getChars_ba4f3_82 ?_
    rw [show (-((-nI x)) : Int32) = nI (x) from by rw [Int32.neg_neg]]
    refine va_tb hx hb hY.2.2.2.2.1 hS (vp_in_nI (n := x) (by omega) (by decide)) (v := .int (dOn (x))) (by rw [nI_clamp (by omega)]) dJ6_getChars_ba4f3_83 ?_
    refine va_bast hx hb hK.1 hP hD hS 0 3 rfl rfl (vp_in_nI (n := q - 1) (by omega) (by omega)) dJ6_getChars_ba4f3_84 (fun H locs hP hD hS => ?_)
    have eb : upd (ba) (nI (q - 1)).toNatClampNeg (vp_nar .byte ((dOn (x)))) = upd ba (q - 1) (dOn (x)) := by rw [nI_clamp (by omega)]; rw [(jd_on (x) (by omega)).2]
    rw [eb] at hP hD
    replace hP : va_P D kCl ([(bv, .inl (cy 3, bm, .inl (upd ba (q - 1) (dOn (x)))))]) H := hP
    replace hD : va_D _ ([(bv, .inl (cy 3, bm, .inl (upd ba (q - 1) (dOn (x)))))]) := hD
    refine lv_iload_n hx hb dJ6_getChars_ba4f3_85 rfl (lv_at hl 1 rfl) ?_
    refine lv_bipush (v := (-9)) hx hb dJ6_getChars_ba4f3_86 rfl ?_
    refine lv_icmp_ge (tgt := 104) hx hb dJ6_getChars_ba4f3_88 (by decide) (fun c9 => absurd (show (-9 : Int32) ≤ -nI (x) from c9) (by rw [jx_9]; exact fun z => absurd ((sb_nle (by omega) (by omega)).mp z) (by omega))) (fun _ => ?_)
    refine lv_aload_n hx hb dJ6_getChars_ba4f3_91 rfl (lv_at hl 4 rfl) ?_
    refine lv_iinc (v := nI (q - 2)) (lv' := [(5, .int (nI (q - 2))), (0, .int (-nI x)), (6, .int 0), (1, .int (nI q)), (2, .ref bv)]) hx hb dJ6_getChars_ba4f3_92 hl (k := 0) rfl (sb_m1 (by omega : 0 < (q - 1))) (by decide) rfl (fun ls hl => ?_)
    refine lv_iload hx hb dJ6_getChars_ba4f3_95 (lv_at hl 0 rfl) ?_
    refine va_gets hx hb hY.2.1 hS hown (hts _ lkJ6_getChars_ba4f3_87) (fun _ h => h) dJ6_getChars_ba4f3_97 ?_
    refine lv_iload_n hx hb dJ6_getChars_ba4f3_100 rfl (lv_at hl 1 rfl) ?_
    refine lv_ineg hx hb dJ6_getChars_ba4f3_101 ?_
    rw [show (-((-nI x)) : Int32) = nI (x) from by rw [Int32.neg_neg]]
    refine va_tb hx hb hY.2.2.1 hS (vp_in_nI (n := x) (by omega) (by decide)) (v := .int (dTe (x))) (by rw [nI_clamp (by omega)]) dJ6_getChars_ba4f3_102 ?_
    refine va_bast hx hb hK.1 hP hD hS 0 3 rfl rfl (vp_in_nI (n := q - 2) (by omega) (by omega)) dJ6_getChars_ba4f3_103 (fun H locs hP hD hS => ?_)
    have eb : upd ((upd ba (q - 1) (dOn (x)))) (nI (q - 2)).toNatClampNeg (vp_nar .byte ((dTe (x)))) = upd (upd ba (q - 1) (dOn (x))) (q - 2) (dTe (x)) := by rw [nI_clamp (by omega)]; rw [(jd_te (x) (by omega)).2]
    rw [eb] at hP hD
    replace hP : va_P D kCl ([(bv, .inl (cy 3, bm, .inl (upd (upd ba (q - 1) (dOn (x))) (q - 2) (dTe (x)))))]) H := hP
    replace hD : va_D _ ([(bv, .inl (cy 3, bm, .inl (upd (upd ba (q - 1) (dOn (x))) (q - 2) (dTe (x)))))]) := hD
    refine lv_iload hx hb dJ6_getChars_ba4f3_104 (lv_at hl 2 rfl) ?_
    refine lv_if_eq (tgt := 118) hx hb dJ6_getChars_ba4f3_106 (by decide) (fun _ => ?_) (fun c => absurd (rfl) c)
    refine lv_iload hx hb dJ6_getChars_ba4f3_118 (lv_at hl 0 rfl) ?_
    exact W.iret hx hb hr (fun t ht hW => ⟨⟨_, upd (upd ba (q - 1) (dOn (x))) (q - 2) (dTe (x)), rfl, jc_2 hf (by omega) (by omega), by rw [ht]; exact hP, hD⟩, hS.F ht⟩) hS.2.2 dJ6_getChars_ba4f3_120 hlocks
  · rw [if_neg (by omega), if_neg (by omega)] at hg
    refine lv_iload_n hx hb dJ6_getChars_ba4f3_0 rfl (lv_at hl 1 rfl) ?_
    refine lv_istore (lv' := [(5, .int (nI q)), (0, .int (nI x)), (1, .int (nI q)), (2, .ref bv)]) hx hb dJ6_getChars_ba4f3_1 hl (by decide) rfl (fun ls hl => ?_)
    refine lv_iload_n hx hb dJ6_getChars_ba4f3_3 rfl (lv_at hl 1 rfl) ?_
    refine lv_if_ge (tgt := 11) hx hb dJ6_getChars_ba4f3_4 (by decide) (fun _ => ?_) (fun c => absurd (nI_pos' (by omega)) c)
    refine lv_iconst (v := 0) hx hb dJ6_getChars_ba4f3_11 rfl ?_
    refine lv_istore (lv' := [(6, .int 0), (5, .int (nI q)), (0, .int (nI x)), (1, .int (nI q)), (2, .ref bv)]) hx hb dJ6_getChars_ba4f3_12 hl (by decide) rfl (fun ls hl => ?_)
    refine lv_iload hx hb dJ6_getChars_ba4f3_14 (lv_at hl 0 rfl) ?_
    refine lv_if_ne (tgt := 22) hx hb dJ6_getChars_ba4f3_16 (by decide) (fun c => absurd (rfl) c) (fun _ => ?_)
    refine lv_iload_n hx hb dJ6_getChars_ba4f3_19 rfl (lv_at hl 2 rfl) ?_
    refine lv_ineg hx hb dJ6_getChars_ba4f3_20 ?_
    rw [show (-((nI x)) : Int32) = -nI x from rfl]
    refine lv_istore_n (lv' := [(0, .int (-nI x)), (6, .int 0), (5, .int (nI q)), (1, .int (nI q)), (2, .ref bv)]) hx hb dJ6_getChars_ba4f3_21 rfl hl (by decide) rfl (fun ls hl => ?_)
    refine lv_iload_n hx hb dJ6_getChars_ba4f3_22 rfl (lv_at hl 0 rfl) ?_
    refine lv_bipush (v := (-100)) hx hb dJ6_getChars_ba4f3_23 rfl ?_
    refine lv_icmp_gt (tgt := 72) hx hb dJ6_getChars_ba4f3_25 (by decide) (fun c9 => absurd (show (-100 : Int32) < -nI (x) from c9) (by rw [jx_100]; exact fun z => absurd ((sb_nlt (by omega) (by omega)).mp z) (by omega))) (fun _ => ?_)
    refine lv_iload_n hx hb dJ6_getChars_ba4f3_28 rfl (lv_at hl 0 rfl) ?_
    refine lv_bipush (v := 100) hx hb dJ6_getChars_ba4f3_29 rfl ?_
    refine lv_idiv hx hb dJ6_getChars_ba4f3_31 (by decide) ?_
    rw [show (((-nI x)) / (100) : Int32) = -nI (x / 100) from sb_ndiv (by omega)]
    refine lv_istore_n (lv' := [(3, .int (-nI (x / 100))), (0, .int (-nI x)), (6, .int 0), (5, .int (nI q)), (1, .int (nI q)), (2, .ref bv)]) hx hb dJ6_getChars_ba4f3_32 rfl hl (by decide) rfl (fun ls hl => ?_)
    refine lv_iload_n hx hb dJ6_getChars_ba4f3_33 rfl (lv_at hl 0 rfl) ?_
    refine lv_bipush (v := 100) hx hb dJ6_getChars_ba4f3_34 rfl ?_
    refine lv_imul hx hb dJ6_getChars_ba4f3_36 ?_
    rw [show (((-nI (x / 100))) * (100) : Int32) = (-nI (x / 100)) * 100 from rfl]
    refine lv_iload_n hx hb dJ6_getChars_ba4f3_37 rfl (lv_at hl 1 rfl) ?_
    refine lv_isub hx hb dJ6_getChars_ba4f3_38 ?_
    rw [show ((((-nI (x / 100)) * 100)) - ((-nI x)) : Int32) = nI (x % 100) from sb_nrem (by omega)]
    refine lv_istore (lv' := [(4, .int (nI (x % 100))), (3, .int (-nI (x / 100))), (0, .int (-nI x)), (6, .int 0), (5, .int (nI q)), (1, .int (nI q)), (2, .ref bv)]) hx hb dJ6_getChars_ba4f3_39 hl (by decide) rfl (fun ls hl => ?_)
    refine lv_iload_n hx hb dJ6_getChars_ba4f3_41 rfl (lv_at hl 1 rfl) ?_
    refine lv_istore_n (lv' := [(0, .int (-nI (x / 100))), (4, .int (nI (x % 100))), (3, .int (-nI (x / 100))), (6, .int 0), (5, .int (nI q)), (1, .int (nI q)), (2, .ref bv)]) hx hb dJ6_getChars_ba4f3_42 rfl hl (by decide) rfl (fun ls hl => ?_)
    refine lv_aload_n hx hb dJ6_getChars_ba4f3_43 rfl (lv_at hl 6 rfl) ?_
    refine lv_iinc (v := nI (q - 1)) (lv' := [(5, .int (nI (q - 1))), (0, .int (-nI (x / 100))), (4, .int (nI (x % 100))), (3, .int (-nI (x / 100))), (6, .int 0), (1, .int (nI q)), (2, .ref bv)]) hx hb dJ6_getChars_ba4f3_44 hl (k := 4) rfl (sb_m1 (by omega : 0 < q)) (by decide) rfl (fun ls hl => ?_)
    refine lv_iload hx hb dJ6_getChars_ba4f3_47 (lv_at hl 0 rfl) ?_
    refine va_gets hx hb hY.2.2.2.1 hS hown (hts _ lkJ6_getChars_ba4f3_83) (fun _ h => h) dJ6_getChars_ba4f3_49 ?_
    refine lv_iload hx hb dJ6_getChars_ba4f3_52 (lv_at hl 2 rfl) ?_
    refine va_tb hx hb hY.2.2.2.2.1 hS (vp_in_nI (n := x % 100) (by omega) (by decide)) (v := .int (dOn (x % 100))) (by rw [nI_clamp (by omega)]) dJ6_getChars_ba4f3_54 ?_
    refine va_bast hx hb hK.1 hP hD hS 0 3 rfl rfl (vp_in_nI (n := q - 1) (by omega) (by omega)) dJ6_getChars_ba4f3_55 (fun H locs hP hD hS => ?_)
    have eb : upd (ba) (nI (q - 1)).toNatClampNeg (vp_nar .byte ((dOn (x % 100)))) = upd ba (q - 1) (dOn (x % 100)) := by rw [nI_clamp (by omega)]; rw [(jd_on (x % 100) (by omega)).2]
    rw [eb] at hP hD
    replace hP : va_P D kCl ([(bv, .inl (cy 3, bm, .inl (upd ba (q - 1) (dOn (x % 100)))))]) H := hP
    replace hD : va_D _ ([(bv, .inl (cy 3, bm, .inl (upd ba (q - 1) (dOn (x % 100)))))]) := hD
    refine lv_aload_n hx hb dJ6_getChars_ba4f3_56 rfl (lv_at hl 6 rfl) ?_
    refine lv_iinc (v := nI (q - 2)) (lv' := [(5, .int (nI (q - 2))), (0, .int (-nI (x / 100))), (4, .int (nI (x % 100))), (3, .int (-nI (x / 100))), (6, .int 0), (1, .int (nI q)), (2, .ref bv)]) hx hb dJ6_getChars_ba4f3_57 hl (k := 0) rfl (sb_m1 (by omega : 0 < (q - 1))) (by decide) rfl (fun ls hl => ?_)
    refine lv_iload hx hb dJ6_getChars_ba4f3_60 (lv_at hl 0 rfl) ?_
    refine va_gets hx hb hY.2.1 hS hown (hts _ lkJ6_getChars_ba4f3_87) (fun _ h => h) dJ6_getChars_ba4f3_62 ?_
    refine lv_iload hx hb dJ6_getChars_ba4f3_65 (lv_at hl 2 rfl) ?_
    refine va_tb hx hb hY.2.2.1 hS (vp_in_nI (n := x % 100) (by omega) (by decide)) (v := .int (dTe (x % 100))) (by rw [nI_clamp (by omega)]) dJ6_getChars_ba4f3_67 ?_
    refine va_bast hx hb hK.1 hP hD hS 0 3 rfl rfl (vp_in_nI (n := q - 2) (by omega) (by omega)) dJ6_getChars_ba4f3_68 (fun H locs hP hD hS => ?_)
    have eb : upd ((upd ba (q - 1) (dOn (x % 100)))) (nI (q - 2)).toNatClampNeg (vp_nar .byte ((dTe (x % 100)))) = upd (upd ba (q - 1) (dOn (x % 100))) (q - 2) (dTe (x % 100)) := by rw [nI_clamp (by omega)]; rw [(jd_te (x % 100) (by omega)).2]
    rw [eb] at hP hD
    replace hP : va_P D kCl ([(bv, .inl (cy 3, bm, .inl (upd (upd ba (q - 1) (dOn (x % 100))) (q - 2) (dTe (x % 100)))))]) H := hP
    replace hD : va_D _ ([(bv, .inl (cy 3, bm, .inl (upd (upd ba (q - 1) (dOn (x % 100))) (q - 2) (dTe (x % 100)))))]) := hD
    refine lv_goto (tgt := 22) hx hb dJ6_getChars_ba4f3_69 (by decide) ?_
    refine lv_iload_n hx hb dJ6_getChars_ba4f3_22 rfl (lv_at hl 1 rfl) ?_
    refine lv_bipush (v := (-100)) hx hb dJ6_getChars_ba4f3_23 rfl ?_
    refine lv_icmp_gt (tgt := 72) hx hb dJ6_getChars_ba4f3_25 (by decide) (fun _ => ?_) (fun c9 => absurd (show (-100 : Int32) < -nI (x / 100) from by rw [jx_100]; exact (sb_nlt (by omega) (by omega)).mpr (by omega)) c9)
    refine lv_aload_n hx hb dJ6_getChars_ba4f3_72 rfl (lv_at hl 6 rfl) ?_
    refine lv_iinc (v := nI (q - 3)) (lv' := [(5, .int (nI (q - 3))), (0, .int (-nI (x / 100))), (4, .int (nI (x % 100))), (3, .int (-nI (x / 100))), (6, .int 0), (1, .int (nI q)), (2, .ref bv)]) hx hb dJ6_getChars_ba4f3_73 hl (k := 0) rfl (sb_m1 (by omega : 0 < (q - 2))) (by decide) rfl (fun ls hl => ?_)
    refine lv_iload hx hb dJ6_getChars_ba4f3_76 (lv_at hl 0 rfl) ?_
    refine va_gets hx hb hY.2.2.2.1 hS hown (hts _ lkJ6_getChars_ba4f3_83) (fun _ h => h) dJ6_getChars_ba4f3_78 ?_
    refine lv_iload_n hx hb dJ6_getChars_ba4f3_81 rfl (lv_at hl 1 rfl) ?_
    refine lv_ineg hx hb dJ6_getChars_ba4f3_82 ?_
    rw [show (-((-nI (x / 100))) : Int32) = nI (x / 100) from by rw [Int32.neg_neg]]
    refine va_tb hx hb hY.2.2.2.2.1 hS (vp_in_nI (n := x / 100) (by omega) (by decide)) (v := .int (dOn (x / 100))) (by rw [nI_clamp (by omega)]) dJ6_getChars_ba4f3_83 ?_
    refine va_bast hx hb hK.1 hP hD hS 0 3 rfl rfl (vp_in_nI (n := q - 3) (by omega) (by omega)) dJ6_getChars_ba4f3_84 (fun H locs hP hD hS => ?_)
    have eb : upd ((upd (upd ba (q - 1) (dOn (x % 100))) (q - 2) (dTe (x % 100)))) (nI (q - 3)).toNatClampNeg (vp_nar .byte ((dOn (x / 100)))) = upd (upd (upd ba (q - 1) (dOn (x % 100))) (q - 2) (dTe (x % 100))) (q - 3) (dOn (x / 100)) := by rw [nI_clamp (by omega)]; rw [(jd_on (x / 100) (by omega)).2]
    rw [eb] at hP hD
    replace hP : va_P D kCl ([(bv, .inl (cy 3, bm, .inl (upd (upd (upd ba (q - 1) (dOn (x % 100))) (q - 2) (dTe (x % 100))) (q - 3) (dOn (x / 100)))))]) H := hP
    replace hD : va_D _ ([(bv, .inl (cy 3, bm, .inl (upd (upd (upd ba (q - 1) (dOn (x % 100))) (q - 2) (dTe (x % 100))) (q - 3) (dOn (x / 100)))))]) := hD
    refine lv_iload_n hx hb dJ6_getChars_ba4f3_85 rfl (lv_at hl 1 rfl) ?_
    refine lv_bipush (v := (-9)) hx hb dJ6_getChars_ba4f3_86 rfl ?_
    refine lv_icmp_ge (tgt := 104) hx hb dJ6_getChars_ba4f3_88 (by decide) (fun _ => ?_) (fun c9 => absurd (show (-9 : Int32) ≤ -nI (x / 100) from by rw [jx_9]; exact (sb_nle (by omega) (by omega)).mpr (by omega)) c9)
    refine lv_iload hx hb dJ6_getChars_ba4f3_104 (lv_at hl 4 rfl) ?_
    refine lv_if_eq (tgt := 118) hx hb dJ6_getChars_ba4f3_106 (by decide) (fun _ => ?_) (fun c => absurd (rfl) c)
    refine lv_iload hx hb dJ6_getChars_ba4f3_118 (lv_at hl 0 rfl) ?_
    exact W.iret hx hb hr (fun t ht hW => ⟨⟨_, upd (upd (upd ba (q - 1) (dOn (x % 100))) (q - 2) (dTe (x % 100))) (q - 3) (dOn (x / 100)), rfl, jc_3 hf (by omega) (by omega), by rw [ht]; exact hP, hD⟩, hS.F ht⟩) hS.2.2 dJ6_getChars_ba4f3_120 hlocks
theorem lkJ5_append_c97b9_79 : Cond.fieldLink RJ5 79 "java/lang/AbstractStringBuilder" "count" "I" ∈ wsJ5_append_c97b9 := List.mem_of_getElem? (i := 1) rfl
theorem inJ5_append_c97b9_J4 : ∀ w ∈ u_ws RJ4 TJ4 4, w ∈ wsJ5_append_c97b9 := k_lays 91 rfl
theorem heJ6_stringSize_0f7a4 : yJ6_stringSize_0f7a4.cls ≠ "java/lang/invoke/MethodHandle" ∧ yJ6_stringSize_0f7a4.cls ≠ "java/lang/invoke/VarHandle" ∧ (parseMethodDescriptor yJ6_stringSize_0f7a4.desc).map (fun d => d.parameters.length) = some 1 := by decide +kernel
theorem lkJ5_append_c97b9_15 : Cond.fieldLink RJ5 15 "java/lang/AbstractStringBuilder" "value" "[B" ∈ wsJ5_append_c97b9 := List.mem_of_getElem? (i := 2) rfl
theorem heJ6_getChars_ba4f3 : yJ6_getChars_ba4f3.cls ≠ "java/lang/invoke/MethodHandle" ∧ yJ6_getChars_ba4f3.cls ≠ "java/lang/invoke/VarHandle" ∧ (parseMethodDescriptor yJ6_getChars_ba4f3.desc).map (fun d => d.parameters.length) = some 3 := by decide +kernel
abbrev rmJ5_append_c97b9 : Room := { frames := 4, cells := 1, slots := 1100, locals := 200 }
set_option maxHeartbeats 4000000 in
set_option maxRecDepth 100000 in
theorem cJ5_append_c97b9M (l : Launch) (D : va_G) (cy : Nat → ClassId) (za zv : Nat → Nat) (Y : YB) (sz : Nat) (gb bv bm : Nat) (ba : Nat → Int32) (bn : Nat) (bz : Int32) (x : Nat) (h9 : x < 1000) (hq : bn + 3 ≤ 520) (hm : bm ≤ 1100) (hn : bn ≤ bm) (hf : sb_Fit ba) : Met l yJ5_append_c97b9 wsJ5_append_c97b9 rmJ5_append_c97b9 (va_Pc [.ref gb, .int (nI x)] (kPreY D cy za zv Y sz ([(gb, .inr (5, [.ref bv, .int 0, .int bz, .int (nI bn)])), (bv, .inl (cy 3, bm, .inl ba))]))) (va_Qr (fun u : Nat × Nat × (Nat → Int32) => jApp ba bn (decL x).length (fun i => (decL x).getD i 0) u) (fun u ra t => ra = gb ∧ kPost D (va_A ([(gb, .inr (5, [.ref bv, .int 0, .int bz, .int (nI bn)])), (bv, .inl (cy 3, bm, .inl ba))]) sz) ([(gb, .inr (5, [.ref u.1, .int 0, .int bz, .int (nI (bn + (decL x).length))])), (u.1, .inl (cy 3, u.2.1, .inl u.2.2))]) t) (va_A ([(gb, .inr (5, [.ref bv, .int 0, .int bz, .int (nI bn)])), (bv, .inl (cy 3, bm, .inl ba))]) sz)) 1 1100 (va_A ([(gb, .inr (5, [.ref bv, .int 0, .int bz, .int (nI bn)])), (bv, .inl (cy 3, bm, .inl ba))]) sz) := by
  refine Met.ofW (cc := cJ5_append_c97b9) (maxL := 4) (ret := (some (.object "java/lang/AbstractStringBuilder"))) (by decide) rfl ?_
  intro p e s m args below meth c s₁ B hml hv
  obtain ⟨rfl, ⟨⟨⟨hsz, hP, hK, hD0⟩, hZ⟩, hY⟩⟩ := hv
  subst hsz
  have hx := B.exec
  have hb := B.bytes
  have hr := B.returns
  have hts := atoms_spec (ws := wsJ5_append_c97b9) B.pre
  have hown : s.vm.findClass RJ5 = some m.cls := findClass_of_methodNamed B.named
  have hlocks := B.notSynchronized
  have hA : ∀ q, s.heap.size ≤ q → va_A ([(gb, .inr (5, [.ref bv, .int 0, .int bz, .int (nI bn)])), (bv, .inl (cy 3, bm, .inl ba))]) s.heap.size q := fun q h => Or.inr h
  have hS : va_S (va_A ([(gb, .inr (5, [.ref bv, .int 0, .int bz, .int (nI bn)])), (bv, .inl (cy 3, bm, .inl ba))]) s.heap.size) s.heap s.heap [] := va_S.rf
  have hD : va_D (va_A ([(gb, .inr (5, [.ref bv, .int 0, .int bz, .int (nI bn)])), (bv, .inl (cy 3, bm, .inl ba))]) s.heap.size) ([(gb, .inr (5, [.ref bv, .int 0, .int bz, .int (nI bn)])), (bv, .inl (cy 3, bm, .inl ba))]) := hD0.self
  have hl := lv_entry ([.ref gb, .int (nI x)]) (n := 4) (Nat.le_of_ble_eq_true rfl)
  rw [lg_entry_eq]
  generalize (lg_sl ([.ref gb, .int (nI x)]) ++ List.replicate (4 - (lg_sl ([.ref gb, .int (nI x)])).length) Slot.unset).toArray = ls at hl ⊢
  have hl : lv_has ls 4 [(0, .ref gb), (1, .int (nI x))] := hl
  have hg3 : jDg x ≤ 3 := by unfold jDg; split; omega; split <;> omega
  refine lv_aload_n hx hb dJ5_append_c97b9_0 rfl (lv_at hl 0 rfl) ?_
  refine k_get (v := .int (nI bn)) (C := RJ4) (T := TJ4) (N := 4) hx hb hts inJ5_append_c97b9_J4 hown hK hP 0 rfl rfl 3 (by decide) lkJ5_append_c97b9_79 rfl dJ5_append_c97b9_1 ?_
  refine lv_istore_n (lv' := [(2, .int (nI bn)), (0, .ref gb), (1, .int (nI x))]) hx hb dJ5_append_c97b9_4 rfl hl (by decide) rfl (fun ls hl => ?_)
  refine lv_iload_n hx hb dJ5_append_c97b9_5 rfl (lv_at hl 0 rfl) ?_
  refine lv_iload_n hx hb dJ5_append_c97b9_6 rfl (lv_at hl 2 rfl) ?_
  have hp := (show ([(gb, .inr (5, [.ref bv, .int 0, .int bz, .int (nI bn)])), (bv, .inl (cy 3, bm, .inl ba))] : va_W).Perm ([] ++ [(gb, .inr (5, [.ref bv, .int 0, .int bz, .int (nI bn)])), (bv, .inl (cy 3, bm, .inl ba))]) from List.Perm.refl _)
  refine jr_i (va_runS (As := [.int (nI x)]) (rest := [.int (nI bn)]) ⟨hx, hb, hml, hown, hts⟩ (cJ6_stringSize_0f7a4M l D cy za zv Y _ x h9) (va_cwS 1 hts gJ5_append_c97b9_J6_stringSize_0f7a4 rfl rfl rfl heJ6_stringSize_0f7a4 ⟨Nat.le_of_ble_eq_true rfl, Nat.le_of_ble_eq_true rfl⟩) (k_preSY hY hZ hS (k_free hp hD hS hA) hK (kP_app.mp (kP_perm hp hP)).1 (kD_app (kD_perm hp hD)).1) rfl rfl hl.1 rfl (Nat.le_of_ble_eq_true rfl) dJ5_append_c97b9_7 ⟨by first | exact Nat.le_of_ble_eq_true rfl | omega, by first | exact Nat.le_of_ble_eq_true rfl | (show _ ≤ (_ : Nat); omega)⟩) hp hP hD hS hA (fun r u9 H locs hu97 hP hD hS => ?_)
  subst hu97
  replace hP : va_P D kCl ([(gb, .inr (5, [.ref bv, .int 0, .int bz, .int (nI bn)])), (bv, .inl (cy 3, bm, .inl ba))]) H := hP
  replace hD : va_D _ ([(gb, .inr (5, [.ref bv, .int 0, .int bz, .int (nI bn)])), (bv, .inl (cy 3, bm, .inl ba))]) := hD
  refine lv_iadd hx hb dJ5_append_c97b9_10 ?_
  rw [show (((nI bn)) + ((nI (jDg x))) : Int32) = nI (bn + jDg x) from nI_add _ _]
  refine lv_istore_n (lv' := [(3, .int (nI (bn + jDg x))), (2, .int (nI bn)), (0, .ref gb), (1, .int (nI x))]) hx hb dJ5_append_c97b9_11 rfl hl (by decide) rfl (fun ls hl => ?_)
  refine lv_aload_n hx hb dJ5_append_c97b9_12 rfl (lv_at hl 2 rfl) ?_
  refine lv_iload_n hx hb dJ5_append_c97b9_13 rfl (lv_at hl 0 rfl) ?_
  have hp := (show ([(gb, .inr (5, [.ref bv, .int 0, .int bz, .int (nI bn)])), (bv, .inl (cy 3, bm, .inl ba))] : va_W).Perm ([(gb, .inr (5, [.ref bv, .int 0, .int bz, .int (nI bn)])), (bv, .inl (cy 3, bm, .inl ba))] ++ []) from (List.append_nil _).symm ▸ List.Perm.refl _)
  refine jr_v (va_runU (b := gb) (As := [.int (nI (bn + jDg x))]) (rest := []) ⟨hx, hb, hml, hown, hts⟩ (cJ5_ensureCapacityInternal_d00dfM l D cy za zv Y _ gb bv bm ba bn bz (bn + jDg x) (by omega) hm hf) (va_cwU 1 hts gJ5_append_c97b9_J5_ensureCapacityInternal_d00df_u100J4 rfl rfl rfl rfl ⟨by decide +kernel, by decide +kernel, by decide +kernel⟩ ⟨Nat.le_of_ble_eq_true rfl, Nat.le_of_ble_eq_true rfl⟩) (k_preVY hY hZ hS (k_free hp hD hS hA) hK (kP_app.mp (kP_perm hp hP)).1 (kD_app (kD_perm hp hD)).1 (q0 := 0) (ci := 5) rfl rfl) rfl rfl hl.1 rfl (Nat.le_of_ble_eq_true rfl) dJ5_append_c97b9_14 ⟨by first | exact Nat.le_of_ble_eq_true rfl | omega, by first | exact Nat.le_of_ble_eq_true rfl | (show _ ≤ (_ : Nat); omega)⟩) hp hP hD hS hA (fun u H locs hu17 hP hD hS => ?_)
  obtain ⟨hu1, hu2, hu3, hu4, hu5⟩ := hu17
  replace hP : va_P D kCl ([(gb, .inr (5, [.ref u.1, .int 0, .int bz, .int (nI bn)])), (u.1, .inl (cy 3, u.2.1, .inl u.2.2))]) H := hP
  replace hD : va_D _ ([(gb, .inr (5, [.ref u.1, .int 0, .int bz, .int (nI bn)])), (u.1, .inl (cy 3, u.2.1, .inl u.2.2))]) := hD
  refine W.widen (k := 1) (n := 1100) (by first | exact Nat.le_of_ble_eq_true rfl | omega) (by first | exact Nat.le_of_ble_eq_true rfl | omega) ?_
  refine lv_aload_n hx hb dJ5_append_c97b9_17 rfl (lv_at hl 2 rfl) ?_
  have hp := (show ([(gb, .inr (5, [.ref u.1, .int 0, .int bz, .int (nI bn)])), (u.1, .inl (cy 3, u.2.1, .inl u.2.2))] : va_W).Perm ([(gb, .inr (5, [.ref u.1, .int 0, .int bz, .int (nI bn)])), (u.1, .inl (cy 3, u.2.1, .inl u.2.2))] ++ []) from (List.append_nil _).symm ▸ List.Perm.refl _)
  refine jr_i (va_runU (b := gb) (As := []) (rest := []) ⟨hx, hb, hml, hown, hts⟩ (cJ5_isLatin1_aae02M l D cy za zv Y _ gb u.1 u.2.1 u.2.2 bn bz) (va_cwU 0 hts gJ5_append_c97b9_J5_isLatin1_aae02_u83J4 rfl rfl rfl rfl ⟨by decide +kernel, by decide +kernel, by decide +kernel⟩ ⟨Nat.le_of_ble_eq_true rfl, Nat.le_of_ble_eq_true rfl⟩) (k_preVY hY hZ hS (k_free hp hD hS hA) hK (kP_app.mp (kP_perm hp hP)).1 (kD_app (kD_perm hp hD)).1 (q0 := 0) (ci := 5) rfl rfl) rfl rfl hl.1 rfl (Nat.le_of_ble_eq_true rfl) dJ5_append_c97b9_18 ⟨by first | exact Nat.le_of_ble_eq_true rfl | omega, by first | exact Nat.le_of_ble_eq_true rfl | (show _ ≤ (_ : Nat); omega)⟩) hp hP hD hS hA (fun r u9 H locs hu924 hP hD hS => ?_)
  subst hu924
  replace hP : va_P D kCl ([(gb, .inr (5, [.ref u.1, .int 0, .int bz, .int (nI bn)])), (u.1, .inl (cy 3, u.2.1, .inl u.2.2))]) H := hP
  replace hD : va_D _ ([(gb, .inr (5, [.ref u.1, .int 0, .int bz, .int (nI bn)])), (u.1, .inl (cy 3, u.2.1, .inl u.2.2))]) := hD
  refine lv_if_eq (tgt := 37) hx hb dJ5_append_c97b9_21 (by decide) (fun c => absurd c (by decide)) (fun _ => ?_)
  refine lv_iload_n hx hb dJ5_append_c97b9_24 rfl (lv_at hl 3 rfl) ?_
  refine lv_iload_n hx hb dJ5_append_c97b9_25 rfl (lv_at hl 0 rfl) ?_
  refine lv_aload_n hx hb dJ5_append_c97b9_26 rfl (lv_at hl 2 rfl) ?_
  refine k_get (v := .ref u.1) (C := RJ4) (T := TJ4) (N := 4) hx hb hts inJ5_append_c97b9_J4 hown hK hP 0 rfl rfl 0 (by decide) lkJ5_append_c97b9_15 rfl dJ5_append_c97b9_27 ?_
  have hp := (k_pick (l := ([(gb, .inr (5, [.ref u.1, .int 0, .int bz, .int (nI bn)])), (u.1, .inl (cy 3, u.2.1, .inl u.2.2))] : va_W)) (k := 1) rfl)
  refine jr_i (va_runS (As := [.int (nI x), .int (nI (bn + jDg x)), .ref u.1]) (rest := []) ⟨hx, hb, hml, hown, hts⟩ (cJ6_getChars_ba4f3M l D cy za zv Y _ u.1 u.2.1 u.2.2 (bn + jDg x) x h9 (by omega) hu1 hu2 hu4) (va_cwS 3 hts gJ5_append_c97b9_J6_getChars_ba4f3 rfl rfl rfl heJ6_getChars_ba4f3 ⟨Nat.le_of_ble_eq_true rfl, Nat.le_of_ble_eq_true rfl⟩) (k_preSY hY hZ hS (k_free hp hD hS hA) hK (kP_app.mp (kP_perm hp hP)).1 (kD_app (kD_perm hp hD)).1) rfl rfl hl.1 rfl (Nat.le_of_ble_eq_true rfl) dJ5_append_c97b9_30 ⟨by first | exact Nat.le_of_ble_eq_true rfl | omega, by first | exact Nat.le_of_ble_eq_true rfl | (show _ ≤ (_ : Nat); omega)⟩) hp hP hD hS hA (fun r w H locs hw34 hP hD hS => ?_)
  obtain ⟨hw1, hw2, hw3⟩ := hw34
  replace hP : va_P D kCl ([(u.1, .inl (cy 3, u.2.1, .inl w)), (gb, .inr (5, [.ref u.1, .int 0, .int bz, .int (nI bn)]))]) H := hP
  replace hD : va_D _ ([(u.1, .inl (cy 3, u.2.1, .inl w)), (gb, .inr (5, [.ref u.1, .int 0, .int bz, .int (nI bn)]))]) := hD
  replace hP := kP_perm (show List.Perm ([(u.1, .inl (cy 3, u.2.1, .inl w)), (gb, .inr (5, [.ref u.1, .int 0, .int bz, .int (nI bn)]))] : va_W) ([(gb, .inr (5, [.ref u.1, .int 0, .int bz, .int (nI bn)])), (u.1, .inl (cy 3, u.2.1, .inl w))]) from (List.reverse_perm ([(u.1, .inl (cy 3, u.2.1, .inl w)), (gb, .inr (5, [.ref u.1, .int 0, .int bz, .int (nI bn)]))] : va_W)).symm) hP
  replace hD := kD_perm (show List.Perm ([(u.1, .inl (cy 3, u.2.1, .inl w)), (gb, .inr (5, [.ref u.1, .int 0, .int bz, .int (nI bn)]))] : va_W) ([(gb, .inr (5, [.ref u.1, .int 0, .int bz, .int (nI bn)])), (u.1, .inl (cy 3, u.2.1, .inl w))]) from (List.reverse_perm ([(u.1, .inl (cy 3, u.2.1, .inl w)), (gb, .inr (5, [.ref u.1, .int 0, .int bz, .int (nI bn)]))] : va_W)).symm) hD
  refine lv_pop hx hb dJ5_append_c97b9_33 rfl ?_
  refine lv_goto (tgt := 48) hx hb dJ5_append_c97b9_34 (by decide) ?_
  refine lv_aload_n hx hb dJ5_append_c97b9_48 rfl (lv_at hl 2 rfl) ?_
  refine lv_iload_n hx hb dJ5_append_c97b9_49 rfl (lv_at hl 0 rfl) ?_
  refine k_put (v := .int (nI (bn + jDg x))) (ty := .int) (C := RJ4) (T := TJ4) (N := 4) hx hb hts inJ5_append_c97b9_J4 tyJ4 tyJ4_ok nmJ4 hown hK hP hD hS 0 rfl rfl 3 (by decide) lkJ5_append_c97b9_79 rfl (by decide +kernel) rfl rfl (Nat.le_of_ble_eq_true rfl) (ws' := [(gb, .inr (5, [.ref u.1, .int 0, .int bz, .int (nI (bn + jDg x))])), (u.1, .inl (cy 3, u.2.1, .inl w))]) rfl dJ5_append_c97b9_50 (fun H locs hP hD hS => ?_)
  refine lv_aload_n hx hb dJ5_append_c97b9_53 rfl (lv_at hl 2 rfl) ?_
  refine W.widen (k := 1) (n := 1100) (by first | exact Nat.le_of_ble_eq_true rfl | omega) (by first | exact Nat.le_of_ble_eq_true rfl | omega) ?_
  exact W.aret hx hb hr (Or.inl ⟨_, rfl⟩) (Or.inr ⟨_, rfl⟩) (fun t ht hW => ⟨⟨(u.1, u.2.1, w), gb, rfl, ⟨by rw [decL_len]; exact hu1, hu2, hw1, fun j hj => (hw2 j (by omega)).trans (hu5 j (by omega)), fun i hi => by rw [decL_len] at hi; rw [← hw3 i hi, show bn + jDg x - jDg x + i = bn + i by omega]⟩, rfl, by rw [ht, decL_len]; exact hP, by rw [decL_len]; exact hD⟩, hS.F ht⟩) hS.2.2 dJ5_append_c97b9_54 hlocks
theorem hpJ5_append_c97b9 : yJ5_append_c97b9.name ≠ "<init>" ∧ (parseMethodDescriptor yJ5_append_c97b9.desc).map (fun d => d.parameters.length) = some 1 := by decide +kernel
abbrev rmJ4_append_bf812 : Room := { frames := 6, cells := 1, slots := 1100, locals := 300 }
set_option maxHeartbeats 4000000 in
set_option maxRecDepth 100000 in
theorem cJ4_append_bf812M (l : Launch) (D : va_G) (cy : Nat → ClassId) (za zv : Nat → Nat) (Y : YB) (sz : Nat) (gb bv bm : Nat) (ba : Nat → Int32) (bn : Nat) (bz : Int32) (x : Nat) (h9 : x < 1000) (hq : bn + 3 ≤ 520) (hm : bm ≤ 1100) (hn : bn ≤ bm) (hf : sb_Fit ba) : Met l yJ4_append_bf812 wsJ4_append_bf812 rmJ4_append_bf812 (va_Pc [.ref gb, .int (nI x)] (kPreY D cy za zv Y sz ([(gb, .inr (5, [.ref bv, .int 0, .int bz, .int (nI bn)])), (bv, .inl (cy 3, bm, .inl ba))]))) (va_Qr (fun u : Nat × Nat × (Nat → Int32) => jApp ba bn (decL x).length (fun i => (decL x).getD i 0) u) (fun u ra t => ra = gb ∧ kPost D (va_A ([(gb, .inr (5, [.ref bv, .int 0, .int bz, .int (nI bn)])), (bv, .inl (cy 3, bm, .inl ba))]) sz) ([(gb, .inr (5, [.ref u.1, .int 0, .int bz, .int (nI (bn + (decL x).length))])), (u.1, .inl (cy 3, u.2.1, .inl u.2.2))]) t) (va_A ([(gb, .inr (5, [.ref bv, .int 0, .int bz, .int (nI bn)])), (bv, .inl (cy 3, bm, .inl ba))]) sz)) 1 1100 (va_A ([(gb, .inr (5, [.ref bv, .int 0, .int bz, .int (nI bn)])), (bv, .inl (cy 3, bm, .inl ba))]) sz) := by
  refine Met.ofW (cc := cJ4_append_bf812) (maxL := 2) (ret := (some (.object "java/lang/StringBuilder"))) (by decide) rfl ?_
  intro p e s m args below meth c s₁ B hml hv
  obtain ⟨rfl, ⟨⟨⟨hsz, hP, hK, hD0⟩, hZ⟩, hY⟩⟩ := hv
  subst hsz
  have hx := B.exec
  have hb := B.bytes
  have hr := B.returns
  have hts := atoms_spec (ws := wsJ4_append_bf812) B.pre
  have hown : s.vm.findClass RJ4 = some m.cls := findClass_of_methodNamed B.named
  have hlocks := B.notSynchronized
  have hA : ∀ q, s.heap.size ≤ q → va_A ([(gb, .inr (5, [.ref bv, .int 0, .int bz, .int (nI bn)])), (bv, .inl (cy 3, bm, .inl ba))]) s.heap.size q := fun q h => Or.inr h
  have hS : va_S (va_A ([(gb, .inr (5, [.ref bv, .int 0, .int bz, .int (nI bn)])), (bv, .inl (cy 3, bm, .inl ba))]) s.heap.size) s.heap s.heap [] := va_S.rf
  have hD : va_D (va_A ([(gb, .inr (5, [.ref bv, .int 0, .int bz, .int (nI bn)])), (bv, .inl (cy 3, bm, .inl ba))]) s.heap.size) ([(gb, .inr (5, [.ref bv, .int 0, .int bz, .int (nI bn)])), (bv, .inl (cy 3, bm, .inl ba))]) := hD0.self
  have hl := lv_entry ([.ref gb, .int (nI x)]) (n := 2) (Nat.le_of_ble_eq_true rfl)
  rw [lg_entry_eq]
  generalize (lg_sl ([.ref gb, .int (nI x)]) ++ List.replicate (2 - (lg_sl ([.ref gb, .int (nI x)])).length) Slot.unset).toArray = ls at hl ⊢
  have hl : lv_has ls 2 [(0, .ref gb), (1, .int (nI x))] := hl
  refine lv_aload_n hx hb dJ4_append_bf812_0 rfl (lv_at hl 0 rfl) ?_
  refine lv_iload_n hx hb dJ4_append_bf812_1 rfl (lv_at hl 1 rfl) ?_
  have hp := (show ([(gb, .inr (5, [.ref bv, .int 0, .int bz, .int (nI bn)])), (bv, .inl (cy 3, bm, .inl ba))] : va_W).Perm ([(gb, .inr (5, [.ref bv, .int 0, .int bz, .int (nI bn)])), (bv, .inl (cy 3, bm, .inl ba))] ++ []) from (List.append_nil _).symm ▸ List.Perm.refl _)
  refine jr_t (va_runSU (hK.1.1 5 _ rfl).2 (b := gb) (As := [.int (nI x)]) (rest := []) ⟨hx, hb, hml, hown, hts⟩ (cJ5_append_c97b9M l D cy za zv Y _ gb bv bm ba bn bz x h9 hq hm hn hf) (va_cwSU 1 hts gJ4_append_bf812_J5_append_c97b9_s53 rfl rfl rfl hpJ5_append_c97b9 ⟨Nat.le_of_ble_eq_true rfl, Nat.le_of_ble_eq_true rfl⟩) (k_preVY hY hZ hS (k_free hp hD hS hA) hK (kP_app.mp (kP_perm hp hP)).1 (kD_app (kD_perm hp hD)).1 (q0 := 0) (ci := 5) rfl rfl) rfl rfl hl.1 rfl (Nat.le_of_ble_eq_true rfl) dJ4_append_bf812_2 ⟨by first | exact Nat.le_of_ble_eq_true rfl | omega, by first | exact Nat.le_of_ble_eq_true rfl | (show _ ≤ (_ : Nat); omega)⟩) hp hP hD hS hA (fun u H locs hu3 hP hD hS => ?_)
  replace hP : va_P D kCl ([(gb, .inr (5, [.ref u.1, .int 0, .int bz, .int (nI (bn + (decL x).length))])), (u.1, .inl (cy 3, u.2.1, .inl u.2.2))]) H := hP
  replace hD : va_D _ ([(gb, .inr (5, [.ref u.1, .int 0, .int bz, .int (nI (bn + (decL x).length))])), (u.1, .inl (cy 3, u.2.1, .inl u.2.2))]) := hD
  refine W.widen (k := 1) (n := 1100) (by first | exact Nat.le_of_ble_eq_true rfl | omega) (by first | exact Nat.le_of_ble_eq_true rfl | omega) ?_
  refine lv_pop hx hb dJ4_append_bf812_5 rfl ?_
  refine lv_aload_n hx hb dJ4_append_bf812_6 rfl (lv_at hl 0 rfl) ?_
  refine W.widen (k := 1) (n := 1100) (by first | exact Nat.le_of_ble_eq_true rfl | omega) (by first | exact Nat.le_of_ble_eq_true rfl | omega) ?_
  exact W.aret hx hb hr (Or.inl ⟨_, rfl⟩) (Or.inr ⟨_, rfl⟩) (fun t ht hW => ⟨⟨u, gb, rfl, hu3, rfl, by rw [ht]; exact hP, hD⟩, hS.F ht⟩) hS.2.2 dJ4_append_bf812_7 hlocks
theorem lkJ5_inflateIfNeededFor_a7421_18 : Cond.fieldLink RJ5 18 "java/lang/String" "COMPACT_STRINGS" "Z" ∈ wsJ5_inflateIfNeededFor_a7421 := List.mem_of_getElem? (i := 1) rfl
theorem lkJ5_inflateIfNeededFor_a7421_22 : Cond.fieldLink RJ5 22 "java/lang/AbstractStringBuilder" "coder" "B" ∈ wsJ5_inflateIfNeededFor_a7421 := List.mem_of_getElem? (i := 2) rfl
theorem inJ5_inflateIfNeededFor_a7421_J4 : ∀ w ∈ u_ws RJ4 TJ4 4, w ∈ wsJ5_inflateIfNeededFor_a7421 := k_lays 59 rfl
abbrev rmJ5_inflateIfNeededFor_a7421 : Room := { frames := 1, cells := 0, slots := 0, locals := 40 }
set_option maxHeartbeats 4000000 in
set_option maxRecDepth 100000 in
theorem cJ5_inflateIfNeededFor_a7421M (l : Launch) (D : va_G) (cy : Nat → ClassId) (za zv : Nat → Nat) (Y : YB) (sz : Nat) (gb bv bm : Nat) (ba : Nat → Int32) (bn : Nat) (bz : Int32) (w : Nat) (hw : w < 39) : Met l yJ5_inflateIfNeededFor_a7421 wsJ5_inflateIfNeededFor_a7421 rmJ5_inflateIfNeededFor_a7421 (va_Pc [.ref gb, .ref (za w)] (kPreY D cy za zv Y sz ([(gb, .inr (5, [.ref bv, .int 0, .int bz, .int (nI bn)])), (bv, .inl (cy 3, bm, .inl ba))]))) (va_Qv (fun _ : Unit => True) (fun _ => kPost D (va_A ([(gb, .inr (5, [.ref bv, .int 0, .int bz, .int (nI bn)])), (bv, .inl (cy 3, bm, .inl ba))]) sz) ([(gb, .inr (5, [.ref bv, .int 0, .int bz, .int (nI bn)])), (bv, .inl (cy 3, bm, .inl ba))])) (va_A ([(gb, .inr (5, [.ref bv, .int 0, .int bz, .int (nI bn)])), (bv, .inl (cy 3, bm, .inl ba))]) sz)) 0 0 (va_A ([(gb, .inr (5, [.ref bv, .int 0, .int bz, .int (nI bn)])), (bv, .inl (cy 3, bm, .inl ba))]) sz) := by
  refine Met.ofW (cc := cJ5_inflateIfNeededFor_a7421) (maxL := 2) (ret := none) (by decide) rfl ?_
  intro p e s m args below meth c s₁ B hml hv
  obtain ⟨rfl, ⟨⟨⟨hsz, hP, hK, hD0⟩, hZ⟩, hY⟩⟩ := hv
  subst hsz
  have hx := B.exec
  have hb := B.bytes
  have hr := B.returns
  have hts := atoms_spec (ws := wsJ5_inflateIfNeededFor_a7421) B.pre
  have hown : s.vm.findClass RJ5 = some m.cls := findClass_of_methodNamed B.named
  have hlocks := B.notSynchronized
  have hA : ∀ q, s.heap.size ≤ q → va_A ([(gb, .inr (5, [.ref bv, .int 0, .int bz, .int (nI bn)])), (bv, .inl (cy 3, bm, .inl ba))]) s.heap.size q := fun q h => Or.inr h
  have hS : va_S (va_A ([(gb, .inr (5, [.ref bv, .int 0, .int bz, .int (nI bn)])), (bv, .inl (cy 3, bm, .inl ba))]) s.heap.size) s.heap s.heap [] := va_S.rf
  have hD : va_D (va_A ([(gb, .inr (5, [.ref bv, .int 0, .int bz, .int (nI bn)])), (bv, .inl (cy 3, bm, .inl ba))]) s.heap.size) ([(gb, .inr (5, [.ref bv, .int 0, .int bz, .int (nI bn)])), (bv, .inl (cy 3, bm, .inl ba))]) := hD0.self
  have hl := lv_entry ([.ref gb, .ref (za w)]) (n := 2) (Nat.le_of_ble_eq_true rfl)
  rw [lg_entry_eq]
  generalize (lg_sl ([.ref gb, .ref (za w)]) ++ List.replicate (2 - (lg_sl ([.ref gb, .ref (za w)])).length) Slot.unset).toArray = ls at hl ⊢
  have hl : lv_has ls 2 [(0, .ref gb), (1, .ref (za w))] := hl
  refine va_gets hx hb hZ.1 hS hown (hts _ lkJ5_inflateIfNeededFor_a7421_18) (fun _ h => h) dJ5_inflateIfNeededFor_a7421_0 ?_
  refine lv_if_eq (tgt := 21) hx hb dJ5_inflateIfNeededFor_a7421_3 (by decide) (fun c => absurd c (by decide)) (fun _ => ?_)
  refine lv_aload_n hx hb dJ5_inflateIfNeededFor_a7421_6 rfl (lv_at hl 0 rfl) ?_
  refine k_get (v := .int 0) (C := RJ4) (T := TJ4) (N := 4) hx hb hts inJ5_inflateIfNeededFor_a7421_J4 hown hK hP 0 rfl rfl 1 (by decide) lkJ5_inflateIfNeededFor_a7421_22 rfl dJ5_inflateIfNeededFor_a7421_7 ?_
  refine lv_aload_n hx hb dJ5_inflateIfNeededFor_a7421_10 rfl (lv_at hl 1 rfl) ?_
  refine jr_i (wc := []) (wr := [(gb, .inr (5, [.ref bv, .int 0, .int bz, .int (nI bn)])), (bv, .inl (cy 3, bm, .inl ba))]) (S := Unit) (mk := fun _ => []) (va_runV (b := (za w)) (As := []) (rest := [.int 0]) ⟨hx, hb, hml, hown, hts⟩ (cJ0_coder_7d493M l D cy za zv _ w hw (fun r => r = 0) ⟨_, rfl, rfl⟩) (cwV 0 hts gJ5_inflateIfNeededFor_a7421_J0_coder_7d493 rfl rfl rfl hdJ0_coder_7d493 ⟨Nat.le_of_ble_eq_true rfl, Nat.le_of_ble_eq_true rfl⟩) (k_preVs hZ hS (k_free (wc := []) (wr := [(gb, .inr (5, [.ref bv, .int 0, .int bz, .int (nI bn)])), (bv, .inl (cy 3, bm, .inl ba))]) (List.Perm.refl _) hD hS hA) hK hw) rfl rfl hl.1 rfl (Nat.le_of_ble_eq_true rfl) dJ5_inflateIfNeededFor_a7421_11 ⟨by first | exact Nat.le_of_ble_eq_true rfl | omega, by first | exact Nat.le_of_ble_eq_true rfl | (show _ ≤ (_ : Nat); omega)⟩) (List.Perm.refl _) hP hD hS hA (fun r u H locs hu5 hP hD hS => ?_)
  replace hu5 : r = 0 := hu5
  subst hu5
  replace hP : va_P D kCl ([(gb, .inr (5, [.ref bv, .int 0, .int bz, .int (nI bn)])), (bv, .inl (cy 3, bm, .inl ba))]) H := hP
  replace hD : va_D _ ([(gb, .inr (5, [.ref bv, .int 0, .int bz, .int (nI bn)])), (bv, .inl (cy 3, bm, .inl ba))]) := hD
  refine lv_icmp_eq (tgt := 21) hx hb dJ5_inflateIfNeededFor_a7421_14 (by decide) (fun _ => ?_) (fun c => absurd (rfl) c)
  exact W.vret hx hb hr (fun t ht hW => ⟨⟨(), rfl, trivial, by rw [ht]; exact hP, hD⟩, hS.F ht⟩) hS.2.2 dJ5_inflateIfNeededFor_a7421_21 hlocks
theorem jz_B : ∀ w, w < 39 → ∀ j, j < (zB w).length → (zB w).getD j 0 = sb_b ((zB w).getD j 0).toNatClampNeg ∧ ((zB w).getD j 0).toNatClampNeg < 256 ∧ fits .byte (.int ((zB w).getD j 0)) = true := by decide +kernel
theorem jz_F (w : Nat) (hw : w < 39) (j : Nat) : fits .byte (.int ((zB w).getD j 0)) = true := by
  by_cases h : j < (zB w).length
  · exact (jz_B w hw j h).2.2
  · rw [List.getD_eq_getElem?_getD, List.getElem?_eq_none (by omega)]
    rfl
/-- a literal's letters -/
def zL (w : Nat) : List Nat := (zB w).map Int32.toNatClampNeg
theorem zL_len (w : Nat) : (zL w).length = (zB w).length := List.length_map ..
theorem zL_get {w j : Nat} (h : j < (zB w).length) : (zL w).getD j 0 = ((zB w).getD j 0).toNatClampNeg := by
  rw [List.getD_eq_getElem?_getD, List.getD_eq_getElem?_getD, zL, List.getElem?_map, List.getElem?_eq_getElem h]
  rfl
theorem jv_cpy {f g : Nat → Int32} {d n : Nat} (j : Nat) : va_cpy f g 0 d n j = if d ≤ j ∧ j < d + n then f (j - d) else g j := by
  unfold va_cpy
  by_cases h : d ≤ j ∧ j < d + n
  · rw [if_pos h, if_pos h, Nat.zero_add]
  · rw [if_neg h, if_neg h]
theorem jz_at {w bn : Nat} {g : Nat → Int32} (hw : w < 39) (i : Nat) (hi : i < (zL w).length) : va_cpy (fun j => (zB w).getD j 0) g 0 bn (zB w).length (bn + i) = sb_b ((zL w).getD i 0) := by
  rw [zL_len] at hi
  rw [jv_cpy, if_pos (by omega), show bn + i - bn = i by omega, zL_get hi]
  exact (jz_B w hw i hi).1
theorem lkJ0_getBytes_840e7_9 : Cond.fieldLink RJ0 9 "java/lang/String" "value" "[B" ∈ wsJ0_getBytes_840e7 := List.mem_of_getElem? (i := 1) rfl
abbrev rmJ0_getBytes_840e7 : Room := { frames := 1, cells := 0, slots := 0, locals := 60 }
set_option maxHeartbeats 4000000 in
set_option maxRecDepth 100000 in
theorem cJ0_getBytes_840e7M (l : Launch) (D : va_G) (cy : Nat → ClassId) (za zv : Nat → Nat) (Y : YB) (sz : Nat) (bv bm : Nat) (ba : Nat → Int32) (k w : Nat) (hw : w < 39) (hk : k + (zB w).length ≤ bm) (hbm : bm ≤ 1100) : Met l yJ0_getBytes_840e7 wsJ0_getBytes_840e7 rmJ0_getBytes_840e7 (va_Pc [.ref (za w), .ref bv, .int (nI k), .int 0] (kPreY D cy za zv Y sz ([(bv, .inl (cy 3, bm, .inl ba))]))) (va_Qv (fun _ : Unit => True) (fun _ => kPost D (va_A ([(bv, .inl (cy 3, bm, .inl ba))]) sz) ([(bv, .inl (cy 3, bm, .inl (va_cpy (fun j => (zB w).getD j 0) ba 0 k (zB w).length)))])) (va_A ([(bv, .inl (cy 3, bm, .inl ba))]) sz)) 0 0 (va_A ([(bv, .inl (cy 3, bm, .inl ba))]) sz) := by
  refine Met.ofW (cc := cJ0_getBytes_840e7) (maxL := 4) (ret := none) (by decide) rfl ?_
  intro p e s m args below meth c s₁ B hml hv
  obtain ⟨rfl, ⟨⟨⟨hsz, hP, hK, hD0⟩, hZ⟩, hY⟩⟩ := hv
  subst hsz
  have hx := B.exec
  have hb := B.bytes
  have hr := B.returns
  have hts := atoms_spec (ws := wsJ0_getBytes_840e7) B.pre
  have hown : s.vm.findClass RJ0 = some m.cls := findClass_of_methodNamed B.named
  have hlocks := B.notSynchronized
  have hA : ∀ q, s.heap.size ≤ q → va_A ([(bv, .inl (cy 3, bm, .inl ba))]) s.heap.size q := fun q h => Or.inr h
  have hS : va_S (va_A ([(bv, .inl (cy 3, bm, .inl ba))]) s.heap.size) s.heap s.heap [] := va_S.rf
  have hD : va_D (va_A ([(bv, .inl (cy 3, bm, .inl ba))]) s.heap.size) ([(bv, .inl (cy 3, bm, .inl ba))]) := hD0.self
  have hl := lv_entry ([.ref (za w), .ref bv, .int (nI k), .int 0]) (n := 4) (Nat.le_of_ble_eq_true rfl)
  rw [lg_entry_eq]
  generalize (lg_sl ([.ref (za w), .ref bv, .int (nI k), .int 0]) ++ List.replicate (4 - (lg_sl ([.ref (za w), .ref bv, .int (nI k), .int 0])).length) Slot.unset).toArray = ls at hl ⊢
  have hl : lv_has ls 4 [(0, .ref (za w)), (1, .ref bv), (2, .int (nI k)), (3, .int 0)] := hl
  refine lv_aload_n hx hb dJ0_getBytes_840e7_0 rfl (lv_at hl 0 rfl) ?_
  refine jr_i (wc := []) (wr := [(bv, .inl (cy 3, bm, .inl ba))]) (S := Unit) (mk := fun _ => []) (va_runV (b := (za w)) (As := []) (rest := []) ⟨hx, hb, hml, hown, hts⟩ (cJ0_coder_7d493M l D cy za zv _ w hw (fun r => r = 0) ⟨_, rfl, rfl⟩) (cwV 0 hts gJ0_getBytes_840e7_J0_coder_7d493 rfl rfl rfl hdJ0_coder_7d493 ⟨Nat.le_of_ble_eq_true rfl, Nat.le_of_ble_eq_true rfl⟩) (k_preVs hZ hS (k_free (wc := []) (wr := [(bv, .inl (cy 3, bm, .inl ba))]) (List.Perm.refl _) hD hS hA) hK hw) rfl rfl hl.1 rfl (Nat.le_of_ble_eq_true rfl) dJ0_getBytes_840e7_1 ⟨by first | exact Nat.le_of_ble_eq_true rfl | omega, by first | exact Nat.le_of_ble_eq_true rfl | (show _ ≤ (_ : Nat); omega)⟩) (List.Perm.refl _) hP hD hS hA (fun r u H locs hu1 hP hD hS => ?_)
  replace hu1 : r = 0 := hu1
  subst hu1
  replace hP : va_P D kCl ([(bv, .inl (cy 3, bm, .inl ba))]) H := hP
  replace hD : va_D _ ([(bv, .inl (cy 3, bm, .inl ba))]) := hD
  refine lv_iload_n hx hb dJ0_getBytes_840e7_4 rfl (lv_at hl 3 rfl) ?_
  refine lv_icmp_ne (tgt := 28) hx hb dJ0_getBytes_840e7_5 (by decide) (fun c => absurd (rfl) c) (fun _ => ?_)
  refine lv_aload_n hx hb dJ0_getBytes_840e7_8 rfl (lv_at hl 0 rfl) ?_
  refine vk_getf hx hb (zst_value hZ hw) hS hown (hts _ lkJ0_getBytes_840e7_9) (fun _ h => h) dJ0_getBytes_840e7_9 ?_
  refine lv_iconst (v := 0) hx hb dJ0_getBytes_840e7_12 rfl ?_
  refine lv_aload_n hx hb dJ0_getBytes_840e7_13 rfl (lv_at hl 1 rfl) ?_
  refine lv_iload_n hx hb dJ0_getBytes_840e7_14 rfl (lv_at hl 2 rfl) ?_
  refine lv_iload_n hx hb dJ0_getBytes_840e7_15 rfl (lv_at hl 3 rfl) ?_
  refine lv_ishl hx hb dJ0_getBytes_840e7_16 ?_
  rw [show ((((nI k)) : Int32) <<< (((0) : Int32) &&& 31) : Int32) = nI k from sb_shl0 _]
  refine lv_aload_n hx hb dJ0_getBytes_840e7_17 rfl (lv_at hl 0 rfl) ?_
  refine vk_getf hx hb (zst_value hZ hw) hS hown (hts _ lkJ0_getBytes_840e7_9) (fun _ h => h) dJ0_getBytes_840e7_18 ?_
  refine va_tlen hx hb (zst_bytes hZ hw) hS (v := nI (zB w).length) rfl dJ0_getBytes_840e7_21 ?_
  refine vk_copyt hx hb (hml.trans hl.1.symm) hown (hts _ (List.mem_of_getElem? (i := 2) rfl)) (hts _ (List.mem_of_getElem? (i := 3) rfl)) (hts _ (List.mem_of_getElem? (i := 4) rfl)) (hts _ (List.mem_of_getElem? (i := 5) rfl)) hK.1 hP hD hS (zst_bytes hZ hw) 0 3 rfl rfl (by decide) (nI_pos (by omega)) (nI_pos (by omega)) (by rw [sb_cl0, nI_clamp (by omega)]; omega) (by rw [nI_clamp (by omega), nI_clamp (by omega)]; omega) (fun i _ => jz_F w hw _) (by first | exact Nat.le_of_ble_eq_true rfl | decide) (by first | exact Nat.le_of_ble_eq_true rfl | decide) dJ0_getBytes_840e7_22 (fun H locs hP hD hS => ?_)
  rw [sb_cl0, nI_clamp (by omega), nI_clamp (by omega)] at hP hD
  replace hP : va_P D kCl ([(bv, .inl (cy 3, bm, .inl (va_cpy (fun j => (zB w).getD j 0) ba 0 k (zB w).length)))]) H := hP
  replace hD : va_D _ ([(bv, .inl (cy 3, bm, .inl (va_cpy (fun j => (zB w).getD j 0) ba 0 k (zB w).length)))]) := hD
  refine lv_goto (tgt := 43) hx hb dJ0_getBytes_840e7_25 (by decide) ?_
  exact W.vret hx hb hr (fun t ht hW => ⟨⟨(), rfl, trivial, by rw [ht]; exact hP, hD⟩, hS.F ht⟩) hS.2.2 dJ0_getBytes_840e7_43 hlocks
section KYS
variable {p : Program} {l : Launch} {e : Env} {R : Room} {s : State} {m : MethodId} {args : Array Value} {H : Heap} {locs : List Loc} {D : va_G} {cy : Nat → ClassId} {wc : va_W} {A : Nat → Prop} {za zv : Nat → Nat} {Y : YB} {As : List Value}
theorem k_preYs (hY : mY Y A s s.heap) (hZ : mZ za zv A s s.heap) (hS : va_S A s.heap H locs) (hF : ∀ q, va_A wc H.size q → A q) (hK : mK D cy s) (hP : va_P D kCl wc H) (hD : va_D A wc) {w : Nat} (hw : w < 39) : PreV s H "java/lang/String" (za w) (va_Pc (.ref (za w) :: As) (kPreY D cy za zv Y H.size wc)) As := by
  refine ⟨fun a U g mk q => ?_, ?_, fun U hU hW => ⟨rfl, ⟨⟨by rw [hU], by rw [hU]; exact hP, hK.warm hW, hD.weaken (fun _ _ _ _ => trivial)⟩, hZ.at hS hF hU hW⟩, hY.at hS hF hU hW⟩⟩
  · obtain ⟨h0, ⟨⟨h1, h2, h3, h4⟩, h5⟩, h6⟩ := q
    exact ⟨h0, ⟨⟨h1, h2, h3.calling, h4⟩, h5.calling⟩, h6.calling⟩
  · obtain ⟨cell, h1, h2, h3, -⟩ := (hZ.2.2.2.2.1 w hw).2.1.kept hS.2.1
    exact ⟨cell, h1, h2, h3⟩
end KYS
theorem lkJ5_putStringAt_47b60_15 : Cond.fieldLink RJ5 15 "java/lang/AbstractStringBuilder" "value" "[B" ∈ wsJ5_putStringAt_47b60 := List.mem_of_getElem? (i := 1) rfl
theorem inJ5_putStringAt_47b60_J4 : ∀ w ∈ u_ws RJ4 TJ4 4, w ∈ wsJ5_putStringAt_47b60 := k_lays 75 rfl
theorem lkJ5_putStringAt_47b60_22 : Cond.fieldLink RJ5 22 "java/lang/AbstractStringBuilder" "coder" "B" ∈ wsJ5_putStringAt_47b60 := List.mem_of_getElem? (i := 2) rfl
theorem hdJ0_getBytes_840e7 : yJ0_getBytes_840e7.cls = RJ0 ∧ yJ0_getBytes_840e7.cls ≠ "java/lang/invoke/MethodHandle" ∧ yJ0_getBytes_840e7.cls ≠ "java/lang/invoke/VarHandle" ∧ (parseMethodDescriptor yJ0_getBytes_840e7.desc).map (fun d => d.parameters.length) = some 3 := by decide +kernel
abbrev rmJ5_putStringAt_47b60 : Room := { frames := 2, cells := 0, slots := 0, locals := 120 }
set_option maxHeartbeats 4000000 in
set_option maxRecDepth 100000 in
theorem cJ5_putStringAt_47b60M (l : Launch) (D : va_G) (cy : Nat → ClassId) (za zv : Nat → Nat) (Y : YB) (sz : Nat) (gb bv bm : Nat) (ba : Nat → Int32) (bn : Nat) (bz : Int32) (k w : Nat) (hw : w < 39) (hk : k + (zB w).length ≤ bm) (hbm : bm ≤ 1100) : Met l yJ5_putStringAt_47b60 wsJ5_putStringAt_47b60 rmJ5_putStringAt_47b60 (va_Pc [.ref gb, .int (nI k), .ref (za w)] (kPreY D cy za zv Y sz ([(gb, .inr (5, [.ref bv, .int 0, .int bz, .int (nI bn)])), (bv, .inl (cy 3, bm, .inl ba))]))) (va_Qv (fun _ : Unit => True) (fun _ => kPost D (va_A ([(gb, .inr (5, [.ref bv, .int 0, .int bz, .int (nI bn)])), (bv, .inl (cy 3, bm, .inl ba))]) sz) ([(gb, .inr (5, [.ref bv, .int 0, .int bz, .int (nI bn)])), (bv, .inl (cy 3, bm, .inl (va_cpy (fun j => (zB w).getD j 0) ba 0 k (zB w).length)))])) (va_A ([(gb, .inr (5, [.ref bv, .int 0, .int bz, .int (nI bn)])), (bv, .inl (cy 3, bm, .inl ba))]) sz)) 0 0 (va_A ([(gb, .inr (5, [.ref bv, .int 0, .int bz, .int (nI bn)])), (bv, .inl (cy 3, bm, .inl ba))]) sz) := by
  refine Met.ofW (cc := cJ5_putStringAt_47b60) (maxL := 3) (ret := none) (by decide) rfl ?_
  intro p e s m args below meth c s₁ B hml hv
  obtain ⟨rfl, ⟨⟨⟨hsz, hP, hK, hD0⟩, hZ⟩, hY⟩⟩ := hv
  subst hsz
  have hx := B.exec
  have hb := B.bytes
  have hr := B.returns
  have hts := atoms_spec (ws := wsJ5_putStringAt_47b60) B.pre
  have hown : s.vm.findClass RJ5 = some m.cls := findClass_of_methodNamed B.named
  have hlocks := B.notSynchronized
  have hA : ∀ q, s.heap.size ≤ q → va_A ([(gb, .inr (5, [.ref bv, .int 0, .int bz, .int (nI bn)])), (bv, .inl (cy 3, bm, .inl ba))]) s.heap.size q := fun q h => Or.inr h
  have hS : va_S (va_A ([(gb, .inr (5, [.ref bv, .int 0, .int bz, .int (nI bn)])), (bv, .inl (cy 3, bm, .inl ba))]) s.heap.size) s.heap s.heap [] := va_S.rf
  have hD : va_D (va_A ([(gb, .inr (5, [.ref bv, .int 0, .int bz, .int (nI bn)])), (bv, .inl (cy 3, bm, .inl ba))]) s.heap.size) ([(gb, .inr (5, [.ref bv, .int 0, .int bz, .int (nI bn)])), (bv, .inl (cy 3, bm, .inl ba))]) := hD0.self
  have hl := lv_entry ([.ref gb, .int (nI k), .ref (za w)]) (n := 3) (Nat.le_of_ble_eq_true rfl)
  rw [lg_entry_eq]
  generalize (lg_sl ([.ref gb, .int (nI k), .ref (za w)]) ++ List.replicate (3 - (lg_sl ([.ref gb, .int (nI k), .ref (za w)])).length) Slot.unset).toArray = ls at hl ⊢
  have hl : lv_has ls 3 [(0, .ref gb), (1, .int (nI k)), (2, .ref (za w))] := hl
  refine lv_aload_n hx hb dJ5_putStringAt_47b60_0 rfl (lv_at hl 0 rfl) ?_
  refine lv_aload_n hx hb dJ5_putStringAt_47b60_1 rfl (lv_at hl 2 rfl) ?_
  have hp := (show ([(gb, .inr (5, [.ref bv, .int 0, .int bz, .int (nI bn)])), (bv, .inl (cy 3, bm, .inl ba))] : va_W).Perm ([(gb, .inr (5, [.ref bv, .int 0, .int bz, .int (nI bn)])), (bv, .inl (cy 3, bm, .inl ba))] ++ []) from (List.append_nil _).symm ▸ List.Perm.refl _)
  refine jr_v (va_runU (b := gb) (As := [.ref (za w)]) (rest := []) ⟨hx, hb, hml, hown, hts⟩ (cJ5_inflateIfNeededFor_a7421M l D cy za zv Y _ gb bv bm ba bn bz w hw) (va_cwU 1 hts gJ5_putStringAt_47b60_J5_inflateIfNeededFor_a7421_u397J4 rfl rfl rfl rfl ⟨by decide +kernel, by decide +kernel, by decide +kernel⟩ ⟨Nat.le_of_ble_eq_true rfl, Nat.le_of_ble_eq_true rfl⟩) (k_preVY hY hZ hS (k_free hp hD hS hA) hK (kP_app.mp (kP_perm hp hP)).1 (kD_app (kD_perm hp hD)).1 (q0 := 0) (ci := 5) rfl rfl) rfl rfl hl.1 rfl (Nat.le_of_ble_eq_true rfl) dJ5_putStringAt_47b60_2 ⟨by first | exact Nat.le_of_ble_eq_true rfl | omega, by first | exact Nat.le_of_ble_eq_true rfl | (show _ ≤ (_ : Nat); omega)⟩) hp hP hD hS hA (fun u H locs hu3 hP hD hS => ?_)
  replace hP : va_P D kCl ([(gb, .inr (5, [.ref bv, .int 0, .int bz, .int (nI bn)])), (bv, .inl (cy 3, bm, .inl ba))]) H := hP
  replace hD : va_D _ ([(gb, .inr (5, [.ref bv, .int 0, .int bz, .int (nI bn)])), (bv, .inl (cy 3, bm, .inl ba))]) := hD
  refine lv_aload_n hx hb dJ5_putStringAt_47b60_5 rfl (lv_at hl 2 rfl) ?_
  refine lv_aload_n hx hb dJ5_putStringAt_47b60_6 rfl (lv_at hl 0 rfl) ?_
  refine k_get (v := .ref bv) (C := RJ4) (T := TJ4) (N := 4) hx hb hts inJ5_putStringAt_47b60_J4 hown hK hP 0 rfl rfl 0 (by decide) lkJ5_putStringAt_47b60_15 rfl dJ5_putStringAt_47b60_7 ?_
  refine lv_iload_n hx hb dJ5_putStringAt_47b60_10 rfl (lv_at hl 1 rfl) ?_
  refine lv_aload_n hx hb dJ5_putStringAt_47b60_11 rfl (lv_at hl 0 rfl) ?_
  refine k_get (v := .int 0) (C := RJ4) (T := TJ4) (N := 4) hx hb hts inJ5_putStringAt_47b60_J4 hown hK hP 0 rfl rfl 1 (by decide) lkJ5_putStringAt_47b60_22 rfl dJ5_putStringAt_47b60_12 ?_
  have hp := (k_pick (l := ([(gb, .inr (5, [.ref bv, .int 0, .int bz, .int (nI bn)])), (bv, .inl (cy 3, bm, .inl ba))] : va_W)) (k := 1) rfl)
  refine jr_v (wc := [(bv, .inl (cy 3, bm, .inl ba))]) (S := Unit) (mk := fun _ => [(bv, .inl (cy 3, bm, .inl (va_cpy (fun j => (zB w).getD j 0) ba 0 k (zB w).length)))]) (va_runV (b := za w) (As := [.ref bv, .int (nI k), .int 0]) (rest := []) ⟨hx, hb, hml, hown, hts⟩ (cJ0_getBytes_840e7M l D cy za zv Y _ bv bm ba k w hw hk hbm) (cwV 3 hts gJ5_putStringAt_47b60_J0_getBytes_840e7 rfl rfl rfl hdJ0_getBytes_840e7 ⟨Nat.le_of_ble_eq_true rfl, Nat.le_of_ble_eq_true rfl⟩) (k_preYs hY hZ hS (k_free hp hD hS hA) hK (kP_app.mp (kP_perm hp hP)).1 (kD_app (kD_perm hp hD)).1 hw) rfl rfl hl.1 rfl (Nat.le_of_ble_eq_true rfl) dJ5_putStringAt_47b60_15 ⟨by first | exact Nat.le_of_ble_eq_true rfl | omega, by first | exact Nat.le_of_ble_eq_true rfl | (show _ ≤ (_ : Nat); omega)⟩) hp hP hD hS hA (fun u H locs hu9 hP hD hS => ?_)
  replace hP : va_P D kCl ([(bv, .inl (cy 3, bm, .inl (va_cpy (fun j => (zB w).getD j 0) ba 0 k (zB w).length))), (gb, .inr (5, [.ref bv, .int 0, .int bz, .int (nI bn)]))]) H := hP
  replace hD : va_D _ ([(bv, .inl (cy 3, bm, .inl (va_cpy (fun j => (zB w).getD j 0) ba 0 k (zB w).length))), (gb, .inr (5, [.ref bv, .int 0, .int bz, .int (nI bn)]))]) := hD
  replace hP := kP_perm (show List.Perm ([(bv, .inl (cy 3, bm, .inl (va_cpy (fun j => (zB w).getD j 0) ba 0 k (zB w).length))), (gb, .inr (5, [.ref bv, .int 0, .int bz, .int (nI bn)]))] : va_W) ([(gb, .inr (5, [.ref bv, .int 0, .int bz, .int (nI bn)])), (bv, .inl (cy 3, bm, .inl (va_cpy (fun j => (zB w).getD j 0) ba 0 k (zB w).length)))]) from (List.reverse_perm ([(bv, .inl (cy 3, bm, .inl (va_cpy (fun j => (zB w).getD j 0) ba 0 k (zB w).length))), (gb, .inr (5, [.ref bv, .int 0, .int bz, .int (nI bn)]))] : va_W)).symm) hP
  replace hD := kD_perm (show List.Perm ([(bv, .inl (cy 3, bm, .inl (va_cpy (fun j => (zB w).getD j 0) ba 0 k (zB w).length))), (gb, .inr (5, [.ref bv, .int 0, .int bz, .int (nI bn)]))] : va_W) ([(gb, .inr (5, [.ref bv, .int 0, .int bz, .int (nI bn)])), (bv, .inl (cy 3, bm, .inl (va_cpy (fun j => (zB w).getD j 0) ba 0 k (zB w).length)))]) from (List.reverse_perm ([(bv, .inl (cy 3, bm, .inl (va_cpy (fun j => (zB w).getD j 0) ba 0 k (zB w).length))), (gb, .inr (5, [.ref bv, .int 0, .int bz, .int (nI bn)]))] : va_W)).symm) hD
  exact W.vret hx hb hr (fun t ht hW => ⟨⟨(), rfl, trivial, by rw [ht]; exact hP, hD⟩, hS.F ht⟩) hS.2.2 dJ5_putStringAt_47b60_18 hlocks
theorem lkJ5_append_cf1ce_79 : Cond.fieldLink RJ5 79 "java/lang/AbstractStringBuilder" "count" "I" ∈ wsJ5_append_cf1ce := List.mem_of_getElem? (i := 1) rfl
theorem inJ5_append_cf1ce_J4 : ∀ w ∈ u_ws RJ4 TJ4 4, w ∈ wsJ5_append_cf1ce := k_lays 138 rfl
abbrev rmJ5_append_cf1ce : Room := { frames := 4, cells := 1, slots := 1100, locals := 200 }
set_option maxHeartbeats 4000000 in
set_option maxRecDepth 100000 in
theorem cJ5_append_cf1ceM (l : Launch) (D : va_G) (cy : Nat → ClassId) (za zv : Nat → Nat) (Y : YB) (sz : Nat) (gb bv bm : Nat) (ba : Nat → Int32) (bn : Nat) (bz : Int32) (w : Nat) (hw : w < 39) (hq : bn + (zB w).length ≤ 520) (hm : bm ≤ 1100) (hn : bn ≤ bm) (hf : sb_Fit ba) : Met l yJ5_append_cf1ce wsJ5_append_cf1ce rmJ5_append_cf1ce (va_Pc [.ref gb, .ref (za w)] (kPreY D cy za zv Y sz ([(gb, .inr (5, [.ref bv, .int 0, .int bz, .int (nI bn)])), (bv, .inl (cy 3, bm, .inl ba))]))) (va_Qr (fun u : Nat × Nat × (Nat → Int32) => jApp ba bn (zL w).length (fun i => (zL w).getD i 0) u) (fun u ra t => ra = gb ∧ kPost D (va_A ([(gb, .inr (5, [.ref bv, .int 0, .int bz, .int (nI bn)])), (bv, .inl (cy 3, bm, .inl ba))]) sz) ([(gb, .inr (5, [.ref u.1, .int 0, .int bz, .int (nI (bn + (zL w).length))])), (u.1, .inl (cy 3, u.2.1, .inl u.2.2))]) t) (va_A ([(gb, .inr (5, [.ref bv, .int 0, .int bz, .int (nI bn)])), (bv, .inl (cy 3, bm, .inl ba))]) sz)) 1 1100 (va_A ([(gb, .inr (5, [.ref bv, .int 0, .int bz, .int (nI bn)])), (bv, .inl (cy 3, bm, .inl ba))]) sz) := by
  refine Met.ofW (cc := cJ5_append_cf1ce) (maxL := 3) (ret := (some (.object "java/lang/AbstractStringBuilder"))) (by decide) rfl ?_
  intro p e s m args below meth c s₁ B hml hv
  obtain ⟨rfl, ⟨⟨⟨hsz, hP, hK, hD0⟩, hZ⟩, hY⟩⟩ := hv
  subst hsz
  have hx := B.exec
  have hb := B.bytes
  have hr := B.returns
  have hts := atoms_spec (ws := wsJ5_append_cf1ce) B.pre
  have hown : s.vm.findClass RJ5 = some m.cls := findClass_of_methodNamed B.named
  have hlocks := B.notSynchronized
  have hA : ∀ q, s.heap.size ≤ q → va_A ([(gb, .inr (5, [.ref bv, .int 0, .int bz, .int (nI bn)])), (bv, .inl (cy 3, bm, .inl ba))]) s.heap.size q := fun q h => Or.inr h
  have hS : va_S (va_A ([(gb, .inr (5, [.ref bv, .int 0, .int bz, .int (nI bn)])), (bv, .inl (cy 3, bm, .inl ba))]) s.heap.size) s.heap s.heap [] := va_S.rf
  have hD : va_D (va_A ([(gb, .inr (5, [.ref bv, .int 0, .int bz, .int (nI bn)])), (bv, .inl (cy 3, bm, .inl ba))]) s.heap.size) ([(gb, .inr (5, [.ref bv, .int 0, .int bz, .int (nI bn)])), (bv, .inl (cy 3, bm, .inl ba))]) := hD0.self
  have hl := lv_entry ([.ref gb, .ref (za w)]) (n := 3) (Nat.le_of_ble_eq_true rfl)
  rw [lg_entry_eq]
  generalize (lg_sl ([.ref gb, .ref (za w)]) ++ List.replicate (3 - (lg_sl ([.ref gb, .ref (za w)])).length) Slot.unset).toArray = ls at hl ⊢
  have hl : lv_has ls 3 [(0, .ref gb), (1, .ref (za w))] := hl
  refine lv_aload_n hx hb dJ5_append_cf1ce_0 rfl (lv_at hl 1 rfl) ?_
  refine lv_ifnonnull (tgt := 9) hx hb dJ5_append_cf1ce_1 (by decide) ?_
  refine lv_aload_n hx hb dJ5_append_cf1ce_9 rfl (lv_at hl 1 rfl) ?_
  refine jr_i (wc := []) (wr := [(gb, .inr (5, [.ref bv, .int 0, .int bz, .int (nI bn)])), (bv, .inl (cy 3, bm, .inl ba))]) (S := Unit) (mk := fun _ => []) (va_runV (b := (za w)) (As := []) (rest := []) ⟨hx, hb, hml, hown, hts⟩ (cJ0_length_8abf5M l D cy za zv _ w hw (fun r => r = nI (zB w).length) ⟨_, rfl, rfl⟩) (cwV 0 hts gJ5_append_cf1ce_J0_length_8abf5 rfl rfl rfl hdJ0_length_8abf5 ⟨Nat.le_of_ble_eq_true rfl, Nat.le_of_ble_eq_true rfl⟩) (k_preVs hZ hS (k_free (wc := []) (wr := [(gb, .inr (5, [.ref bv, .int 0, .int bz, .int (nI bn)])), (bv, .inl (cy 3, bm, .inl ba))]) (List.Perm.refl _) hD hS hA) hK hw) rfl rfl hl.1 rfl (Nat.le_of_ble_eq_true rfl) dJ5_append_cf1ce_10 ⟨by first | exact Nat.le_of_ble_eq_true rfl | omega, by first | exact Nat.le_of_ble_eq_true rfl | (show _ ≤ (_ : Nat); omega)⟩) (List.Perm.refl _) hP hD hS hA (fun r u H locs hu3 hP hD hS => ?_)
  replace hu3 : r = nI (zB w).length := hu3
  subst hu3
  replace hP : va_P D kCl ([(gb, .inr (5, [.ref bv, .int 0, .int bz, .int (nI bn)])), (bv, .inl (cy 3, bm, .inl ba))]) H := hP
  replace hD : va_D _ ([(gb, .inr (5, [.ref bv, .int 0, .int bz, .int (nI bn)])), (bv, .inl (cy 3, bm, .inl ba))]) := hD
  refine lv_istore_n (lv' := [(2, .int (nI (zB w).length)), (0, .ref gb), (1, .ref (za w))]) hx hb dJ5_append_cf1ce_13 rfl hl (by decide) rfl (fun ls hl => ?_)
  refine lv_aload_n hx hb dJ5_append_cf1ce_14 rfl (lv_at hl 1 rfl) ?_
  refine lv_aload_n hx hb dJ5_append_cf1ce_15 rfl (lv_at hl 1 rfl) ?_
  refine k_get (v := .int (nI bn)) (C := RJ4) (T := TJ4) (N := 4) hx hb hts inJ5_append_cf1ce_J4 hown hK hP 0 rfl rfl 3 (by decide) lkJ5_append_cf1ce_79 rfl dJ5_append_cf1ce_16 ?_
  refine lv_iload_n hx hb dJ5_append_cf1ce_19 rfl (lv_at hl 0 rfl) ?_
  refine lv_iadd hx hb dJ5_append_cf1ce_20 ?_
  rw [show (((nI bn)) + ((nI (zB w).length)) : Int32) = nI (bn + (zB w).length) from nI_add _ _]
  have hp := (show ([(gb, .inr (5, [.ref bv, .int 0, .int bz, .int (nI bn)])), (bv, .inl (cy 3, bm, .inl ba))] : va_W).Perm ([(gb, .inr (5, [.ref bv, .int 0, .int bz, .int (nI bn)])), (bv, .inl (cy 3, bm, .inl ba))] ++ []) from (List.append_nil _).symm ▸ List.Perm.refl _)
  refine jr_v (va_runU (b := gb) (As := [.int (nI (bn + (zB w).length))]) (rest := []) ⟨hx, hb, hml, hown, hts⟩ (cJ5_ensureCapacityInternal_d00dfM l D cy za zv Y _ gb bv bm ba bn bz (bn + (zB w).length) hq hm hf) (va_cwU 1 hts gJ5_append_cf1ce_J5_ensureCapacityInternal_d00df_u100J4 rfl rfl rfl rfl ⟨by decide +kernel, by decide +kernel, by decide +kernel⟩ ⟨Nat.le_of_ble_eq_true rfl, Nat.le_of_ble_eq_true rfl⟩) (k_preVY hY hZ hS (k_free hp hD hS hA) hK (kP_app.mp (kP_perm hp hP)).1 (kD_app (kD_perm hp hD)).1 (q0 := 0) (ci := 5) rfl rfl) rfl rfl hl.1 rfl (Nat.le_of_ble_eq_true rfl) dJ5_append_cf1ce_21 ⟨by first | exact Nat.le_of_ble_eq_true rfl | omega, by first | exact Nat.le_of_ble_eq_true rfl | (show _ ≤ (_ : Nat); omega)⟩) hp hP hD hS hA (fun u H locs hu16 hP hD hS => ?_)
  obtain ⟨hu1, hu2, hu3, hu4, hu5⟩ := hu16
  replace hP : va_P D kCl ([(gb, .inr (5, [.ref u.1, .int 0, .int bz, .int (nI bn)])), (u.1, .inl (cy 3, u.2.1, .inl u.2.2))]) H := hP
  replace hD : va_D _ ([(gb, .inr (5, [.ref u.1, .int 0, .int bz, .int (nI bn)])), (u.1, .inl (cy 3, u.2.1, .inl u.2.2))]) := hD
  refine W.widen (k := 1) (n := 1100) (by first | exact Nat.le_of_ble_eq_true rfl | omega) (by first | exact Nat.le_of_ble_eq_true rfl | omega) ?_
  refine lv_aload_n hx hb dJ5_append_cf1ce_24 rfl (lv_at hl 1 rfl) ?_
  refine lv_aload_n hx hb dJ5_append_cf1ce_25 rfl (lv_at hl 1 rfl) ?_
  refine k_get (v := .int (nI bn)) (C := RJ4) (T := TJ4) (N := 4) hx hb hts inJ5_append_cf1ce_J4 hown hK hP 0 rfl rfl 3 (by decide) lkJ5_append_cf1ce_79 rfl dJ5_append_cf1ce_26 ?_
  refine lv_aload_n hx hb dJ5_append_cf1ce_29 rfl (lv_at hl 2 rfl) ?_
  have hp := (show ([(gb, .inr (5, [.ref u.1, .int 0, .int bz, .int (nI bn)])), (u.1, .inl (cy 3, u.2.1, .inl u.2.2))] : va_W).Perm ([(gb, .inr (5, [.ref u.1, .int 0, .int bz, .int (nI bn)])), (u.1, .inl (cy 3, u.2.1, .inl u.2.2))] ++ []) from (List.append_nil _).symm ▸ List.Perm.refl _)
  refine jr_v (va_runU (b := gb) (As := [.int (nI bn), .ref (za w)]) (rest := []) ⟨hx, hb, hml, hown, hts⟩ (cJ5_putStringAt_47b60M l D cy za zv Y _ gb u.1 u.2.1 u.2.2 bn bz bn w hw hu1 hu2) (va_cwU 2 hts gJ5_append_cf1ce_J5_putStringAt_47b60_u208J4 rfl rfl rfl rfl ⟨by decide +kernel, by decide +kernel, by decide +kernel⟩ ⟨Nat.le_of_ble_eq_true rfl, Nat.le_of_ble_eq_true rfl⟩) (k_preVY hY hZ hS (k_free hp hD hS hA) hK (kP_app.mp (kP_perm hp hP)).1 (kD_app (kD_perm hp hD)).1 (q0 := 0) (ci := 5) rfl rfl) rfl rfl hl.1 rfl (Nat.le_of_ble_eq_true rfl) dJ5_append_cf1ce_30 ⟨by first | exact Nat.le_of_ble_eq_true rfl | omega, by first | exact Nat.le_of_ble_eq_true rfl | (show _ ≤ (_ : Nat); omega)⟩) hp hP hD hS hA (fun w9 H locs hw926 hP hD hS => ?_)
  replace hP : va_P D kCl ([(gb, .inr (5, [.ref u.1, .int 0, .int bz, .int (nI bn)])), (u.1, .inl (cy 3, u.2.1, .inl (va_cpy (fun j => (zB w).getD j 0) u.2.2 0 bn (zB w).length)))]) H := hP
  replace hD : va_D _ ([(gb, .inr (5, [.ref u.1, .int 0, .int bz, .int (nI bn)])), (u.1, .inl (cy 3, u.2.1, .inl (va_cpy (fun j => (zB w).getD j 0) u.2.2 0 bn (zB w).length)))]) := hD
  refine lv_aload_n hx hb dJ5_append_cf1ce_33 rfl (lv_at hl 1 rfl) ?_
  refine lv_dup hx hb dJ5_append_cf1ce_34 rfl ?_
  refine k_get (v := .int (nI bn)) (C := RJ4) (T := TJ4) (N := 4) hx hb hts inJ5_append_cf1ce_J4 hown hK hP 0 rfl rfl 3 (by decide) lkJ5_append_cf1ce_79 rfl dJ5_append_cf1ce_35 ?_
  refine lv_iload_n hx hb dJ5_append_cf1ce_38 rfl (lv_at hl 0 rfl) ?_
  refine lv_iadd hx hb dJ5_append_cf1ce_39 ?_
  rw [show (((nI bn)) + ((nI (zB w).length)) : Int32) = nI (bn + (zB w).length) from nI_add _ _]
  refine k_put (v := .int (nI (bn + (zB w).length))) (ty := .int) (C := RJ4) (T := TJ4) (N := 4) hx hb hts inJ5_append_cf1ce_J4 tyJ4 tyJ4_ok nmJ4 hown hK hP hD hS 0 rfl rfl 3 (by decide) lkJ5_append_cf1ce_79 rfl (by decide +kernel) rfl rfl (Nat.le_of_ble_eq_true rfl) (ws' := [(gb, .inr (5, [.ref u.1, .int 0, .int bz, .int (nI (bn + (zB w).length))])), (u.1, .inl (cy 3, u.2.1, .inl (va_cpy (fun j => (zB w).getD j 0) u.2.2 0 bn (zB w).length)))]) rfl dJ5_append_cf1ce_40 (fun H locs hP hD hS => ?_)
  refine lv_aload_n hx hb dJ5_append_cf1ce_43 rfl (lv_at hl 1 rfl) ?_
  refine W.widen (k := 1) (n := 1100) (by first | exact Nat.le_of_ble_eq_true rfl | omega) (by first | exact Nat.le_of_ble_eq_true rfl | omega) ?_
  exact W.aret hx hb hr (Or.inl ⟨_, rfl⟩) (Or.inr ⟨_, rfl⟩) (fun t ht hW => ⟨⟨(u.1, u.2.1, (va_cpy (fun j => (zB w).getD j 0) u.2.2 0 bn (zB w).length)), gb, rfl, ⟨by rw [zL_len]; exact hu1, hu2, sb_fitC (jz_F w hw) hu4, fun j hj => ((jv_cpy (f := fun j => (zB w).getD j 0) (g := u.2.2) (d := bn) (n := (zB w).length) j).trans (if_neg (show ¬ (bn ≤ j ∧ j < bn + (zB w).length) from by omega))).trans (hu5 j (by omega)), fun i hi => jz_at hw i hi⟩, rfl, by rw [ht, zL_len]; exact hP, by rw [zL_len]; exact hD⟩, hS.F ht⟩) hS.2.2 dJ5_append_cf1ce_44 hlocks
theorem hpJ5_append_cf1ce : yJ5_append_cf1ce.name ≠ "<init>" ∧ (parseMethodDescriptor yJ5_append_cf1ce.desc).map (fun d => d.parameters.length) = some 1 := by decide +kernel
abbrev rmJ4_append_15ec4 : Room := { frames := 6, cells := 1, slots := 1100, locals := 300 }
set_option maxHeartbeats 4000000 in
set_option maxRecDepth 100000 in
theorem cJ4_append_15ec4M (l : Launch) (D : va_G) (cy : Nat → ClassId) (za zv : Nat → Nat) (Y : YB) (sz : Nat) (gb bv bm : Nat) (ba : Nat → Int32) (bn : Nat) (bz : Int32) (w : Nat) (hw : w < 39) (hq : bn + (zB w).length ≤ 520) (hm : bm ≤ 1100) (hn : bn ≤ bm) (hf : sb_Fit ba) : Met l yJ4_append_15ec4 wsJ4_append_15ec4 rmJ4_append_15ec4 (va_Pc [.ref gb, .ref (za w)] (kPreY D cy za zv Y sz ([(gb, .inr (5, [.ref bv, .int 0, .int bz, .int (nI bn)])), (bv, .inl (cy 3, bm, .inl ba))]))) (va_Qr (fun u : Nat × Nat × (Nat → Int32) => jApp ba bn (zL w).length (fun i => (zL w).getD i 0) u) (fun u ra t => ra = gb ∧ kPost D (va_A ([(gb, .inr (5, [.ref bv, .int 0, .int bz, .int (nI bn)])), (bv, .inl (cy 3, bm, .inl ba))]) sz) ([(gb, .inr (5, [.ref u.1, .int 0, .int bz, .int (nI (bn + (zL w).length))])), (u.1, .inl (cy 3, u.2.1, .inl u.2.2))]) t) (va_A ([(gb, .inr (5, [.ref bv, .int 0, .int bz, .int (nI bn)])), (bv, .inl (cy 3, bm, .inl ba))]) sz)) 1 1100 (va_A ([(gb, .inr (5, [.ref bv, .int 0, .int bz, .int (nI bn)])), (bv, .inl (cy 3, bm, .inl ba))]) sz) := by
  refine Met.ofW (cc := cJ4_append_15ec4) (maxL := 2) (ret := (some (.object "java/lang/StringBuilder"))) (by decide) rfl ?_
  intro p e s m args below meth c s₁ B hml hv
  obtain ⟨rfl, ⟨⟨⟨hsz, hP, hK, hD0⟩, hZ⟩, hY⟩⟩ := hv
  subst hsz
  have hx := B.exec
  have hb := B.bytes
  have hr := B.returns
  have hts := atoms_spec (ws := wsJ4_append_15ec4) B.pre
  have hown : s.vm.findClass RJ4 = some m.cls := findClass_of_methodNamed B.named
  have hlocks := B.notSynchronized
  have hA : ∀ q, s.heap.size ≤ q → va_A ([(gb, .inr (5, [.ref bv, .int 0, .int bz, .int (nI bn)])), (bv, .inl (cy 3, bm, .inl ba))]) s.heap.size q := fun q h => Or.inr h
  have hS : va_S (va_A ([(gb, .inr (5, [.ref bv, .int 0, .int bz, .int (nI bn)])), (bv, .inl (cy 3, bm, .inl ba))]) s.heap.size) s.heap s.heap [] := va_S.rf
  have hD : va_D (va_A ([(gb, .inr (5, [.ref bv, .int 0, .int bz, .int (nI bn)])), (bv, .inl (cy 3, bm, .inl ba))]) s.heap.size) ([(gb, .inr (5, [.ref bv, .int 0, .int bz, .int (nI bn)])), (bv, .inl (cy 3, bm, .inl ba))]) := hD0.self
  have hl := lv_entry ([.ref gb, .ref (za w)]) (n := 2) (Nat.le_of_ble_eq_true rfl)
  rw [lg_entry_eq]
  generalize (lg_sl ([.ref gb, .ref (za w)]) ++ List.replicate (2 - (lg_sl ([.ref gb, .ref (za w)])).length) Slot.unset).toArray = ls at hl ⊢
  have hl : lv_has ls 2 [(0, .ref gb), (1, .ref (za w))] := hl
  refine lv_aload_n hx hb dJ4_append_15ec4_0 rfl (lv_at hl 0 rfl) ?_
  refine lv_aload_n hx hb dJ4_append_15ec4_1 rfl (lv_at hl 1 rfl) ?_
  have hp := (show ([(gb, .inr (5, [.ref bv, .int 0, .int bz, .int (nI bn)])), (bv, .inl (cy 3, bm, .inl ba))] : va_W).Perm ([(gb, .inr (5, [.ref bv, .int 0, .int bz, .int (nI bn)])), (bv, .inl (cy 3, bm, .inl ba))] ++ []) from (List.append_nil _).symm ▸ List.Perm.refl _)
  refine jr_t (va_runSU (hK.1.1 5 _ rfl).2 (b := gb) (As := [.ref (za w)]) (rest := []) ⟨hx, hb, hml, hown, hts⟩ (cJ5_append_cf1ceM l D cy za zv Y _ gb bv bm ba bn bz w hw hq hm hn hf) (va_cwSU 1 hts gJ4_append_15ec4_J5_append_cf1ce_s29 rfl rfl rfl hpJ5_append_cf1ce ⟨Nat.le_of_ble_eq_true rfl, Nat.le_of_ble_eq_true rfl⟩) (k_preVY hY hZ hS (k_free hp hD hS hA) hK (kP_app.mp (kP_perm hp hP)).1 (kD_app (kD_perm hp hD)).1 (q0 := 0) (ci := 5) rfl rfl) rfl rfl hl.1 rfl (Nat.le_of_ble_eq_true rfl) dJ4_append_15ec4_2 ⟨by first | exact Nat.le_of_ble_eq_true rfl | omega, by first | exact Nat.le_of_ble_eq_true rfl | (show _ ≤ (_ : Nat); omega)⟩) hp hP hD hS hA (fun u H locs hu3 hP hD hS => ?_)
  replace hP : va_P D kCl ([(gb, .inr (5, [.ref u.1, .int 0, .int bz, .int (nI (bn + (zL w).length))])), (u.1, .inl (cy 3, u.2.1, .inl u.2.2))]) H := hP
  replace hD : va_D _ ([(gb, .inr (5, [.ref u.1, .int 0, .int bz, .int (nI (bn + (zL w).length))])), (u.1, .inl (cy 3, u.2.1, .inl u.2.2))]) := hD
  refine W.widen (k := 1) (n := 1100) (by first | exact Nat.le_of_ble_eq_true rfl | omega) (by first | exact Nat.le_of_ble_eq_true rfl | omega) ?_
  refine lv_pop hx hb dJ4_append_15ec4_5 rfl ?_
  refine lv_aload_n hx hb dJ4_append_15ec4_6 rfl (lv_at hl 0 rfl) ?_
  refine W.widen (k := 1) (n := 1100) (by first | exact Nat.le_of_ble_eq_true rfl | omega) (by first | exact Nat.le_of_ble_eq_true rfl | omega) ?_
  exact W.aret hx hb hr (Or.inl ⟨_, rfl⟩) (Or.inr ⟨_, rfl⟩) (fun t ht hW => ⟨⟨u, gb, rfl, hu3, rfl, by rw [ht]; exact hP, hD⟩, hS.F ht⟩) hS.2.2 dJ4_append_15ec4_7 hlocks
theorem lkJ5_getValue_6d5f1_15 : Cond.fieldLink RJ5 15 "java/lang/AbstractStringBuilder" "value" "[B" ∈ wsJ5_getValue_6d5f1 := List.mem_of_getElem? (i := 1) rfl
theorem inJ5_getValue_6d5f1_J4 : ∀ w ∈ u_ws RJ4 TJ4 4, w ∈ wsJ5_getValue_6d5f1 := k_lays 2 rfl
abbrev rmJ5_getValue_6d5f1 : Room := { frames := 0, cells := 0, slots := 0, locals := 0 }
set_option maxHeartbeats 4000000 in
set_option maxRecDepth 100000 in
theorem cJ5_getValue_6d5f1M (l : Launch) (D : va_G) (cy : Nat → ClassId) (za zv : Nat → Nat) (Y : YB) (sz : Nat) (gb bv bm : Nat) (ba : Nat → Int32) (bn : Nat) (bz : Int32) : Met l yJ5_getValue_6d5f1 wsJ5_getValue_6d5f1 rmJ5_getValue_6d5f1 (va_Pc [.ref gb] (kPreY D cy za zv Y sz ([(gb, .inr (5, [.ref bv, .int 0, .int bz, .int (nI bn)])), (bv, .inl (cy 3, bm, .inl ba))]))) (va_Qr (fun _ : Unit => True) (fun _ ra t => ra = bv ∧ kPost D (va_A ([(gb, .inr (5, [.ref bv, .int 0, .int bz, .int (nI bn)])), (bv, .inl (cy 3, bm, .inl ba))]) sz) ([(gb, .inr (5, [.ref bv, .int 0, .int bz, .int (nI bn)])), (bv, .inl (cy 3, bm, .inl ba))]) t) (va_A ([(gb, .inr (5, [.ref bv, .int 0, .int bz, .int (nI bn)])), (bv, .inl (cy 3, bm, .inl ba))]) sz)) 0 0 (va_A ([(gb, .inr (5, [.ref bv, .int 0, .int bz, .int (nI bn)])), (bv, .inl (cy 3, bm, .inl ba))]) sz) := by
  refine Met.ofW (cc := cJ5_getValue_6d5f1) (maxL := 1) (ret := (some (.array .byte))) (by decide) rfl ?_
  intro p e s m args below meth c s₁ B hml hv
  obtain ⟨rfl, ⟨⟨⟨hsz, hP, hK, hD0⟩, hZ⟩, hY⟩⟩ := hv
  subst hsz
  have hx := B.exec
  have hb := B.bytes
  have hr := B.returns
  have hts := atoms_spec (ws := wsJ5_getValue_6d5f1) B.pre
  have hown : s.vm.findClass RJ5 = some m.cls := findClass_of_methodNamed B.named
  have hlocks := B.notSynchronized
  have hA : ∀ q, s.heap.size ≤ q → va_A ([(gb, .inr (5, [.ref bv, .int 0, .int bz, .int (nI bn)])), (bv, .inl (cy 3, bm, .inl ba))]) s.heap.size q := fun q h => Or.inr h
  have hS : va_S (va_A ([(gb, .inr (5, [.ref bv, .int 0, .int bz, .int (nI bn)])), (bv, .inl (cy 3, bm, .inl ba))]) s.heap.size) s.heap s.heap [] := va_S.rf
  have hD : va_D (va_A ([(gb, .inr (5, [.ref bv, .int 0, .int bz, .int (nI bn)])), (bv, .inl (cy 3, bm, .inl ba))]) s.heap.size) ([(gb, .inr (5, [.ref bv, .int 0, .int bz, .int (nI bn)])), (bv, .inl (cy 3, bm, .inl ba))]) := hD0.self
  have hl := lv_entry ([.ref gb]) (n := 1) (Nat.le_of_ble_eq_true rfl)
  rw [lg_entry_eq]
  generalize (lg_sl ([.ref gb]) ++ List.replicate (1 - (lg_sl ([.ref gb])).length) Slot.unset).toArray = ls at hl ⊢
  have hl : lv_has ls 1 [(0, .ref gb)] := hl
  refine lv_aload_n hx hb dJ5_getValue_6d5f1_0 rfl (lv_at hl 0 rfl) ?_
  refine k_get (v := .ref bv) (C := RJ4) (T := TJ4) (N := 4) hx hb hts inJ5_getValue_6d5f1_J4 hown hK hP 0 rfl rfl 0 (by decide) lkJ5_getValue_6d5f1_15 rfl dJ5_getValue_6d5f1_1 ?_
  exact W.aret hx hb hr (Or.inr ⟨_, rfl⟩) (Or.inr ⟨_, rfl⟩) (fun t ht hW => ⟨⟨(), bv, rfl, trivial, rfl, by rw [ht]; exact hP, hD⟩, hS.F ht⟩) hS.2.2 dJ5_getValue_6d5f1_4 hlocks
theorem lkJ5_length_8abf5_79 : Cond.fieldLink RJ5 79 "java/lang/AbstractStringBuilder" "count" "I" ∈ wsJ5_length_8abf5 := List.mem_of_getElem? (i := 1) rfl
theorem inJ5_length_8abf5_J4 : ∀ w ∈ u_ws RJ4 TJ4 4, w ∈ wsJ5_length_8abf5 := k_lays 2 rfl
abbrev rmJ5_length_8abf5 : Room := { frames := 0, cells := 0, slots := 0, locals := 0 }
set_option maxHeartbeats 4000000 in
set_option maxRecDepth 100000 in
theorem cJ5_length_8abf5M (l : Launch) (D : va_G) (cy : Nat → ClassId) (za zv : Nat → Nat) (Y : YB) (sz : Nat) (gb bv bm : Nat) (ba : Nat → Int32) (bn : Nat) (bz : Int32) : Met l yJ5_length_8abf5 wsJ5_length_8abf5 rmJ5_length_8abf5 (va_Pc [.ref gb] (kPreY D cy za zv Y sz ([(gb, .inr (5, [.ref bv, .int 0, .int bz, .int (nI bn)])), (bv, .inl (cy 3, bm, .inl ba))]))) (va_Qi (fun r (_ : Unit) => r = nI bn) (fun _ => kPost D (va_A ([(gb, .inr (5, [.ref bv, .int 0, .int bz, .int (nI bn)])), (bv, .inl (cy 3, bm, .inl ba))]) sz) ([(gb, .inr (5, [.ref bv, .int 0, .int bz, .int (nI bn)])), (bv, .inl (cy 3, bm, .inl ba))])) (va_A ([(gb, .inr (5, [.ref bv, .int 0, .int bz, .int (nI bn)])), (bv, .inl (cy 3, bm, .inl ba))]) sz)) 0 0 (va_A ([(gb, .inr (5, [.ref bv, .int 0, .int bz, .int (nI bn)])), (bv, .inl (cy 3, bm, .inl ba))]) sz) := by
  refine Met.ofW (cc := cJ5_length_8abf5) (maxL := 1) (ret := (some .int)) (by decide) rfl ?_
  intro p e s m args below meth c s₁ B hml hv
  obtain ⟨rfl, ⟨⟨⟨hsz, hP, hK, hD0⟩, hZ⟩, hY⟩⟩ := hv
  subst hsz
  have hx := B.exec
  have hb := B.bytes
  have hr := B.returns
  have hts := atoms_spec (ws := wsJ5_length_8abf5) B.pre
  have hown : s.vm.findClass RJ5 = some m.cls := findClass_of_methodNamed B.named
  have hlocks := B.notSynchronized
  have hA : ∀ q, s.heap.size ≤ q → va_A ([(gb, .inr (5, [.ref bv, .int 0, .int bz, .int (nI bn)])), (bv, .inl (cy 3, bm, .inl ba))]) s.heap.size q := fun q h => Or.inr h
  have hS : va_S (va_A ([(gb, .inr (5, [.ref bv, .int 0, .int bz, .int (nI bn)])), (bv, .inl (cy 3, bm, .inl ba))]) s.heap.size) s.heap s.heap [] := va_S.rf
  have hD : va_D (va_A ([(gb, .inr (5, [.ref bv, .int 0, .int bz, .int (nI bn)])), (bv, .inl (cy 3, bm, .inl ba))]) s.heap.size) ([(gb, .inr (5, [.ref bv, .int 0, .int bz, .int (nI bn)])), (bv, .inl (cy 3, bm, .inl ba))]) := hD0.self
  have hl := lv_entry ([.ref gb]) (n := 1) (Nat.le_of_ble_eq_true rfl)
  rw [lg_entry_eq]
  generalize (lg_sl ([.ref gb]) ++ List.replicate (1 - (lg_sl ([.ref gb])).length) Slot.unset).toArray = ls at hl ⊢
  have hl : lv_has ls 1 [(0, .ref gb)] := hl
  refine lv_aload_n hx hb dJ5_length_8abf5_0 rfl (lv_at hl 0 rfl) ?_
  refine k_get (v := .int (nI bn)) (C := RJ4) (T := TJ4) (N := 4) hx hb hts inJ5_length_8abf5_J4 hown hK hP 0 rfl rfl 3 (by decide) lkJ5_length_8abf5_79 rfl dJ5_length_8abf5_1 ?_
  exact W.iret hx hb hr (fun t ht hW => ⟨⟨_, (), rfl, rfl, by rw [ht]; exact hP, hD⟩, hS.F ht⟩) hS.2.2 dJ5_length_8abf5_4 hlocks
theorem hpJ5_length_8abf5 : yJ5_length_8abf5.name ≠ "<init>" ∧ (parseMethodDescriptor yJ5_length_8abf5.desc).map (fun d => d.parameters.length) = some 0 := by decide +kernel
abbrev rmJ4_length_8abf5 : Room := { frames := 1, cells := 0, slots := 0, locals := 30 }
set_option maxHeartbeats 4000000 in
set_option maxRecDepth 100000 in
theorem cJ4_length_8abf5M (l : Launch) (D : va_G) (cy : Nat → ClassId) (za zv : Nat → Nat) (Y : YB) (sz : Nat) (gb bv bm : Nat) (ba : Nat → Int32) (bn : Nat) (bz : Int32) : Met l yJ4_length_8abf5 wsJ4_length_8abf5 rmJ4_length_8abf5 (va_Pc [.ref gb] (kPreY D cy za zv Y sz ([(gb, .inr (5, [.ref bv, .int 0, .int bz, .int (nI bn)])), (bv, .inl (cy 3, bm, .inl ba))]))) (va_Qi (fun r (_ : Unit) => r = nI bn) (fun _ => kPost D (va_A ([(gb, .inr (5, [.ref bv, .int 0, .int bz, .int (nI bn)])), (bv, .inl (cy 3, bm, .inl ba))]) sz) ([(gb, .inr (5, [.ref bv, .int 0, .int bz, .int (nI bn)])), (bv, .inl (cy 3, bm, .inl ba))])) (va_A ([(gb, .inr (5, [.ref bv, .int 0, .int bz, .int (nI bn)])), (bv, .inl (cy 3, bm, .inl ba))]) sz)) 0 0 (va_A ([(gb, .inr (5, [.ref bv, .int 0, .int bz, .int (nI bn)])), (bv, .inl (cy 3, bm, .inl ba))]) sz) := by
  refine Met.ofW (cc := cJ4_length_8abf5) (maxL := 1) (ret := (some .int)) (by decide) rfl ?_
  intro p e s m args below meth c s₁ B hml hv
  obtain ⟨rfl, ⟨⟨⟨hsz, hP, hK, hD0⟩, hZ⟩, hY⟩⟩ := hv
  subst hsz
  have hx := B.exec
  have hb := B.bytes
  have hr := B.returns
  have hts := atoms_spec (ws := wsJ4_length_8abf5) B.pre
  have hown : s.vm.findClass RJ4 = some m.cls := findClass_of_methodNamed B.named
  have hlocks := B.notSynchronized
  have hA : ∀ q, s.heap.size ≤ q → va_A ([(gb, .inr (5, [.ref bv, .int 0, .int bz, .int (nI bn)])), (bv, .inl (cy 3, bm, .inl ba))]) s.heap.size q := fun q h => Or.inr h
  have hS : va_S (va_A ([(gb, .inr (5, [.ref bv, .int 0, .int bz, .int (nI bn)])), (bv, .inl (cy 3, bm, .inl ba))]) s.heap.size) s.heap s.heap [] := va_S.rf
  have hD : va_D (va_A ([(gb, .inr (5, [.ref bv, .int 0, .int bz, .int (nI bn)])), (bv, .inl (cy 3, bm, .inl ba))]) s.heap.size) ([(gb, .inr (5, [.ref bv, .int 0, .int bz, .int (nI bn)])), (bv, .inl (cy 3, bm, .inl ba))]) := hD0.self
  have hl := lv_entry ([.ref gb]) (n := 1) (Nat.le_of_ble_eq_true rfl)
  rw [lg_entry_eq]
  generalize (lg_sl ([.ref gb]) ++ List.replicate (1 - (lg_sl ([.ref gb])).length) Slot.unset).toArray = ls at hl ⊢
  have hl : lv_has ls 1 [(0, .ref gb)] := hl
  refine lv_aload_n hx hb dJ4_length_8abf5_0 rfl (lv_at hl 0 rfl) ?_
  have hp := (show ([(gb, .inr (5, [.ref bv, .int 0, .int bz, .int (nI bn)])), (bv, .inl (cy 3, bm, .inl ba))] : va_W).Perm ([(gb, .inr (5, [.ref bv, .int 0, .int bz, .int (nI bn)])), (bv, .inl (cy 3, bm, .inl ba))] ++ []) from (List.append_nil _).symm ▸ List.Perm.refl _)
  refine jr_i (va_runSU (hK.1.1 5 _ rfl).2 (b := gb) (As := []) (rest := []) ⟨hx, hb, hml, hown, hts⟩ (cJ5_length_8abf5M l D cy za zv Y _ gb bv bm ba bn bz) (va_cwSU 0 hts gJ4_length_8abf5_J5_length_8abf5_s343 rfl rfl rfl hpJ5_length_8abf5 ⟨Nat.le_of_ble_eq_true rfl, Nat.le_of_ble_eq_true rfl⟩) (k_preVY hY hZ hS (k_free hp hD hS hA) hK (kP_app.mp (kP_perm hp hP)).1 (kD_app (kD_perm hp hD)).1 (q0 := 0) (ci := 5) rfl rfl) rfl rfl hl.1 rfl (Nat.le_of_ble_eq_true rfl) dJ4_length_8abf5_1 ⟨by first | exact Nat.le_of_ble_eq_true rfl | omega, by first | exact Nat.le_of_ble_eq_true rfl | (show _ ≤ (_ : Nat); omega)⟩) hp hP hD hS hA (fun r u9 H locs hu92 hP hD hS => ?_)
  subst hu92
  replace hP : va_P D kCl ([(gb, .inr (5, [.ref bv, .int 0, .int bz, .int (nI bn)])), (bv, .inl (cy 3, bm, .inl ba))]) H := hP
  replace hD : va_D _ ([(gb, .inr (5, [.ref bv, .int 0, .int bz, .int (nI bn)])), (bv, .inl (cy 3, bm, .inl ba))]) := hD
  exact W.iret hx hb hr (fun t ht hW => ⟨⟨_, (), rfl, rfl, by rw [ht]; exact hP, hD⟩, hS.F ht⟩) hS.2.2 dJ4_length_8abf5_4 hlocks
abbrev rmJ7_checkLength_df160 : Room := { frames := 0, cells := 0, slots := 0, locals := 0 }
set_option maxHeartbeats 4000000 in
set_option maxRecDepth 100000 in
theorem cJ7_checkLength_df160M (l : Launch) (D : va_G) (cy : Nat → ClassId) (za zv : Nat → Nat) (Y : YB) (sz : Nat) (x y : Nat) (hxy : x ≤ y) (hy : y < 100000) : Met l yJ7_checkLength_df160 wsJ7_checkLength_df160 rmJ7_checkLength_df160 (va_Pc [.int (nI x), .int (nI y)] (kPreY D cy za zv Y sz ([]))) (va_Qv (fun _ : Unit => True) (fun _ => kPost D (va_A ([]) sz) ([] : va_W)) (va_A ([]) sz)) 0 0 (va_A ([]) sz) := by
  refine Met.ofW (cc := cJ7_checkLength_df160) (maxL := 2) (ret := none) (by decide) rfl ?_
  intro p e s m args below meth c s₁ B hml hv
  obtain ⟨rfl, ⟨⟨⟨hsz, hP, hK, hD0⟩, hZ⟩, hY⟩⟩ := hv
  subst hsz
  have hx := B.exec
  have hb := B.bytes
  have hr := B.returns
  have hts := atoms_spec (ws := wsJ7_checkLength_df160) B.pre
  have hown : s.vm.findClass RJ7 = some m.cls := findClass_of_methodNamed B.named
  have hlocks := B.notSynchronized
  have hA : ∀ q, s.heap.size ≤ q → va_A ([]) s.heap.size q := fun q h => Or.inr h
  have hS : va_S (va_A ([]) s.heap.size) s.heap s.heap [] := va_S.rf
  have hD : va_D (va_A ([]) s.heap.size) ([]) := hD0.self
  have hl := lv_entry ([.int (nI x), .int (nI y)]) (n := 2) (Nat.le_of_ble_eq_true rfl)
  rw [lg_entry_eq]
  generalize (lg_sl ([.int (nI x), .int (nI y)]) ++ List.replicate (2 - (lg_sl ([.int (nI x), .int (nI y)])).length) Slot.unset).toArray = ls at hl ⊢
  have hl : lv_has ls 2 [(0, .int (nI x)), (1, .int (nI y))] := hl
  refine lv_iload_n hx hb dJ7_checkLength_df160_0 rfl (lv_at hl 1 rfl) ?_
  refine lv_iload_n hx hb dJ7_checkLength_df160_1 rfl (lv_at hl 0 rfl) ?_
  refine lv_icmp_ge (tgt := 37) hx hb dJ7_checkLength_df160_2 (by decide) (fun _ => ?_) (fun c => absurd (nI_le hxy (by omega)) c)
  exact W.vret hx hb hr (fun t ht hW => ⟨⟨(), rfl, trivial, by rw [ht]; exact hP, hD⟩, hS.F ht⟩) hS.2.2 dJ7_checkLength_df160_37 hlocks
theorem heJ7_checkLength_df160 : yJ7_checkLength_df160.cls ≠ "java/lang/invoke/MethodHandle" ∧ yJ7_checkLength_df160.cls ≠ "java/lang/invoke/VarHandle" ∧ (parseMethodDescriptor yJ7_checkLength_df160.desc).map (fun d => d.parameters.length) = some 2 := by decide +kernel
abbrev rmJ7_copyOfRangeByte_39247 : Room := { frames := 1, cells := 1, slots := 1100, locals := 60 }
set_option maxHeartbeats 4000000 in
set_option maxRecDepth 100000 in
theorem cJ7_copyOfRangeByte_39247M (l : Launch) (D : va_G) (cy : Nat → ClassId) (za zv : Nat → Nat) (Y : YB) (sz : Nat) (bv bm : Nat) (ba : Nat → Int32) (q : Nat) (hq : q ≤ bm) (hm : bm ≤ 1100) (hf : sb_Fit ba) : Met l yJ7_copyOfRangeByte_39247 wsJ7_copyOfRangeByte_39247 rmJ7_copyOfRangeByte_39247 (va_Pc [.ref bv, .int (nI 0), .int (nI q)] (kPreY D cy za zv Y sz ([(bv, .inl (cy 3, bm, .inl ba))]))) (va_Qr (fun u : Nat → Int32 => sb_Fit u ∧ ∀ j, j < q → u j = ba j) (fun u ra t => kPost D (va_A ([(bv, .inl (cy 3, bm, .inl ba))]) sz) ([(bv, .inl (cy 3, bm, .inl ba)), (ra, .inl (cy 3, q, .inl u))]) t) (va_A ([(bv, .inl (cy 3, bm, .inl ba))]) sz)) 1 1100 (va_A ([(bv, .inl (cy 3, bm, .inl ba))]) sz) := by
  refine Met.ofW (cc := cJ7_copyOfRangeByte_39247) (maxL := 5) (ret := (some (.array .byte))) (by decide) rfl ?_
  intro p e s m args below meth c s₁ B hml hv
  obtain ⟨rfl, ⟨⟨⟨hsz, hP, hK, hD0⟩, hZ⟩, hY⟩⟩ := hv
  subst hsz
  have hx := B.exec
  have hb := B.bytes
  have hr := B.returns
  have hts := atoms_spec (ws := wsJ7_copyOfRangeByte_39247) B.pre
  have hown : s.vm.findClass RJ7 = some m.cls := findClass_of_methodNamed B.named
  have hlocks := B.notSynchronized
  have hA : ∀ q, s.heap.size ≤ q → va_A ([(bv, .inl (cy 3, bm, .inl ba))]) s.heap.size q := fun q h => Or.inr h
  have hS : va_S (va_A ([(bv, .inl (cy 3, bm, .inl ba))]) s.heap.size) s.heap s.heap [] := va_S.rf
  have hD : va_D (va_A ([(bv, .inl (cy 3, bm, .inl ba))]) s.heap.size) ([(bv, .inl (cy 3, bm, .inl ba))]) := hD0.self
  have hl := lv_entry ([.ref bv, .int (nI 0), .int (nI q)]) (n := 5) (Nat.le_of_ble_eq_true rfl)
  rw [lg_entry_eq]
  generalize (lg_sl ([.ref bv, .int (nI 0), .int (nI q)]) ++ List.replicate (5 - (lg_sl ([.ref bv, .int (nI 0), .int (nI q)])).length) Slot.unset).toArray = ls at hl ⊢
  have hl : lv_has ls 5 [(0, .ref bv), (1, .int (nI 0)), (2, .int (nI q))] := hl
  refine lv_iload_n hx hb dJ7_copyOfRangeByte_39247_0 rfl (lv_at hl 1 rfl) ?_
  refine lv_iload_n hx hb dJ7_copyOfRangeByte_39247_1 rfl (lv_at hl 2 rfl) ?_
  have hp := (show ([(bv, .inl (cy 3, bm, .inl ba))] : va_W).Perm ([] ++ [(bv, .inl (cy 3, bm, .inl ba))]) from List.Perm.refl _)
  refine jr_v (va_runS (As := [.int (nI 0), .int (nI q)]) (rest := []) ⟨hx, hb, hml, hown, hts⟩ (cJ7_checkLength_df160M l D cy za zv Y _ 0 q (Nat.zero_le _) (by omega)) (va_cwS 2 hts gJ7_copyOfRangeByte_39247_J7_checkLength_df160 rfl rfl rfl heJ7_checkLength_df160 ⟨Nat.le_of_ble_eq_true rfl, Nat.le_of_ble_eq_true rfl⟩) (k_preSY hY hZ hS (k_free hp hD hS hA) hK (kP_app.mp (kP_perm hp hP)).1 (kD_app (kD_perm hp hD)).1) rfl rfl hl.1 rfl (Nat.le_of_ble_eq_true rfl) dJ7_copyOfRangeByte_39247_2 ⟨by first | exact Nat.le_of_ble_eq_true rfl | omega, by first | exact Nat.le_of_ble_eq_true rfl | (show _ ≤ (_ : Nat); omega)⟩) hp hP hD hS hA (fun u H locs hu3 hP hD hS => ?_)
  replace hP : va_P D kCl ([(bv, .inl (cy 3, bm, .inl ba))]) H := hP
  replace hD : va_D _ ([(bv, .inl (cy 3, bm, .inl ba))]) := hD
  refine lv_iload_n hx hb dJ7_copyOfRangeByte_39247_5 rfl (lv_at hl 2 rfl) ?_
  refine lv_iload_n hx hb dJ7_copyOfRangeByte_39247_6 rfl (lv_at hl 1 rfl) ?_
  refine lv_isub hx hb dJ7_copyOfRangeByte_39247_7 ?_
  rw [show (((nI q)) - ((nI 0)) : Int32) = nI q from (pk_sub (Nat.zero_le q)).trans rfl]
  refine lv_istore_n (lv' := [(3, .int (nI q)), (0, .ref bv), (1, .int (nI 0)), (2, .int (nI q))]) hx hb dJ7_copyOfRangeByte_39247_8 rfl hl (by decide) rfl (fun ls hl => ?_)
  refine lv_iload_n hx hb dJ7_copyOfRangeByte_39247_9 rfl (lv_at hl 0 rfl) ?_
  refine k_newb (k := q) hx hb (hts _ (List.mem_of_getElem? (i := 1) rfl)) hK hP hD hS hA (nI_pos (by omega)) (nI_clamp (by omega)) (by omega) (by exact Nat.le_of_ble_eq_true rfl) (by show 0 + q ≤ 1100; omega) dJ7_copyOfRangeByte_39247_10 (fun nv H hP hD hS => ?_)
  replace hP : va_P D kCl ([(bv, .inl (cy 3, bm, .inl ba)), (nv, .inl (cy 3, q, .inl (fun _ => 0)))]) H := hP
  replace hD : va_D _ ([(bv, .inl (cy 3, bm, .inl ba)), (nv, .inl (cy 3, q, .inl (fun _ => 0)))]) := hD
  refine W.widen (k := 1) (n := 1100) (Nat.le_of_ble_eq_true rfl) (by omega) ?_
  refine lv_astore (lv' := [(4, .ref nv), (3, .int (nI q)), (0, .ref bv), (1, .int (nI 0)), (2, .int (nI q))]) hx hb dJ7_copyOfRangeByte_39247_12 hl (by decide) rfl (fun ls hl => ?_)
  refine lv_aload_n hx hb dJ7_copyOfRangeByte_39247_14 rfl (lv_at hl 2 rfl) ?_
  refine lv_iload_n hx hb dJ7_copyOfRangeByte_39247_15 rfl (lv_at hl 3 rfl) ?_
  refine lv_aload hx hb dJ7_copyOfRangeByte_39247_16 (lv_at hl 0 rfl) ?_
  refine lv_iconst (v := 0) hx hb dJ7_copyOfRangeByte_39247_18 rfl ?_
  refine lv_aload_n hx hb dJ7_copyOfRangeByte_39247_19 rfl (lv_at hl 2 rfl) ?_
  refine va_alen (v := nI bm) hx hb hK.1 hP 0 3 rfl rfl rfl dJ7_copyOfRangeByte_39247_20 ?_
  refine lv_iload_n hx hb dJ7_copyOfRangeByte_39247_21 rfl (lv_at hl 3 rfl) ?_
  refine lv_isub hx hb dJ7_copyOfRangeByte_39247_22 ?_
  rw [show (((nI bm)) - ((nI 0)) : Int32) = nI bm from (pk_sub (Nat.zero_le bm)).trans rfl]
  refine lv_iload_n hx hb dJ7_copyOfRangeByte_39247_23 rfl (lv_at hl 1 rfl) ?_
  refine va_mmin hx hb (hml.trans hl.1.symm) hown (hts _ (List.mem_of_getElem? (i := 2) rfl)) (hts _ (List.mem_of_getElem? (i := 3) rfl)) (hts _ (List.mem_of_getElem? (i := 4) rfl)) (hts _ (List.mem_of_getElem? (i := 5) rfl)) (by first | exact Nat.le_of_ble_eq_true rfl | decide) (by first | exact Nat.le_of_ble_eq_true rfl | decide) (by first | exact Nat.zero_le _ | exact Nat.le_of_ble_eq_true rfl) (by first | exact Nat.zero_le _ | exact Nat.le_of_ble_eq_true rfl) dJ7_copyOfRangeByte_39247_24 ?_
  rw [show (if ((nI q)) < ((nI bm)) then ((nI q)) else ((nI bm)) : Int32) = nI q from (jl_min (by omega) (by omega)).trans (by split; rfl; exact congrArg nI (by omega))]
  refine va_copyi hx hb (hml.trans hl.1.symm) hown (hts _ (List.mem_of_getElem? (i := 6) rfl)) (hts _ (List.mem_of_getElem? (i := 7) rfl)) (hts _ (List.mem_of_getElem? (i := 8) rfl)) (hts _ (List.mem_of_getElem? (i := 9) rfl)) hK.1 hP hD hS 0 1 3 3 rfl rfl rfl rfl rfl (nI_pos (by decide)) (by decide) (nI_pos (by omega)) (by rw [show (nI 0).toNatClampNeg = 0 from rfl, nI_clamp (by omega)]; omega) (by rw [sb_cl0, nI_clamp (by omega)]; omega) (fun i _ => hf _) (by first | exact Nat.le_of_ble_eq_true rfl | decide) (by first | exact Nat.le_of_ble_eq_true rfl | decide) dJ7_copyOfRangeByte_39247_27 (fun H locs hP hD hS => ?_)
  rw [show (nI 0).toNatClampNeg = 0 from rfl, sb_cl0, nI_clamp (by omega)] at hP hD
  replace hP : va_P D kCl ([(bv, .inl (cy 3, bm, .inl ba)), (nv, .inl (cy 3, q, .inl (va_cpy ba (fun _ => 0) 0 0 q)))]) H := hP
  replace hD : va_D _ ([(bv, .inl (cy 3, bm, .inl ba)), (nv, .inl (cy 3, q, .inl (va_cpy ba (fun _ => 0) 0 0 q)))]) := hD
  refine lv_aload hx hb dJ7_copyOfRangeByte_39247_30 (lv_at hl 0 rfl) ?_
  refine W.widen (k := 1) (n := 1100) (by first | exact Nat.le_of_ble_eq_true rfl | omega) (by first | exact Nat.le_of_ble_eq_true rfl | omega) ?_
  exact W.aret hx hb hr (Or.inr ⟨_, rfl⟩) (Or.inr ⟨_, rfl⟩) (fun t ht hW => ⟨⟨va_cpy ba (fun _ => 0) 0 0 q, nv, rfl, ⟨sb_fitC hf sb_fit0, fun j hj => sb_cpy0 hj⟩, by rw [ht]; exact hP, hD⟩, hS.F ht⟩) hS.2.2 dJ7_copyOfRangeByte_39247_32 hlocks
theorem jcl_fit {cA : ClassId} {n : Nat} {f : Nat → Int32} (hf : sb_Fit f) (i : Nat) (v : Value) (h : (vp_cell cA (n, .inl f)).slots[i]? = some v) : fits .byte v = true := by
  obtain ⟨hi, e⟩ := Array.getElem?_eq_some_iff.mp h
  rw [← e]
  simp only [vp_cell_i, arrV] at hi ⊢
  simp
  exact hf _
theorem heJ7_copyOfRangeByte_39247 : yJ7_copyOfRangeByte_39247.cls ≠ "java/lang/invoke/MethodHandle" ∧ yJ7_copyOfRangeByte_39247.cls ≠ "java/lang/invoke/VarHandle" ∧ (parseMethodDescriptor yJ7_copyOfRangeByte_39247.desc).map (fun d => d.parameters.length) = some 3 := by decide +kernel
abbrev rmJ7_copyOfRange_39247 : Room := { frames := 2, cells := 1, slots := 1100, locals := 150 }
set_option maxHeartbeats 4000000 in
set_option maxRecDepth 100000 in
theorem cJ7_copyOfRange_39247M (l : Launch) (D : va_G) (cy : Nat → ClassId) (za zv : Nat → Nat) (Y : YB) (sz : Nat) (bv bm : Nat) (ba : Nat → Int32) (q : Nat) (hq : q ≤ bm) (hm : bm ≤ 1100) (hf : sb_Fit ba) : Met l yJ7_copyOfRange_39247 wsJ7_copyOfRange_39247 rmJ7_copyOfRange_39247 (va_Pc [.ref bv, .int (nI 0), .int (nI q)] (kPreY D cy za zv Y sz ([(bv, .inl (cy 3, bm, .inl ba))]))) (va_Qr (fun u : Nat → Int32 => sb_Fit u ∧ ∀ j, j < q → u j = ba j) (fun u ra t => kPost D (va_A ([(bv, .inl (cy 3, bm, .inl ba))]) sz) ([(bv, .inl (cy 3, bm, .inl ba)), (ra, .inl (cy 3, q, .inl u))]) t) (va_A ([(bv, .inl (cy 3, bm, .inl ba))]) sz)) 1 1100 (va_A ([(bv, .inl (cy 3, bm, .inl ba))]) sz) := by
  refine Met.ofW (cc := cJ7_copyOfRange_39247) (maxL := 3) (ret := (some (.array .byte))) (by decide) rfl ?_
  intro p e s m args below meth c s₁ B hml hv
  obtain ⟨rfl, ⟨⟨⟨hsz, hP, hK, hD0⟩, hZ⟩, hY⟩⟩ := hv
  subst hsz
  have hx := B.exec
  have hb := B.bytes
  have hr := B.returns
  have hts := atoms_spec (ws := wsJ7_copyOfRange_39247) B.pre
  have hown : s.vm.findClass RJ7 = some m.cls := findClass_of_methodNamed B.named
  have hlocks := B.notSynchronized
  have hA : ∀ q, s.heap.size ≤ q → va_A ([(bv, .inl (cy 3, bm, .inl ba))]) s.heap.size q := fun q h => Or.inr h
  have hS : va_S (va_A ([(bv, .inl (cy 3, bm, .inl ba))]) s.heap.size) s.heap s.heap [] := va_S.rf
  have hD : va_D (va_A ([(bv, .inl (cy 3, bm, .inl ba))]) s.heap.size) ([(bv, .inl (cy 3, bm, .inl ba))]) := hD0.self
  have hl := lv_entry ([.ref bv, .int (nI 0), .int (nI q)]) (n := 3) (Nat.le_of_ble_eq_true rfl)
  rw [lg_entry_eq]
  generalize (lg_sl ([.ref bv, .int (nI 0), .int (nI q)]) ++ List.replicate (3 - (lg_sl ([.ref bv, .int (nI 0), .int (nI q)])).length) Slot.unset).toArray = ls at hl ⊢
  have hl : lv_has ls 3 [(0, .ref bv), (1, .int (nI 0)), (2, .int (nI q))] := hl
  refine lv_iload_n hx hb dJ7_copyOfRange_39247_0 rfl (lv_at hl 1 rfl) ?_
  refine lv_if_ne (tgt := 10) hx hb dJ7_copyOfRange_39247_1 (by decide) (fun c => absurd (rfl) c) (fun _ => ?_)
  refine lv_iload_n hx hb dJ7_copyOfRange_39247_4 rfl (lv_at hl 2 rfl) ?_
  refine lv_aload_n hx hb dJ7_copyOfRange_39247_5 rfl (lv_at hl 0 rfl) ?_
  refine va_alen (v := nI bm) hx hb hK.1 hP 0 3 rfl rfl rfl dJ7_copyOfRange_39247_6 ?_
  by_cases hc : q = bm
  · refine lv_icmp_eq (tgt := 17) hx hb dJ7_copyOfRange_39247_7 (by decide) (fun _ => ?_) (fun c => absurd (congrArg nI hc) c)
    refine lv_aload_n hx hb dJ7_copyOfRange_39247_17 rfl (lv_at hl 0 rfl) ?_
    refine va_clone hx hb (hml.trans hl.1.symm) hown (own := RJ7) (ad := "[B") (hts _ (List.mem_of_getElem? (i := 1) rfl)) (hts _ (List.mem_of_getElem? (i := 2) rfl)) (hts _ (List.mem_of_getElem? (i := 3) rfl)) (hts _ (List.mem_of_getElem? (i := 4) rfl)) (hts _ (List.mem_of_getElem? (i := 5) rfl)) hY.1 hK.1 hP hD hS hA 0 3 rfl rfl (hK.1.2 3 _ rfl).2 (jcl_fit hf) (by first | exact Nat.le_of_ble_eq_true rfl | decide) (by first | exact Nat.le_of_ble_eq_true rfl | decide) (by first | exact Nat.le_of_ble_eq_true rfl | decide) (by show 0 + bm ≤ 1100; omega) dJ7_copyOfRange_39247_18 (fun nv H _ hP hD hS => ?_)
    replace hP : va_P D kCl ([(bv, .inl (cy 3, bm, .inl ba)), (nv, .inl (cy 3, bm, .inl ba))]) H := hP
    replace hD : va_D _ ([(bv, .inl (cy 3, bm, .inl ba)), (nv, .inl (cy 3, bm, .inl ba))]) := hD
    refine W.widen (k := 1) (n := 1100) (by exact Nat.le_of_ble_eq_true rfl) (by show 0 + bm ≤ 1100; omega) ?_
    refine va_castA hx hb hown (hts _ (List.mem_of_getElem? (i := 6) rfl)) hP 1 rfl (hK.1.2 3 _ rfl).2 dJ7_copyOfRange_39247_21 ?_
    refine W.widen (k := 1) (n := 1100) (by first | exact Nat.le_of_ble_eq_true rfl | omega) (by first | exact Nat.le_of_ble_eq_true rfl | omega) ?_
    exact W.aret hx hb hr (Or.inr ⟨_, rfl⟩) (Or.inr ⟨_, rfl⟩) (fun t ht hW => ⟨⟨ba, nv, rfl, ⟨hf, fun _ _ => rfl⟩, by rw [ht]; subst hc; exact hP, by subst hc; exact hD⟩, hS.F ht⟩) hS.2.2 dJ7_copyOfRange_39247_24 hlocks
  · refine lv_icmp_eq (tgt := 17) hx hb dJ7_copyOfRange_39247_7 (by decide) (fun c => absurd c (fun c9 => hc ((nI_eq (by omega) (by omega)).mp c9))) (fun _ => ?_)
    refine lv_aload_n hx hb dJ7_copyOfRange_39247_10 rfl (lv_at hl 0 rfl) ?_
    refine lv_iload_n hx hb dJ7_copyOfRange_39247_11 rfl (lv_at hl 1 rfl) ?_
    refine lv_iload_n hx hb dJ7_copyOfRange_39247_12 rfl (lv_at hl 2 rfl) ?_
    have hp := (show ([(bv, .inl (cy 3, bm, .inl ba))] : va_W).Perm ([(bv, .inl (cy 3, bm, .inl ba))] ++ []) from (List.append_nil _).symm ▸ List.Perm.refl _)
    refine jr_r (va_runS (As := [.ref bv, .int (nI 0), .int (nI q)]) (rest := []) ⟨hx, hb, hml, hown, hts⟩ (cJ7_copyOfRangeByte_39247M l D cy za zv Y _ bv bm ba q hq hm hf) (va_cwS 3 hts gJ7_copyOfRange_39247_J7_copyOfRangeByte_39247 rfl rfl rfl heJ7_copyOfRangeByte_39247 ⟨Nat.le_of_ble_eq_true rfl, Nat.le_of_ble_eq_true rfl⟩) (k_preSY hY hZ hS (k_free hp hD hS hA) hK (kP_app.mp (kP_perm hp hP)).1 (kD_app (kD_perm hp hD)).1) rfl rfl hl.1 rfl (Nat.le_of_ble_eq_true rfl) dJ7_copyOfRange_39247_13 ⟨by first | exact Nat.le_of_ble_eq_true rfl | omega, by first | exact Nat.le_of_ble_eq_true rfl | (show _ ≤ (_ : Nat); omega)⟩) hp hP hD hS hA (fun u ra H locs hu11 hP hD hS => ?_)
    replace hP : va_P D kCl ([(bv, .inl (cy 3, bm, .inl ba)), (ra, .inl (cy 3, q, .inl u))]) H := hP
    replace hD : va_D _ ([(bv, .inl (cy 3, bm, .inl ba)), (ra, .inl (cy 3, q, .inl u))]) := hD
    refine W.widen (k := 1) (n := 1100) (by first | exact Nat.le_of_ble_eq_true rfl | omega) (by first | exact Nat.le_of_ble_eq_true rfl | omega) ?_
    refine W.widen (k := 1) (n := 1100) (by first | exact Nat.le_of_ble_eq_true rfl | omega) (by first | exact Nat.le_of_ble_eq_true rfl | omega) ?_
    exact W.aret hx hb hr (Or.inr ⟨_, rfl⟩) (Or.inr ⟨_, rfl⟩) (fun t ht hW => ⟨⟨u, ra, rfl, hu11, by rw [ht]; exact hP, hD⟩, hS.F ht⟩) hS.2.2 dJ7_copyOfRange_39247_16 hlocks
theorem kperm_201 {α : Type} (a b c : α) : List.Perm [a, b, c] [c, a, b] := (List.perm_append_comm (l₁ := [a, b]) (l₂ := [c]))
theorem kperm_2013 {α : Type} (a b c d : α) : List.Perm [a, b, c, d] [c, a, b, d] := (kperm_201 a b c).append_right [d]
theorem kperm_3021 {α : Type} (a b c d : α) : List.Perm [a, b, c, d] [d, a, c, b] := ((List.perm_append_comm (l₁ := [a, b, c]) (l₂ := [d]))).trans (List.Perm.cons _ (List.Perm.cons _ (List.Perm.swap _ _ _)))
theorem kperm_2130 {α : Type} (a b c d : α) : List.Perm [a, b, c, d] [c, b, d, a] := ((List.perm_append_comm (l₁ := [a]) (l₂ := [b, c, d])).trans (List.Perm.swap c b [d, a])) |>.trans (List.Perm.refl _)
theorem lkJ0_init_db425_15 : Cond.fieldLink RJ0 15 "java/lang/String" "coder" "B" ∈ wsJ0_init_db425 := List.mem_of_getElem? (i := 4) rfl
theorem inJ0_init_db425_J0 : ∀ w ∈ u_ws RJ0 TJ0 4, w ∈ wsJ0_init_db425 := k_lays 97 rfl
theorem heJ7_copyOfRange_39247 : yJ7_copyOfRange_39247.cls ≠ "java/lang/invoke/MethodHandle" ∧ yJ7_copyOfRange_39247.cls ≠ "java/lang/invoke/VarHandle" ∧ (parseMethodDescriptor yJ7_copyOfRange_39247.desc).map (fun d => d.parameters.length) = some 3 := by decide +kernel
theorem lkJ0_init_db425_9 : Cond.fieldLink RJ0 9 "java/lang/String" "value" "[B" ∈ wsJ0_init_db425 := List.mem_of_getElem? (i := 5) rfl
abbrev rmJ0_init_db425 : Room := { frames := 3, cells := 1, slots := 1100, locals := 220 }
set_option maxHeartbeats 4000000 in
set_option maxRecDepth 100000 in
theorem cJ0_init_db425M (l : Launch) (D : va_G) (cy : Nat → ClassId) (za zv : Nat → Nat) (Y : YB) (sz : Nat) (hs gb bv bm : Nat) (ba : Nat → Int32) (bn : Nat) (bz : Int32) (hm : bm ≤ 1100) (hn : bn ≤ bm) (hf : sb_Fit ba) : Met l yJ0_init_db425 wsJ0_init_db425 rmJ0_init_db425 (va_Pc [.ref hs, .ref gb, .null] (kPreY D cy za zv Y sz ([(hs, .inr (6, [.null, .int 0, .int 0, .int 0])), (gb, .inr (5, [.ref bv, .int 0, .int bz, .int (nI bn)])), (bv, .inl (cy 3, bm, .inl ba))]))) (va_Qv (fun u : Nat × (Nat → Int32) => sb_Fit u.2 ∧ ∀ j, j < bn → u.2 j = ba j) (fun u => kPost D (va_A ([(hs, .inr (6, [.null, .int 0, .int 0, .int 0])), (gb, .inr (5, [.ref bv, .int 0, .int bz, .int (nI bn)])), (bv, .inl (cy 3, bm, .inl ba))]) sz) ([(hs, .inr (6, [.ref u.1, .int 0, .int 0, .int 0])), (u.1, .inl (cy 3, bn, .inl u.2)), (gb, .inr (5, [.ref bv, .int 0, .int bz, .int (nI bn)])), (bv, .inl (cy 3, bm, .inl ba))])) (va_A ([(hs, .inr (6, [.null, .int 0, .int 0, .int 0])), (gb, .inr (5, [.ref bv, .int 0, .int bz, .int (nI bn)])), (bv, .inl (cy 3, bm, .inl ba))]) sz)) 1 1100 (va_A ([(hs, .inr (6, [.null, .int 0, .int 0, .int 0])), (gb, .inr (5, [.ref bv, .int 0, .int bz, .int (nI bn)])), (bv, .inl (cy 3, bm, .inl ba))]) sz) := by
  refine Met.ofW (cc := cJ0_init_db425) (maxL := 5) (ret := none) (by decide) rfl ?_
  intro p e s m args below meth c s₁ B hml hv
  obtain ⟨rfl, ⟨⟨⟨hsz, hP, hK, hD0⟩, hZ⟩, hY⟩⟩ := hv
  subst hsz
  have hx := B.exec
  have hb := B.bytes
  have hr := B.returns
  have hts := atoms_spec (ws := wsJ0_init_db425) B.pre
  have hown : s.vm.findClass RJ0 = some m.cls := findClass_of_methodNamed B.named
  have hlocks := B.notSynchronized
  have hin : meth.name = "<init>" := (name_of_methodNamed B.named B.method).1
  have hA : ∀ q, s.heap.size ≤ q → va_A ([(hs, .inr (6, [.null, .int 0, .int 0, .int 0])), (gb, .inr (5, [.ref bv, .int 0, .int bz, .int (nI bn)])), (bv, .inl (cy 3, bm, .inl ba))]) s.heap.size q := fun q h => Or.inr h
  have hS : va_S (va_A ([(hs, .inr (6, [.null, .int 0, .int 0, .int 0])), (gb, .inr (5, [.ref bv, .int 0, .int bz, .int (nI bn)])), (bv, .inl (cy 3, bm, .inl ba))]) s.heap.size) s.heap s.heap [] := va_S.rf
  have hD : va_D (va_A ([(hs, .inr (6, [.null, .int 0, .int 0, .int 0])), (gb, .inr (5, [.ref bv, .int 0, .int bz, .int (nI bn)])), (bv, .inl (cy 3, bm, .inl ba))]) s.heap.size) ([(hs, .inr (6, [.null, .int 0, .int 0, .int 0])), (gb, .inr (5, [.ref bv, .int 0, .int bz, .int (nI bn)])), (bv, .inl (cy 3, bm, .inl ba))]) := hD0.self
  have hl := lv_entry ([.ref hs, .ref gb, .null]) (n := 5) (Nat.le_of_ble_eq_true rfl)
  rw [lg_entry_eq]
  generalize (lg_sl ([.ref hs, .ref gb, .null]) ++ List.replicate (5 - (lg_sl ([.ref hs, .ref gb, .null])).length) Slot.unset).toArray = ls at hl ⊢
  have hl : lv_has ls 5 [(0, .ref hs), (1, .ref gb), (2, .null)] := hl
  refine lv_aload_n hx hb dJ0_init_db425_0 rfl (lv_at hl 0 rfl) ?_
  refine W.objInit hx hb hown (hts _ (List.mem_of_getElem? (i := 1) rfl)) (hts _ (List.mem_of_getElem? (i := 2) rfl)) (hts _ (List.mem_of_getElem? (i := 3) rfl)) rfl (by rw [hml]; exact hl.1) rfl dJ0_init_db425_1 (by first | exact Nat.le_of_ble_eq_true rfl | decide) (by first | exact Nat.le_of_ble_eq_true rfl | decide) ?_
  refine W.eq (g2 := F0 m 4 ls []) rfl ?_
  refine lv_aload_n hx hb dJ0_init_db425_4 rfl (lv_at hl 1 rfl) ?_
  have hp := (k_pick2 (l := ([(hs, .inr (6, [.null, .int 0, .int 0, .int 0])), (gb, .inr (5, [.ref bv, .int 0, .int bz, .int (nI bn)])), (bv, .inl (cy 3, bm, .inl ba))] : va_W)) (i := 1) (j := 1) rfl rfl)
  refine jr_t (va_runU (b := gb) (As := []) (rest := []) ⟨hx, hb, hml, hown, hts⟩ (cJ5_getValue_6d5f1M l D cy za zv Y _ gb bv bm ba bn bz) (va_cwU 0 hts gJ0_init_db425_J5_getValue_6d5f1_u552J4 rfl rfl rfl rfl ⟨by decide +kernel, by decide +kernel, by decide +kernel⟩ ⟨Nat.le_of_ble_eq_true rfl, Nat.le_of_ble_eq_true rfl⟩) (k_preVY hY hZ hS (k_free hp hD hS hA) hK (kP_app.mp (kP_perm hp hP)).1 (kD_app (kD_perm hp hD)).1 (q0 := 0) (ci := 5) rfl rfl) rfl rfl hl.1 rfl (Nat.le_of_ble_eq_true rfl) dJ0_init_db425_5 ⟨by first | exact Nat.le_of_ble_eq_true rfl | omega, by first | exact Nat.le_of_ble_eq_true rfl | (show _ ≤ (_ : Nat); omega)⟩) hp hP hD hS hA (fun u9 H locs hu95 hP hD hS => ?_)
  replace hP : va_P D kCl ([(gb, .inr (5, [.ref bv, .int 0, .int bz, .int (nI bn)])), (bv, .inl (cy 3, bm, .inl ba)), (hs, .inr (6, [.null, .int 0, .int 0, .int 0]))]) H := hP
  replace hD : va_D _ ([(gb, .inr (5, [.ref bv, .int 0, .int bz, .int (nI bn)])), (bv, .inl (cy 3, bm, .inl ba)), (hs, .inr (6, [.null, .int 0, .int 0, .int 0]))]) := hD
  have hp9 : List.Perm ([(gb, .inr (5, [.ref bv, .int 0, .int bz, .int (nI bn)])), (bv, .inl (cy 3, bm, .inl ba)), (hs, .inr (6, [.null, .int 0, .int 0, .int 0]))] : va_W) ([(hs, .inr (6, [.null, .int 0, .int 0, .int 0])), (gb, .inr (5, [.ref bv, .int 0, .int bz, .int (nI bn)])), (bv, .inl (cy 3, bm, .inl ba))]) := kperm_201 _ _ _
  replace hP := kP_perm hp9 hP
  replace hD := kD_perm hp9 hD
  refine lv_astore_n (lv' := [(3, .ref bv), (0, .ref hs), (1, .ref gb), (2, .null)]) hx hb dJ0_init_db425_8 rfl hl (by decide) rfl (fun ls hl => ?_)
  refine lv_aload_n hx hb dJ0_init_db425_9 rfl (lv_at hl 2 rfl) ?_
  have hp := (k_pick2 (l := ([(hs, .inr (6, [.null, .int 0, .int 0, .int 0])), (gb, .inr (5, [.ref bv, .int 0, .int bz, .int (nI bn)])), (bv, .inl (cy 3, bm, .inl ba))] : va_W)) (i := 1) (j := 1) rfl rfl)
  refine jr_i (va_runU (b := gb) (As := []) (rest := []) ⟨hx, hb, hml, hown, hts⟩ (cJ4_length_8abf5M l D cy za zv Y _ gb bv bm ba bn bz) (va_cwO 0 hts gJ0_init_db425_J4_length_8abf5_u549J4 rfl rfl rfl (List.mem_of_getElem? (i := 25) rfl) ⟨by decide +kernel, by decide +kernel, by decide +kernel⟩ ⟨Nat.le_of_ble_eq_true rfl, Nat.le_of_ble_eq_true rfl⟩) (k_preVY hY hZ hS (k_free hp hD hS hA) hK (kP_app.mp (kP_perm hp hP)).1 (kD_app (kD_perm hp hD)).1 (q0 := 0) (ci := 5) rfl rfl) rfl rfl hl.1 rfl (Nat.le_of_ble_eq_true rfl) dJ0_init_db425_10 ⟨by first | exact Nat.le_of_ble_eq_true rfl | omega, by first | exact Nat.le_of_ble_eq_true rfl | (show _ ≤ (_ : Nat); omega)⟩) hp hP hD hS hA (fun r u9 H locs hu914 hP hD hS => ?_)
  subst hu914
  replace hP : va_P D kCl ([(gb, .inr (5, [.ref bv, .int 0, .int bz, .int (nI bn)])), (bv, .inl (cy 3, bm, .inl ba)), (hs, .inr (6, [.null, .int 0, .int 0, .int 0]))]) H := hP
  replace hD : va_D _ ([(gb, .inr (5, [.ref bv, .int 0, .int bz, .int (nI bn)])), (bv, .inl (cy 3, bm, .inl ba)), (hs, .inr (6, [.null, .int 0, .int 0, .int 0]))]) := hD
  have hp9 : List.Perm ([(gb, .inr (5, [.ref bv, .int 0, .int bz, .int (nI bn)])), (bv, .inl (cy 3, bm, .inl ba)), (hs, .inr (6, [.null, .int 0, .int 0, .int 0]))] : va_W) ([(hs, .inr (6, [.null, .int 0, .int 0, .int 0])), (gb, .inr (5, [.ref bv, .int 0, .int bz, .int (nI bn)])), (bv, .inl (cy 3, bm, .inl ba))]) := kperm_201 _ _ _
  replace hP := kP_perm hp9 hP
  replace hD := kD_perm hp9 hD
  refine lv_istore (lv' := [(4, .int (nI bn)), (3, .ref bv), (0, .ref hs), (1, .ref gb), (2, .null)]) hx hb dJ0_init_db425_13 hl (by decide) rfl (fun ls hl => ?_)
  refine lv_aload_n hx hb dJ0_init_db425_15 rfl (lv_at hl 3 rfl) ?_
  have hp := (k_pick2 (l := ([(hs, .inr (6, [.null, .int 0, .int 0, .int 0])), (gb, .inr (5, [.ref bv, .int 0, .int bz, .int (nI bn)])), (bv, .inl (cy 3, bm, .inl ba))] : va_W)) (i := 1) (j := 1) rfl rfl)
  refine jr_i (va_runU (b := gb) (As := []) (rest := []) ⟨hx, hb, hml, hown, hts⟩ (cJ5_isLatin1_aae02M l D cy za zv Y _ gb bv bm ba bn bz) (va_cwU 0 hts gJ0_init_db425_J5_isLatin1_aae02_u1047J4 rfl rfl rfl rfl ⟨by decide +kernel, by decide +kernel, by decide +kernel⟩ ⟨Nat.le_of_ble_eq_true rfl, Nat.le_of_ble_eq_true rfl⟩) (k_preVY hY hZ hS (k_free hp hD hS hA) hK (kP_app.mp (kP_perm hp hP)).1 (kD_app (kD_perm hp hD)).1 (q0 := 0) (ci := 5) rfl rfl) rfl rfl hl.1 rfl (Nat.le_of_ble_eq_true rfl) dJ0_init_db425_16 ⟨by first | exact Nat.le_of_ble_eq_true rfl | omega, by first | exact Nat.le_of_ble_eq_true rfl | (show _ ≤ (_ : Nat); omega)⟩) hp hP hD hS hA (fun r u9 H locs hu924 hP hD hS => ?_)
  subst hu924
  replace hP : va_P D kCl ([(gb, .inr (5, [.ref bv, .int 0, .int bz, .int (nI bn)])), (bv, .inl (cy 3, bm, .inl ba)), (hs, .inr (6, [.null, .int 0, .int 0, .int 0]))]) H := hP
  replace hD : va_D _ ([(gb, .inr (5, [.ref bv, .int 0, .int bz, .int (nI bn)])), (bv, .inl (cy 3, bm, .inl ba)), (hs, .inr (6, [.null, .int 0, .int 0, .int 0]))]) := hD
  have hp9 : List.Perm ([(gb, .inr (5, [.ref bv, .int 0, .int bz, .int (nI bn)])), (bv, .inl (cy 3, bm, .inl ba)), (hs, .inr (6, [.null, .int 0, .int 0, .int 0]))] : va_W) ([(hs, .inr (6, [.null, .int 0, .int 0, .int 0])), (gb, .inr (5, [.ref bv, .int 0, .int bz, .int (nI bn)])), (bv, .inl (cy 3, bm, .inl ba))]) := kperm_201 _ _ _
  replace hP := kP_perm hp9 hP
  replace hD := kD_perm hp9 hD
  refine lv_if_eq (tgt := 41) hx hb dJ0_init_db425_19 (by decide) (fun c => absurd c (by decide)) (fun _ => ?_)
  refine lv_aload_n hx hb dJ0_init_db425_22 rfl (lv_at hl 2 rfl) ?_
  refine lv_iconst (v := 0) hx hb dJ0_init_db425_23 rfl ?_
  refine k_putF (v := .int 0) (ty := .byte) (C := RJ0) (T := TJ0) (N := 4) hx hb hts inJ0_init_db425_J0 tyJ0 tyJ0_ok nmJ0 hown hK hP hD hS 0 rfl rfl 1 (by decide) lkJ0_init_db425_15 rfl hin rfl (by decide +kernel) rfl rfl (Nat.le_of_ble_eq_true rfl) (ws' := [(hs, .inr (6, [.null, .int 0, .int 0, .int 0])), (gb, .inr (5, [.ref bv, .int 0, .int bz, .int (nI bn)])), (bv, .inl (cy 3, bm, .inl ba))]) rfl dJ0_init_db425_24 (fun H locs hP hD hS => ?_)
  refine lv_aload_n hx hb dJ0_init_db425_27 rfl (lv_at hl 2 rfl) ?_
  refine lv_aload_n hx hb dJ0_init_db425_28 rfl (lv_at hl 1 rfl) ?_
  refine lv_iconst (v := 0) hx hb dJ0_init_db425_29 rfl ?_
  refine lv_iload hx hb dJ0_init_db425_30 (lv_at hl 0 rfl) ?_
  have hp := (k_pick (l := ([(hs, .inr (6, [.null, .int 0, .int 0, .int 0])), (gb, .inr (5, [.ref bv, .int 0, .int bz, .int (nI bn)])), (bv, .inl (cy 3, bm, .inl ba))] : va_W)) (k := 2) rfl)
  refine jr_r (va_runS (As := [.ref bv, .int 0, .int (nI bn)]) (rest := [.ref hs]) ⟨hx, hb, hml, hown, hts⟩ (cJ7_copyOfRange_39247M l D cy za zv Y _ bv bm ba bn hn hm hf) (va_cwS 3 hts gJ0_init_db425_J7_copyOfRange_39247 rfl rfl rfl heJ7_copyOfRange_39247 ⟨Nat.le_of_ble_eq_true rfl, Nat.le_of_ble_eq_true rfl⟩) (k_preSY hY hZ hS (k_free hp hD hS hA) hK (kP_app.mp (kP_perm hp hP)).1 (kD_app (kD_perm hp hD)).1) rfl rfl hl.1 rfl (Nat.le_of_ble_eq_true rfl) dJ0_init_db425_32 ⟨by first | exact Nat.le_of_ble_eq_true rfl | omega, by first | exact Nat.le_of_ble_eq_true rfl | (show _ ≤ (_ : Nat); omega)⟩) hp hP hD hS hA (fun u ra H locs hu40 hP hD hS => ?_)
  replace hP : va_P D kCl ([(bv, .inl (cy 3, bm, .inl ba)), (ra, .inl (cy 3, bn, .inl u)), (hs, .inr (6, [.null, .int 0, .int 0, .int 0])), (gb, .inr (5, [.ref bv, .int 0, .int bz, .int (nI bn)]))]) H := hP
  replace hD : va_D _ ([(bv, .inl (cy 3, bm, .inl ba)), (ra, .inl (cy 3, bn, .inl u)), (hs, .inr (6, [.null, .int 0, .int 0, .int 0])), (gb, .inr (5, [.ref bv, .int 0, .int bz, .int (nI bn)]))]) := hD
  refine W.widen (k := 1) (n := 1100) (by first | exact Nat.le_of_ble_eq_true rfl | omega) (by first | exact Nat.le_of_ble_eq_true rfl | omega) ?_
  have hp9 : List.Perm ([(bv, .inl (cy 3, bm, .inl ba)), (ra, .inl (cy 3, bn, .inl u)), (hs, .inr (6, [.null, .int 0, .int 0, .int 0])), (gb, .inr (5, [.ref bv, .int 0, .int bz, .int (nI bn)]))] : va_W) ([(hs, .inr (6, [.null, .int 0, .int 0, .int 0])), (ra, .inl (cy 3, bn, .inl u)), (gb, .inr (5, [.ref bv, .int 0, .int bz, .int (nI bn)])), (bv, .inl (cy 3, bm, .inl ba))]) := kperm_2130 _ _ _ _
  replace hP := kP_perm hp9 hP
  replace hD := kD_perm hp9 hD
  refine k_putF (v := .ref ra) (ty := (.array .byte)) (C := RJ0) (T := TJ0) (N := 4) hx hb hts inJ0_init_db425_J0 tyJ0 tyJ0_ok nmJ0 hown hK hP hD hS 0 rfl rfl 0 (by decide) lkJ0_init_db425_9 rfl hin rfl (by decide +kernel) rfl rfl (Nat.le_of_ble_eq_true rfl) (ws' := [(hs, .inr (6, [.ref ra, .int 0, .int 0, .int 0])), (ra, .inl (cy 3, bn, .inl u)), (gb, .inr (5, [.ref bv, .int 0, .int bz, .int (nI bn)])), (bv, .inl (cy 3, bm, .inl ba))]) rfl dJ0_init_db425_35 (fun H locs hP hD hS => ?_)
  refine lv_goto (tgt := 97) hx hb dJ0_init_db425_38 (by decide) ?_
  refine W.widen (k := 1) (n := 1100) (by first | exact Nat.le_of_ble_eq_true rfl | omega) (by first | exact Nat.le_of_ble_eq_true rfl | omega) ?_
  exact W.vret hx hb hr (fun t ht hW => ⟨⟨(ra, u), rfl, hu40, by rw [ht]; exact hP, hD⟩, hS.F ht⟩) hS.2.2 dJ0_init_db425_97 hlocks
theorem heJ0_init_db425 : yJ0_init_db425.cls ≠ "java/lang/invoke/MethodHandle" ∧ yJ0_init_db425.cls ≠ "java/lang/invoke/VarHandle" ∧ (parseMethodDescriptor yJ0_init_db425.desc).map (fun d => d.parameters.length) = some 2 := by decide +kernel
abbrev rmJ0_init_81219 : Room := { frames := 4, cells := 1, slots := 1100, locals := 270 }
set_option maxHeartbeats 4000000 in
set_option maxRecDepth 100000 in
theorem cJ0_init_81219M (l : Launch) (D : va_G) (cy : Nat → ClassId) (za zv : Nat → Nat) (Y : YB) (sz : Nat) (hs gb bv bm : Nat) (ba : Nat → Int32) (bn : Nat) (bz : Int32) (hm : bm ≤ 1100) (hn : bn ≤ bm) (hf : sb_Fit ba) : Met l yJ0_init_81219 wsJ0_init_81219 rmJ0_init_81219 (va_Pc [.ref hs, .ref gb] (kPreY D cy za zv Y sz ([(hs, .inr (6, [.null, .int 0, .int 0, .int 0])), (gb, .inr (5, [.ref bv, .int 0, .int bz, .int (nI bn)])), (bv, .inl (cy 3, bm, .inl ba))]))) (va_Qv (fun u : Nat × (Nat → Int32) => sb_Fit u.2 ∧ ∀ j, j < bn → u.2 j = ba j) (fun u => kPost D (va_A ([(hs, .inr (6, [.null, .int 0, .int 0, .int 0])), (gb, .inr (5, [.ref bv, .int 0, .int bz, .int (nI bn)])), (bv, .inl (cy 3, bm, .inl ba))]) sz) ([(hs, .inr (6, [.ref u.1, .int 0, .int 0, .int 0])), (u.1, .inl (cy 3, bn, .inl u.2)), (gb, .inr (5, [.ref bv, .int 0, .int bz, .int (nI bn)])), (bv, .inl (cy 3, bm, .inl ba))])) (va_A ([(hs, .inr (6, [.null, .int 0, .int 0, .int 0])), (gb, .inr (5, [.ref bv, .int 0, .int bz, .int (nI bn)])), (bv, .inl (cy 3, bm, .inl ba))]) sz)) 1 1100 (va_A ([(hs, .inr (6, [.null, .int 0, .int 0, .int 0])), (gb, .inr (5, [.ref bv, .int 0, .int bz, .int (nI bn)])), (bv, .inl (cy 3, bm, .inl ba))]) sz) := by
  refine Met.ofW (cc := cJ0_init_81219) (maxL := 2) (ret := none) (by decide) rfl ?_
  intro p e s m args below meth c s₁ B hml hv
  obtain ⟨rfl, ⟨⟨⟨hsz, hP, hK, hD0⟩, hZ⟩, hY⟩⟩ := hv
  subst hsz
  have hx := B.exec
  have hb := B.bytes
  have hr := B.returns
  have hts := atoms_spec (ws := wsJ0_init_81219) B.pre
  have hown : s.vm.findClass RJ0 = some m.cls := findClass_of_methodNamed B.named
  have hlocks := B.notSynchronized
  have hin : meth.name = "<init>" := (name_of_methodNamed B.named B.method).1
  have hA : ∀ q, s.heap.size ≤ q → va_A ([(hs, .inr (6, [.null, .int 0, .int 0, .int 0])), (gb, .inr (5, [.ref bv, .int 0, .int bz, .int (nI bn)])), (bv, .inl (cy 3, bm, .inl ba))]) s.heap.size q := fun q h => Or.inr h
  have hS : va_S (va_A ([(hs, .inr (6, [.null, .int 0, .int 0, .int 0])), (gb, .inr (5, [.ref bv, .int 0, .int bz, .int (nI bn)])), (bv, .inl (cy 3, bm, .inl ba))]) s.heap.size) s.heap s.heap [] := va_S.rf
  have hD : va_D (va_A ([(hs, .inr (6, [.null, .int 0, .int 0, .int 0])), (gb, .inr (5, [.ref bv, .int 0, .int bz, .int (nI bn)])), (bv, .inl (cy 3, bm, .inl ba))]) s.heap.size) ([(hs, .inr (6, [.null, .int 0, .int 0, .int 0])), (gb, .inr (5, [.ref bv, .int 0, .int bz, .int (nI bn)])), (bv, .inl (cy 3, bm, .inl ba))]) := hD0.self
  have hl := lv_entry ([.ref hs, .ref gb]) (n := 2) (Nat.le_of_ble_eq_true rfl)
  rw [lg_entry_eq]
  generalize (lg_sl ([.ref hs, .ref gb]) ++ List.replicate (2 - (lg_sl ([.ref hs, .ref gb])).length) Slot.unset).toArray = ls at hl ⊢
  have hl : lv_has ls 2 [(0, .ref hs), (1, .ref gb)] := hl
  refine lv_aload_n hx hb dJ0_init_81219_0 rfl (lv_at hl 0 rfl) ?_
  refine lv_aload_n hx hb dJ0_init_81219_1 rfl (lv_at hl 1 rfl) ?_
  refine lv_null hx hb dJ0_init_81219_2 ?_
  have hp := (show ([(hs, .inr (6, [.null, .int 0, .int 0, .int 0])), (gb, .inr (5, [.ref bv, .int 0, .int bz, .int (nI bn)])), (bv, .inl (cy 3, bm, .inl ba))] : va_W).Perm ([(hs, .inr (6, [.null, .int 0, .int 0, .int 0])), (gb, .inr (5, [.ref bv, .int 0, .int bz, .int (nI bn)])), (bv, .inl (cy 3, bm, .inl ba))] ++ []) from (List.append_nil _).symm ▸ List.Perm.refl _)
  refine jr_v (va_runI (b := hs) (As := [.ref gb, .null]) (rest := []) ⟨hx, hb, hml, hown, hts⟩ (cJ0_init_db425M l D cy za zv Y _ hs gb bv bm ba bn bz hm hn hf) (cwI 2 hts gJ0_init_81219_J0_init_db425 rfl rfl rfl (hts _ (List.mem_of_getElem? (i := 3) rfl)) (hts _ (List.mem_of_getElem? (i := 1) rfl)) (hts _ (List.mem_of_getElem? (i := 2) rfl)) rfl heJ0_init_db425 ⟨Nat.le_of_ble_eq_true rfl, Nat.le_of_ble_eq_true rfl⟩) (k_preSY hY hZ hS (k_free hp hD hS hA) hK (kP_app.mp (kP_perm hp hP)).1 (kD_app (kD_perm hp hD)).1) rfl rfl hl.1 rfl (Nat.le_of_ble_eq_true rfl) dJ0_init_81219_3 ⟨by first | exact Nat.le_of_ble_eq_true rfl | omega, by first | exact Nat.le_of_ble_eq_true rfl | (show _ ≤ (_ : Nat); omega)⟩) hp hP hD hS hA (fun u H locs hu4 hP hD hS => ?_)
  replace hP : va_P D kCl ([(hs, .inr (6, [.ref u.1, .int 0, .int 0, .int 0])), (u.1, .inl (cy 3, bn, .inl u.2)), (gb, .inr (5, [.ref bv, .int 0, .int bz, .int (nI bn)])), (bv, .inl (cy 3, bm, .inl ba))]) H := hP
  replace hD : va_D _ ([(hs, .inr (6, [.ref u.1, .int 0, .int 0, .int 0])), (u.1, .inl (cy 3, bn, .inl u.2)), (gb, .inr (5, [.ref bv, .int 0, .int bz, .int (nI bn)])), (bv, .inl (cy 3, bm, .inl ba))]) := hD
  refine W.widen (k := 1) (n := 1100) (by first | exact Nat.le_of_ble_eq_true rfl | omega) (by first | exact Nat.le_of_ble_eq_true rfl | omega) ?_
  refine W.widen (k := 1) (n := 1100) (by first | exact Nat.le_of_ble_eq_true rfl | omega) (by first | exact Nat.le_of_ble_eq_true rfl | omega) ?_
  exact W.vret hx hb hr (fun t ht hW => ⟨⟨u, rfl, hu4, by rw [ht]; exact hP, hD⟩, hS.F ht⟩) hS.2.2 dJ0_init_81219_6 hlocks
theorem dvJ0 : ∀ j, j < 4 → defaultValue (tyJ0 j) = vp_V [.null, .int 0, .int 0, .int 0] j := by decide +kernel
theorem inJ4_toString_0e30d_J0 : ∀ w ∈ u_ws RJ0 TJ0 4, w ∈ wsJ4_toString_0e30d := k_lays 105 rfl
theorem heJ0_init_81219 : yJ0_init_81219.cls ≠ "java/lang/invoke/MethodHandle" ∧ yJ0_init_81219.cls ≠ "java/lang/invoke/VarHandle" ∧ (parseMethodDescriptor yJ0_init_81219.desc).map (fun d => d.parameters.length) = some 1 := by decide +kernel
abbrev rmJ4_toString_0e30d : Room := { frames := 5, cells := 2, slots := 1104, locals := 320 }
set_option maxHeartbeats 4000000 in
set_option maxRecDepth 100000 in
theorem cJ4_toString_0e30dM (l : Launch) (D : va_G) (cy : Nat → ClassId) (za zv : Nat → Nat) (Y : YB) (sz : Nat) (gb bv bm : Nat) (ba : Nat → Int32) (bn : Nat) (bz : Int32) (hm : bm ≤ 1100) (hn : bn ≤ bm) (hf : sb_Fit ba) : Met l yJ4_toString_0e30d wsJ4_toString_0e30d rmJ4_toString_0e30d (va_Pc [.ref gb] (kPreY D cy za zv Y sz ([(gb, .inr (5, [.ref bv, .int 0, .int bz, .int (nI bn)])), (bv, .inl (cy 3, bm, .inl ba))]))) (va_Qr (fun u : Nat × (Nat → Int32) => sb_Fit u.2 ∧ ∀ j, j < bn → u.2 j = ba j) (fun u hs t => kPost D (va_A ([(gb, .inr (5, [.ref bv, .int 0, .int bz, .int (nI bn)])), (bv, .inl (cy 3, bm, .inl ba))]) sz) ([(hs, .inr (6, [.ref u.1, .int 0, .int 0, .int 0])), (u.1, .inl (cy 3, bn, .inl u.2)), (gb, .inr (5, [.ref bv, .int 0, .int bz, .int (nI bn)])), (bv, .inl (cy 3, bm, .inl ba))]) t) (va_A ([(gb, .inr (5, [.ref bv, .int 0, .int bz, .int (nI bn)])), (bv, .inl (cy 3, bm, .inl ba))]) sz)) 2 1104 (va_A ([(gb, .inr (5, [.ref bv, .int 0, .int bz, .int (nI bn)])), (bv, .inl (cy 3, bm, .inl ba))]) sz) := by
  refine Met.ofW (cc := cJ4_toString_0e30d) (maxL := 1) (ret := (some (.object "java/lang/String"))) (by decide) rfl ?_
  intro p e s m args below meth c s₁ B hml hv
  obtain ⟨rfl, ⟨⟨⟨hsz, hP, hK, hD0⟩, hZ⟩, hY⟩⟩ := hv
  subst hsz
  have hx := B.exec
  have hb := B.bytes
  have hr := B.returns
  have hts := atoms_spec (ws := wsJ4_toString_0e30d) B.pre
  have hown : s.vm.findClass RJ4 = some m.cls := findClass_of_methodNamed B.named
  have hlocks := B.notSynchronized
  have hA : ∀ q, s.heap.size ≤ q → va_A ([(gb, .inr (5, [.ref bv, .int 0, .int bz, .int (nI bn)])), (bv, .inl (cy 3, bm, .inl ba))]) s.heap.size q := fun q h => Or.inr h
  have hS : va_S (va_A ([(gb, .inr (5, [.ref bv, .int 0, .int bz, .int (nI bn)])), (bv, .inl (cy 3, bm, .inl ba))]) s.heap.size) s.heap s.heap [] := va_S.rf
  have hD : va_D (va_A ([(gb, .inr (5, [.ref bv, .int 0, .int bz, .int (nI bn)])), (bv, .inl (cy 3, bm, .inl ba))]) s.heap.size) ([(gb, .inr (5, [.ref bv, .int 0, .int bz, .int (nI bn)])), (bv, .inl (cy 3, bm, .inl ba))]) := hD0.self
  have hl := lv_entry ([.ref gb]) (n := 1) (Nat.le_of_ble_eq_true rfl)
  rw [lg_entry_eq]
  generalize (lg_sl ([.ref gb]) ++ List.replicate (1 - (lg_sl ([.ref gb])).length) Slot.unset).toArray = ls at hl ⊢
  have hl : lv_has ls 1 [(0, .ref gb)] := hl
  refine va_new (C := RJ0) (T := TJ0) (N := 4) (ci := 6) (fs := [.null, .int 0, .int 0, .int 0]) hx hb hts inJ4_toString_0e30d_J0 tyJ0 tyJ0_ok hown (hts _ (List.mem_of_getElem? (i := 1) rfl)) (hts _ (List.mem_of_getElem? (i := 2) rfl)) (hts _ (List.mem_of_getElem? (i := 3) rfl)) hK.1 hP hD hS hA rfl dvJ0 (by exact Nat.le_of_ble_eq_true rfl) (by exact Nat.le_of_ble_eq_true rfl) dJ4_toString_0e30d_0 (fun hs H hP hD hS => ?_)
  replace hP : va_P D kCl ([(gb, .inr (5, [.ref bv, .int 0, .int bz, .int (nI bn)])), (bv, .inl (cy 3, bm, .inl ba)), (hs, .inr (6, [.null, .int 0, .int 0, .int 0]))]) H := hP
  replace hD : va_D _ ([(gb, .inr (5, [.ref bv, .int 0, .int bz, .int (nI bn)])), (bv, .inl (cy 3, bm, .inl ba)), (hs, .inr (6, [.null, .int 0, .int 0, .int 0]))]) := hD
  have hp9 : List.Perm ([(gb, .inr (5, [.ref bv, .int 0, .int bz, .int (nI bn)])), (bv, .inl (cy 3, bm, .inl ba)), (hs, .inr (6, [.null, .int 0, .int 0, .int 0]))] : va_W) ([(hs, .inr (6, [.null, .int 0, .int 0, .int 0])), (gb, .inr (5, [.ref bv, .int 0, .int bz, .int (nI bn)])), (bv, .inl (cy 3, bm, .inl ba))]) := kperm_201 _ _ _
  replace hP := kP_perm hp9 hP
  replace hD := kD_perm hp9 hD
  refine W.widen (k := 1) (n := 4) (by exact Nat.le_of_ble_eq_true rfl) (by exact Nat.le_of_ble_eq_true rfl) ?_
  refine lv_dup hx hb dJ4_toString_0e30d_3 rfl ?_
  refine lv_aload_n hx hb dJ4_toString_0e30d_4 rfl (lv_at hl 0 rfl) ?_
  have hp := (show ([(hs, .inr (6, [.null, .int 0, .int 0, .int 0])), (gb, .inr (5, [.ref bv, .int 0, .int bz, .int (nI bn)])), (bv, .inl (cy 3, bm, .inl ba))] : va_W).Perm ([(hs, .inr (6, [.null, .int 0, .int 0, .int 0])), (gb, .inr (5, [.ref bv, .int 0, .int bz, .int (nI bn)])), (bv, .inl (cy 3, bm, .inl ba))] ++ []) from (List.append_nil _).symm ▸ List.Perm.refl _)
  refine jr_v (va_runI (b := hs) (As := [.ref gb]) (rest := [.ref hs]) ⟨hx, hb, hml, hown, hts⟩ (cJ0_init_81219M l D cy za zv Y _ hs gb bv bm ba bn bz hm hn hf) (cwI 1 hts gJ4_toString_0e30d_J0_init_81219 rfl rfl rfl (hts _ (List.mem_of_getElem? (i := 3) rfl)) (hts _ (List.mem_of_getElem? (i := 4) rfl)) (hts _ (List.mem_of_getElem? (i := 5) rfl)) rfl heJ0_init_81219 ⟨Nat.le_of_ble_eq_true rfl, Nat.le_of_ble_eq_true rfl⟩) (k_preSY hY hZ hS (k_free hp hD hS hA) hK (kP_app.mp (kP_perm hp hP)).1 (kD_app (kD_perm hp hD)).1) rfl rfl hl.1 rfl (Nat.le_of_ble_eq_true rfl) dJ4_toString_0e30d_5 ⟨by first | exact Nat.le_of_ble_eq_true rfl | omega, by first | exact Nat.le_of_ble_eq_true rfl | (show _ ≤ (_ : Nat); omega)⟩) hp hP hD hS hA (fun u H locs hu10 hP hD hS => ?_)
  replace hP : va_P D kCl ([(hs, .inr (6, [.ref u.1, .int 0, .int 0, .int 0])), (u.1, .inl (cy 3, bn, .inl u.2)), (gb, .inr (5, [.ref bv, .int 0, .int bz, .int (nI bn)])), (bv, .inl (cy 3, bm, .inl ba))]) H := hP
  replace hD : va_D _ ([(hs, .inr (6, [.ref u.1, .int 0, .int 0, .int 0])), (u.1, .inl (cy 3, bn, .inl u.2)), (gb, .inr (5, [.ref bv, .int 0, .int bz, .int (nI bn)])), (bv, .inl (cy 3, bm, .inl ba))]) := hD
  refine W.widen (k := 2) (n := 1104) (by first | exact Nat.le_of_ble_eq_true rfl | omega) (by first | exact Nat.le_of_ble_eq_true rfl | omega) ?_
  refine W.widen (k := 2) (n := 1104) (by first | exact Nat.le_of_ble_eq_true rfl | omega) (by first | exact Nat.le_of_ble_eq_true rfl | omega) ?_
  exact W.aret hx hb hr (Or.inl ⟨_, rfl⟩) (Or.inr ⟨_, rfl⟩) (fun t ht hW => ⟨⟨u, hs, rfl, hu10, by rw [ht]; exact hP, hD⟩, hS.F ht⟩) hS.2.2 dJ4_toString_0e30d_8 hlocks
theorem jn_ch : ∀ {x : Nat}, x < 256 → narrow .char (.int (((nI x).toUInt32 % 65536).toInt32)) = .int (((nI x).toUInt32 % 65536).toInt32) := fun {x} h => (by decide +kernel : ∀ x, x < 256 → narrow .char (.int (((nI x).toUInt32 % 65536).toInt32)) = .int (((nI x).toUInt32 % 65536).toInt32)) x h
theorem jn_ch2 : ∀ {x : Nat}, x < 256 → narrow .char (.int (nI x)) = .int (nI x) := fun {x} h => (by decide +kernel : ∀ x, x < 256 → narrow .char (.int (nI x)) = .int (nI x)) x h
theorem lkJ0_coder_7d493_38 : Cond.fieldLink RJ0 38 "java/lang/String" "COMPACT_STRINGS" "Z" ∈ wsJ0_coder_7d493 := List.mem_of_getElem? (i := 1) rfl
theorem lkJ0_coder_7d493_15 : Cond.fieldLink RJ0 15 "java/lang/String" "coder" "B" ∈ wsJ0_coder_7d493 := List.mem_of_getElem? (i := 2) rfl
theorem inJ0_coder_7d493_J0 : ∀ w ∈ u_ws RJ0 TJ0 4, w ∈ wsJ0_coder_7d493 := k_lays 3 rfl
set_option maxHeartbeats 4000000 in
set_option maxRecDepth 100000 in
theorem cJ0_coder_7d493W (l : Launch) (D : va_G) (cy : Nat → ClassId) (za zv : Nat → Nat) (Y : YB) (sz : Nat) (hs bv bm : Nat) (ba : Nat → Int32) : Met l yJ0_coder_7d493 wsJ0_coder_7d493 rmJ0_coder_7d493 (va_Pc [.ref hs] (kPreY D cy za zv Y sz ([(hs, .inr (6, [.ref bv, .int 0, .int 0, .int 0])), (bv, .inl (cy 3, bm, .inl ba))]))) (va_Qi (fun r (_ : Unit) => r = 0) (fun _ => kPost D (va_A ([(hs, .inr (6, [.ref bv, .int 0, .int 0, .int 0])), (bv, .inl (cy 3, bm, .inl ba))]) sz) ([(hs, .inr (6, [.ref bv, .int 0, .int 0, .int 0])), (bv, .inl (cy 3, bm, .inl ba))])) (va_A ([(hs, .inr (6, [.ref bv, .int 0, .int 0, .int 0])), (bv, .inl (cy 3, bm, .inl ba))]) sz)) 0 0 (va_A ([(hs, .inr (6, [.ref bv, .int 0, .int 0, .int 0])), (bv, .inl (cy 3, bm, .inl ba))]) sz) := by
  refine Met.ofW (cc := cJ0_coder_7d493) (maxL := 1) (ret := (some .byte)) (by decide) rfl ?_
  intro p e s m args below meth c s₁ B hml hv
  obtain ⟨rfl, ⟨⟨⟨hsz, hP, hK, hD0⟩, hZ⟩, hY⟩⟩ := hv
  subst hsz
  have hx := B.exec
  have hb := B.bytes
  have hr := B.returns
  have hts := atoms_spec (ws := wsJ0_coder_7d493) B.pre
  have hown : s.vm.findClass RJ0 = some m.cls := findClass_of_methodNamed B.named
  have hlocks := B.notSynchronized
  have hA : ∀ q, s.heap.size ≤ q → va_A ([(hs, .inr (6, [.ref bv, .int 0, .int 0, .int 0])), (bv, .inl (cy 3, bm, .inl ba))]) s.heap.size q := fun q h => Or.inr h
  have hS : va_S (va_A ([(hs, .inr (6, [.ref bv, .int 0, .int 0, .int 0])), (bv, .inl (cy 3, bm, .inl ba))]) s.heap.size) s.heap s.heap [] := va_S.rf
  have hD : va_D (va_A ([(hs, .inr (6, [.ref bv, .int 0, .int 0, .int 0])), (bv, .inl (cy 3, bm, .inl ba))]) s.heap.size) ([(hs, .inr (6, [.ref bv, .int 0, .int 0, .int 0])), (bv, .inl (cy 3, bm, .inl ba))]) := hD0.self
  have hl := lv_entry ([.ref hs]) (n := 1) (Nat.le_of_ble_eq_true rfl)
  rw [lg_entry_eq]
  generalize (lg_sl ([.ref hs]) ++ List.replicate (1 - (lg_sl ([.ref hs])).length) Slot.unset).toArray = ls at hl ⊢
  have hl : lv_has ls 1 [(0, .ref hs)] := hl
  refine va_gets hx hb hZ.1 hS hown (hts _ lkJ0_coder_7d493_38) (fun _ h => h) dJ0_coder_7d493_0 ?_
  refine lv_if_eq (tgt := 13) hx hb dJ0_coder_7d493_3 (by decide) (fun c => absurd c (by decide)) (fun _ => ?_)
  refine lv_aload_n hx hb dJ0_coder_7d493_6 rfl (lv_at hl 0 rfl) ?_
  refine k_get (v := .int 0) (C := RJ0) (T := TJ0) (N := 4) hx hb hts inJ0_coder_7d493_J0 hown hK hP 0 rfl rfl 1 (by decide) lkJ0_coder_7d493_15 rfl dJ0_coder_7d493_7 ?_
  refine lv_goto (tgt := 14) hx hb dJ0_coder_7d493_10 (by decide) ?_
  exact W.zret hx hb hr (rfl) (fun t ht hW => ⟨⟨0, (), rfl, rfl, by rw [ht]; exact hP, hD⟩, hS.F ht⟩) hS.2.2 dJ0_coder_7d493_14 hlocks
theorem lkJ0_isLatin1_aae02_38 : Cond.fieldLink RJ0 38 "java/lang/String" "COMPACT_STRINGS" "Z" ∈ wsJ0_isLatin1_aae02 := List.mem_of_getElem? (i := 1) rfl
theorem lkJ0_isLatin1_aae02_15 : Cond.fieldLink RJ0 15 "java/lang/String" "coder" "B" ∈ wsJ0_isLatin1_aae02 := List.mem_of_getElem? (i := 2) rfl
theorem inJ0_isLatin1_aae02_J0 : ∀ w ∈ u_ws RJ0 TJ0 4, w ∈ wsJ0_isLatin1_aae02 := k_lays 3 rfl
set_option maxHeartbeats 4000000 in
set_option maxRecDepth 100000 in
theorem cJ0_isLatin1_aae02W (l : Launch) (D : va_G) (cy : Nat → ClassId) (za zv : Nat → Nat) (Y : YB) (sz : Nat) (hs bv bm : Nat) (ba : Nat → Int32) : Met l yJ0_isLatin1_aae02 wsJ0_isLatin1_aae02 rmJ0_isLatin1_aae02 (va_Pc [.ref hs] (kPreY D cy za zv Y sz ([(hs, .inr (6, [.ref bv, .int 0, .int 0, .int 0])), (bv, .inl (cy 3, bm, .inl ba))]))) (va_Qi (fun r (_ : Unit) => r = 1) (fun _ => kPost D (va_A ([(hs, .inr (6, [.ref bv, .int 0, .int 0, .int 0])), (bv, .inl (cy 3, bm, .inl ba))]) sz) ([(hs, .inr (6, [.ref bv, .int 0, .int 0, .int 0])), (bv, .inl (cy 3, bm, .inl ba))])) (va_A ([(hs, .inr (6, [.ref bv, .int 0, .int 0, .int 0])), (bv, .inl (cy 3, bm, .inl ba))]) sz)) 0 0 (va_A ([(hs, .inr (6, [.ref bv, .int 0, .int 0, .int 0])), (bv, .inl (cy 3, bm, .inl ba))]) sz) := by
  refine Met.ofW (cc := cJ0_isLatin1_aae02) (maxL := 1) (ret := (some .boolean)) (by decide) rfl ?_
  intro p e s m args below meth c s₁ B hml hv
  obtain ⟨rfl, ⟨⟨⟨hsz, hP, hK, hD0⟩, hZ⟩, hY⟩⟩ := hv
  subst hsz
  have hx := B.exec
  have hb := B.bytes
  have hr := B.returns
  have hts := atoms_spec (ws := wsJ0_isLatin1_aae02) B.pre
  have hown : s.vm.findClass RJ0 = some m.cls := findClass_of_methodNamed B.named
  have hlocks := B.notSynchronized
  have hA : ∀ q, s.heap.size ≤ q → va_A ([(hs, .inr (6, [.ref bv, .int 0, .int 0, .int 0])), (bv, .inl (cy 3, bm, .inl ba))]) s.heap.size q := fun q h => Or.inr h
  have hS : va_S (va_A ([(hs, .inr (6, [.ref bv, .int 0, .int 0, .int 0])), (bv, .inl (cy 3, bm, .inl ba))]) s.heap.size) s.heap s.heap [] := va_S.rf
  have hD : va_D (va_A ([(hs, .inr (6, [.ref bv, .int 0, .int 0, .int 0])), (bv, .inl (cy 3, bm, .inl ba))]) s.heap.size) ([(hs, .inr (6, [.ref bv, .int 0, .int 0, .int 0])), (bv, .inl (cy 3, bm, .inl ba))]) := hD0.self
  have hl := lv_entry ([.ref hs]) (n := 1) (Nat.le_of_ble_eq_true rfl)
  rw [lg_entry_eq]
  generalize (lg_sl ([.ref hs]) ++ List.replicate (1 - (lg_sl ([.ref hs])).length) Slot.unset).toArray = ls at hl ⊢
  have hl : lv_has ls 1 [(0, .ref hs)] := hl
  refine va_gets hx hb hZ.1 hS hown (hts _ lkJ0_isLatin1_aae02_38) (fun _ h => h) dJ0_isLatin1_aae02_0 ?_
  refine lv_if_eq (tgt := 17) hx hb dJ0_isLatin1_aae02_3 (by decide) (fun c => absurd c (by decide)) (fun _ => ?_)
  refine lv_aload_n hx hb dJ0_isLatin1_aae02_6 rfl (lv_at hl 0 rfl) ?_
  refine k_get (v := .int 0) (C := RJ0) (T := TJ0) (N := 4) hx hb hts inJ0_isLatin1_aae02_J0 hown hK hP 0 rfl rfl 1 (by decide) lkJ0_isLatin1_aae02_15 rfl dJ0_isLatin1_aae02_7 ?_
  refine lv_if_ne (tgt := 17) hx hb dJ0_isLatin1_aae02_10 (by decide) (fun c => absurd (rfl) c) (fun _ => ?_)
  refine lv_iconst (v := 1) hx hb dJ0_isLatin1_aae02_13 rfl ?_
  refine lv_goto (tgt := 18) hx hb dJ0_isLatin1_aae02_14 (by decide) ?_
  exact W.zret hx hb hr (rfl) (fun t ht hW => ⟨⟨1, (), rfl, rfl, by rw [ht]; exact hP, hD⟩, hS.F ht⟩) hS.2.2 dJ0_isLatin1_aae02_18 hlocks
theorem lkJ0_length_8abf5_9 : Cond.fieldLink RJ0 9 "java/lang/String" "value" "[B" ∈ wsJ0_length_8abf5 := List.mem_of_getElem? (i := 1) rfl
theorem inJ0_length_8abf5_J0 : ∀ w ∈ u_ws RJ0 TJ0 4, w ∈ wsJ0_length_8abf5 := k_lays 9 rfl
set_option maxHeartbeats 4000000 in
set_option maxRecDepth 100000 in
theorem cJ0_length_8abf5W (l : Launch) (D : va_G) (cy : Nat → ClassId) (za zv : Nat → Nat) (Y : YB) (sz : Nat) (hs bv bm : Nat) (ba : Nat → Int32) (hm : bm ≤ 1100) : Met l yJ0_length_8abf5 wsJ0_length_8abf5 rmJ0_length_8abf5 (va_Pc [.ref hs] (kPreY D cy za zv Y sz ([(hs, .inr (6, [.ref bv, .int 0, .int 0, .int 0])), (bv, .inl (cy 3, bm, .inl ba))]))) (va_Qi (fun r (_ : Unit) => r = nI bm) (fun _ => kPost D (va_A ([(hs, .inr (6, [.ref bv, .int 0, .int 0, .int 0])), (bv, .inl (cy 3, bm, .inl ba))]) sz) ([(hs, .inr (6, [.ref bv, .int 0, .int 0, .int 0])), (bv, .inl (cy 3, bm, .inl ba))])) (va_A ([(hs, .inr (6, [.ref bv, .int 0, .int 0, .int 0])), (bv, .inl (cy 3, bm, .inl ba))]) sz)) 0 0 (va_A ([(hs, .inr (6, [.ref bv, .int 0, .int 0, .int 0])), (bv, .inl (cy 3, bm, .inl ba))]) sz) := by
  refine Met.ofW (cc := cJ0_length_8abf5) (maxL := 1) (ret := (some .int)) (by decide) rfl ?_
  intro p e s m args below meth c s₁ B hml hv
  obtain ⟨rfl, ⟨⟨⟨hsz, hP, hK, hD0⟩, hZ⟩, hY⟩⟩ := hv
  subst hsz
  have hx := B.exec
  have hb := B.bytes
  have hr := B.returns
  have hts := atoms_spec (ws := wsJ0_length_8abf5) B.pre
  have hown : s.vm.findClass RJ0 = some m.cls := findClass_of_methodNamed B.named
  have hlocks := B.notSynchronized
  have hA : ∀ q, s.heap.size ≤ q → va_A ([(hs, .inr (6, [.ref bv, .int 0, .int 0, .int 0])), (bv, .inl (cy 3, bm, .inl ba))]) s.heap.size q := fun q h => Or.inr h
  have hS : va_S (va_A ([(hs, .inr (6, [.ref bv, .int 0, .int 0, .int 0])), (bv, .inl (cy 3, bm, .inl ba))]) s.heap.size) s.heap s.heap [] := va_S.rf
  have hD : va_D (va_A ([(hs, .inr (6, [.ref bv, .int 0, .int 0, .int 0])), (bv, .inl (cy 3, bm, .inl ba))]) s.heap.size) ([(hs, .inr (6, [.ref bv, .int 0, .int 0, .int 0])), (bv, .inl (cy 3, bm, .inl ba))]) := hD0.self
  have hl := lv_entry ([.ref hs]) (n := 1) (Nat.le_of_ble_eq_true rfl)
  rw [lg_entry_eq]
  generalize (lg_sl ([.ref hs]) ++ List.replicate (1 - (lg_sl ([.ref hs])).length) Slot.unset).toArray = ls at hl ⊢
  have hl : lv_has ls 1 [(0, .ref hs)] := hl
  refine lv_aload_n hx hb dJ0_length_8abf5_0 rfl (lv_at hl 0 rfl) ?_
  refine k_get (v := .ref bv) (C := RJ0) (T := TJ0) (N := 4) hx hb hts inJ0_length_8abf5_J0 hown hK hP 0 rfl rfl 0 (by decide) lkJ0_length_8abf5_9 rfl dJ0_length_8abf5_1 ?_
  refine va_alen (v := nI bm) hx hb hK.1 hP 1 3 rfl rfl rfl dJ0_length_8abf5_4 ?_
  refine lv_aload_n hx hb dJ0_length_8abf5_5 rfl (lv_at hl 0 rfl) ?_
  have hp := (show ([(hs, .inr (6, [.ref bv, .int 0, .int 0, .int 0])), (bv, .inl (cy 3, bm, .inl ba))] : va_W).Perm ([(hs, .inr (6, [.ref bv, .int 0, .int 0, .int 0])), (bv, .inl (cy 3, bm, .inl ba))] ++ []) from (List.append_nil _).symm ▸ List.Perm.refl _)
  refine jr_i (va_runV (b := hs) (As := []) (rest := [.int (nI bm)]) ⟨hx, hb, hml, hown, hts⟩ (cJ0_coder_7d493W l D cy za zv Y _ hs bv bm ba) (cwV 0 hts gJ0_length_8abf5_J0_coder_7d493 rfl rfl rfl hdJ0_coder_7d493 ⟨Nat.le_of_ble_eq_true rfl, Nat.le_of_ble_eq_true rfl⟩) (k_preVY hY hZ hS (k_free hp hD hS hA) hK (kP_app.mp (kP_perm hp hP)).1 (kD_app (kD_perm hp hD)).1 (q0 := 0) (ci := 6) rfl rfl) rfl rfl hl.1 rfl (Nat.le_of_ble_eq_true rfl) dJ0_length_8abf5_6 ⟨by first | exact Nat.le_of_ble_eq_true rfl | omega, by first | exact Nat.le_of_ble_eq_true rfl | (show _ ≤ (_ : Nat); omega)⟩) hp hP hD hS hA (fun r u9 H locs hu95 hP hD hS => ?_)
  subst hu95
  replace hP : va_P D kCl ([(hs, .inr (6, [.ref bv, .int 0, .int 0, .int 0])), (bv, .inl (cy 3, bm, .inl ba))]) H := hP
  replace hD : va_D _ ([(hs, .inr (6, [.ref bv, .int 0, .int 0, .int 0])), (bv, .inl (cy 3, bm, .inl ba))]) := hD
  refine lv_ishr hx hb dJ0_length_8abf5_9 ?_
  rw [show ((((nI bm)) : Int32) >>> ((((0)) : Int32) &&& 31) : Int32) = nI bm from sb_shr0 _]
  exact W.iret hx hb hr (fun t ht hW => ⟨⟨_, (), rfl, rfl, by rw [ht]; exact hP, hD⟩, hS.F ht⟩) hS.2.2 dJ0_length_8abf5_10 hlocks
set_option maxHeartbeats 4000000 in
set_option maxRecDepth 100000 in
theorem cJ1_charAt_3b067W (l : Launch) (D : va_G) (cy : Nat → ClassId) (za zv : Nat → Nat) (Y : YB) (sz : Nat) (bv bm : Nat) (ba : Nat → Int32) (k x : Nat) (hk : k < bm) (hm : bm ≤ 1100) (hx9 : x < 256) (he : ba k = sb_b x) : Met l yJ1_charAt_3b067 wsJ1_charAt_3b067 rmJ1_charAt_3b067 (va_Pc [.ref bv, .int (nI k)] (kPreY D cy za zv Y sz ([(bv, .inl (cy 3, bm, .inl ba))]))) (va_Qi (fun r (_ : Unit) => r = nI x) (fun _ => kPost D (va_A ([(bv, .inl (cy 3, bm, .inl ba))]) sz) ([(bv, .inl (cy 3, bm, .inl ba))])) (va_A ([(bv, .inl (cy 3, bm, .inl ba))]) sz)) 0 0 (va_A ([(bv, .inl (cy 3, bm, .inl ba))]) sz) := by
  refine Met.ofW (cc := cJ1_charAt_3b067) (maxL := 2) (ret := (some .char)) (by decide) rfl ?_
  intro p e s m args below meth c s₁ B hml hv
  obtain ⟨rfl, ⟨⟨⟨hsz, hP, hK, hD0⟩, hZ⟩, hY⟩⟩ := hv
  subst hsz
  have hx := B.exec
  have hb := B.bytes
  have hr := B.returns
  have hts := atoms_spec (ws := wsJ1_charAt_3b067) B.pre
  have hown : s.vm.findClass RJ1 = some m.cls := findClass_of_methodNamed B.named
  have hlocks := B.notSynchronized
  have hA : ∀ q, s.heap.size ≤ q → va_A ([(bv, .inl (cy 3, bm, .inl ba))]) s.heap.size q := fun q h => Or.inr h
  have hS : va_S (va_A ([(bv, .inl (cy 3, bm, .inl ba))]) s.heap.size) s.heap s.heap [] := va_S.rf
  have hD : va_D (va_A ([(bv, .inl (cy 3, bm, .inl ba))]) s.heap.size) ([(bv, .inl (cy 3, bm, .inl ba))]) := hD0.self
  have hl := lv_entry ([.ref bv, .int (nI k)]) (n := 2) (Nat.le_of_ble_eq_true rfl)
  rw [lg_entry_eq]
  generalize (lg_sl ([.ref bv, .int (nI k)]) ++ List.replicate (2 - (lg_sl ([.ref bv, .int (nI k)])).length) Slot.unset).toArray = ls at hl ⊢
  have hl : lv_has ls 2 [(0, .ref bv), (1, .int (nI k))] := hl
  refine lv_iload_n hx hb dJ1_charAt_3b067_0 rfl (lv_at hl 1 rfl) ?_
  refine lv_aload_n hx hb dJ1_charAt_3b067_1 rfl (lv_at hl 0 rfl) ?_
  refine va_alen (v := nI bm) hx hb hK.1 hP 0 3 rfl rfl rfl dJ1_charAt_3b067_2 ?_
  have hp := (show ([(bv, .inl (cy 3, bm, .inl ba))] : va_W).Perm ([] ++ [(bv, .inl (cy 3, bm, .inl ba))]) from List.Perm.refl _)
  refine jr_v (S := Unit) (mk := fun _ => []) (va_runS (As := [.int (nI k), .int (nI bm)]) (rest := []) ⟨hx, hb, hml, hown, hts⟩ (cJ0_checkIndex_df160M l D cy za zv _ (nI k) (nI bm) (nI_pos (by omega)) (nI_lt hk (by omega)) (fun _ => True) trivial) (va_cwS 2 hts gJ1_charAt_3b067_J0_checkIndex_df160 rfl rfl rfl heJ0_checkIndex_df160 ⟨Nat.le_of_ble_eq_true rfl, Nat.le_of_ble_eq_true rfl⟩) (k_preSZ hZ hS (k_free hp hD hS hA) hK (kP_app.mp (kP_perm hp hP)).1 (kD_app (kD_perm hp hD)).1) rfl rfl hl.1 rfl (Nat.le_of_ble_eq_true rfl) dJ1_charAt_3b067_3 ⟨Nat.zero_le _, Nat.zero_le _⟩) hp hP hD hS hA (fun u H locs hu9 hP hD hS => ?_)
  replace hP : va_P D kCl ([(bv, .inl (cy 3, bm, .inl ba))]) H := hP
  replace hD : va_D _ ([(bv, .inl (cy 3, bm, .inl ba))]) := hD
  refine lv_aload_n hx hb dJ1_charAt_3b067_6 rfl (lv_at hl 0 rfl) ?_
  refine lv_iload_n hx hb dJ1_charAt_3b067_7 rfl (lv_at hl 1 rfl) ?_
  refine va_bald hx hb hK.1 hP 0 3 rfl rfl (vp_in_nI (n := k) (by omega) (by omega)) dJ1_charAt_3b067_8 ?_
  rw [show (nI k).toNatClampNeg = k from nI_clamp (by omega)]
  refine lv_sipush (v := 255) hx hb dJ1_charAt_3b067_9 rfl ?_
  refine lv_iand hx hb dJ1_charAt_3b067_12 ?_
  rw [show (((ba k)) &&& (255) : Int32) = nI x from by rw [he]; exact (sb_byte x hx9).1]
  refine lv_i2c (v := nI x) hx hb dJ1_charAt_3b067_13 (sb_byte x hx9).2.1 ?_
  exact W.zret hx hb hr (jn_ch2 hx9) (fun t ht hW => ⟨⟨_, (), rfl, rfl, by rw [ht]; exact hP, hD⟩, hS.F ht⟩) hS.2.2 dJ1_charAt_3b067_14 hlocks
theorem lkJ0_charAt_5068e_9 : Cond.fieldLink RJ0 9 "java/lang/String" "value" "[B" ∈ wsJ0_charAt_5068e := List.mem_of_getElem? (i := 1) rfl
theorem inJ0_charAt_5068e_J0 : ∀ w ∈ u_ws RJ0 TJ0 4, w ∈ wsJ0_charAt_5068e := k_lays 38 rfl
set_option maxHeartbeats 4000000 in
set_option maxRecDepth 100000 in
theorem cJ0_charAt_5068eW (l : Launch) (D : va_G) (cy : Nat → ClassId) (za zv : Nat → Nat) (Y : YB) (sz : Nat) (hs bv bm : Nat) (ba : Nat → Int32) (k x : Nat) (hk : k < bm) (hm : bm ≤ 1100) (hx9 : x < 256) (he : ba k = sb_b x) : Met l yJ0_charAt_5068e wsJ0_charAt_5068e rmJ0_charAt_5068e (va_Pc [.ref hs, .int (nI k)] (kPreY D cy za zv Y sz ([(hs, .inr (6, [.ref bv, .int 0, .int 0, .int 0])), (bv, .inl (cy 3, bm, .inl ba))]))) (va_Qi (fun r (_ : Unit) => r = nI x) (fun _ => kPost D (va_A ([(hs, .inr (6, [.ref bv, .int 0, .int 0, .int 0])), (bv, .inl (cy 3, bm, .inl ba))]) sz) ([(hs, .inr (6, [.ref bv, .int 0, .int 0, .int 0])), (bv, .inl (cy 3, bm, .inl ba))])) (va_A ([(hs, .inr (6, [.ref bv, .int 0, .int 0, .int 0])), (bv, .inl (cy 3, bm, .inl ba))]) sz)) 0 0 (va_A ([(hs, .inr (6, [.ref bv, .int 0, .int 0, .int 0])), (bv, .inl (cy 3, bm, .inl ba))]) sz) := by
  refine Met.ofW (cc := cJ0_charAt_5068e) (maxL := 2) (ret := (some .char)) (by decide) rfl ?_
  intro p e s m args below meth c s₁ B hml hv
  obtain ⟨rfl, ⟨⟨⟨hsz, hP, hK, hD0⟩, hZ⟩, hY⟩⟩ := hv
  subst hsz
  have hx := B.exec
  have hb := B.bytes
  have hr := B.returns
  have hts := atoms_spec (ws := wsJ0_charAt_5068e) B.pre
  have hown : s.vm.findClass RJ0 = some m.cls := findClass_of_methodNamed B.named
  have hlocks := B.notSynchronized
  have hA : ∀ q, s.heap.size ≤ q → va_A ([(hs, .inr (6, [.ref bv, .int 0, .int 0, .int 0])), (bv, .inl (cy 3, bm, .inl ba))]) s.heap.size q := fun q h => Or.inr h
  have hS : va_S (va_A ([(hs, .inr (6, [.ref bv, .int 0, .int 0, .int 0])), (bv, .inl (cy 3, bm, .inl ba))]) s.heap.size) s.heap s.heap [] := va_S.rf
  have hD : va_D (va_A ([(hs, .inr (6, [.ref bv, .int 0, .int 0, .int 0])), (bv, .inl (cy 3, bm, .inl ba))]) s.heap.size) ([(hs, .inr (6, [.ref bv, .int 0, .int 0, .int 0])), (bv, .inl (cy 3, bm, .inl ba))]) := hD0.self
  have hl := lv_entry ([.ref hs, .int (nI k)]) (n := 2) (Nat.le_of_ble_eq_true rfl)
  rw [lg_entry_eq]
  generalize (lg_sl ([.ref hs, .int (nI k)]) ++ List.replicate (2 - (lg_sl ([.ref hs, .int (nI k)])).length) Slot.unset).toArray = ls at hl ⊢
  have hl : lv_has ls 2 [(0, .ref hs), (1, .int (nI k))] := hl
  refine lv_aload_n hx hb dJ0_charAt_5068e_0 rfl (lv_at hl 0 rfl) ?_
  have hp := (show ([(hs, .inr (6, [.ref bv, .int 0, .int 0, .int 0])), (bv, .inl (cy 3, bm, .inl ba))] : va_W).Perm ([(hs, .inr (6, [.ref bv, .int 0, .int 0, .int 0])), (bv, .inl (cy 3, bm, .inl ba))] ++ []) from (List.append_nil _).symm ▸ List.Perm.refl _)
  refine jr_i (va_runV (b := hs) (As := []) (rest := []) ⟨hx, hb, hml, hown, hts⟩ (cJ0_isLatin1_aae02W l D cy za zv Y _ hs bv bm ba) (cwV 0 hts gJ0_charAt_5068e_J0_isLatin1_aae02 rfl rfl rfl hdJ0_isLatin1_aae02 ⟨Nat.le_of_ble_eq_true rfl, Nat.le_of_ble_eq_true rfl⟩) (k_preVY hY hZ hS (k_free hp hD hS hA) hK (kP_app.mp (kP_perm hp hP)).1 (kD_app (kD_perm hp hD)).1 (q0 := 0) (ci := 6) rfl rfl) rfl rfl hl.1 rfl (Nat.le_of_ble_eq_true rfl) dJ0_charAt_5068e_1 ⟨by first | exact Nat.le_of_ble_eq_true rfl | omega, by first | exact Nat.le_of_ble_eq_true rfl | (show _ ≤ (_ : Nat); omega)⟩) hp hP hD hS hA (fun r u9 H locs hu92 hP hD hS => ?_)
  subst hu92
  replace hP : va_P D kCl ([(hs, .inr (6, [.ref bv, .int 0, .int 0, .int 0])), (bv, .inl (cy 3, bm, .inl ba))]) H := hP
  replace hD : va_D _ ([(hs, .inr (6, [.ref bv, .int 0, .int 0, .int 0])), (bv, .inl (cy 3, bm, .inl ba))]) := hD
  refine lv_if_eq (tgt := 16) hx hb dJ0_charAt_5068e_4 (by decide) (fun c => absurd c (by decide)) (fun _ => ?_)
  refine lv_aload_n hx hb dJ0_charAt_5068e_7 rfl (lv_at hl 0 rfl) ?_
  refine k_get (v := .ref bv) (C := RJ0) (T := TJ0) (N := 4) hx hb hts inJ0_charAt_5068e_J0 hown hK hP 0 rfl rfl 0 (by decide) lkJ0_charAt_5068e_9 rfl dJ0_charAt_5068e_8 ?_
  refine lv_iload_n hx hb dJ0_charAt_5068e_11 rfl (lv_at hl 1 rfl) ?_
  have hp := (k_pick (l := ([(hs, .inr (6, [.ref bv, .int 0, .int 0, .int 0])), (bv, .inl (cy 3, bm, .inl ba))] : va_W)) (k := 1) rfl)
  refine jr_i (va_runS (As := [.ref bv, .int (nI k)]) (rest := []) ⟨hx, hb, hml, hown, hts⟩ (cJ1_charAt_3b067W l D cy za zv Y _ bv bm ba k x hk hm hx9 he) (va_cwS 2 hts gJ0_charAt_5068e_J1_charAt_3b067 rfl rfl rfl heJ1_charAt_3b067 ⟨Nat.le_of_ble_eq_true rfl, Nat.le_of_ble_eq_true rfl⟩) (k_preSY hY hZ hS (k_free hp hD hS hA) hK (kP_app.mp (kP_perm hp hP)).1 (kD_app (kD_perm hp hD)).1) rfl rfl hl.1 rfl (Nat.le_of_ble_eq_true rfl) dJ0_charAt_5068e_12 ⟨by first | exact Nat.le_of_ble_eq_true rfl | omega, by first | exact Nat.le_of_ble_eq_true rfl | (show _ ≤ (_ : Nat); omega)⟩) hp hP hD hS hA (fun r u9 H locs hu911 hP hD hS => ?_)
  subst hu911
  replace hP : va_P D kCl ([(bv, .inl (cy 3, bm, .inl ba)), (hs, .inr (6, [.ref bv, .int 0, .int 0, .int 0]))]) H := hP
  replace hD : va_D _ ([(bv, .inl (cy 3, bm, .inl ba)), (hs, .inr (6, [.ref bv, .int 0, .int 0, .int 0]))]) := hD
  replace hP := kP_perm (show List.Perm ([(bv, .inl (cy 3, bm, .inl ba)), (hs, .inr (6, [.ref bv, .int 0, .int 0, .int 0]))] : va_W) ([(hs, .inr (6, [.ref bv, .int 0, .int 0, .int 0])), (bv, .inl (cy 3, bm, .inl ba))]) from (List.reverse_perm ([(bv, .inl (cy 3, bm, .inl ba)), (hs, .inr (6, [.ref bv, .int 0, .int 0, .int 0]))] : va_W)).symm) hP
  replace hD := kD_perm (show List.Perm ([(bv, .inl (cy 3, bm, .inl ba)), (hs, .inr (6, [.ref bv, .int 0, .int 0, .int 0]))] : va_W) ([(hs, .inr (6, [.ref bv, .int 0, .int 0, .int 0])), (bv, .inl (cy 3, bm, .inl ba))]) from (List.reverse_perm ([(bv, .inl (cy 3, bm, .inl ba)), (hs, .inr (6, [.ref bv, .int 0, .int 0, .int 0]))] : va_W)).symm) hD
  exact W.zret hx hb hr (jn_ch2 hx9) (fun t ht hW => ⟨⟨_, (), rfl, rfl, by rw [ht]; exact hP, hD⟩, hS.F ht⟩) hS.2.2 dJ0_charAt_5068e_15 hlocks
set_option maxHeartbeats 4000000 in
set_option maxRecDepth 100000 in
theorem cJ0_length_8abf5Q (l : Launch) (D : va_G) (cy : Nat → ClassId) (za zv : Nat → Nat) (Y : YB) (sz : Nat) (hs bv bm : Nat) (ba : Nat → Int32) (hm : bm ≤ 1100) (K : Int32 → Prop) (h9 : K (nI bm)) : Met l yJ0_length_8abf5 wsJ0_length_8abf5 rmJ0_length_8abf5 (va_Pc [.ref hs] (kPreY D cy za zv Y sz ([(hs, .inr (6, [.ref bv, .int 0, .int 0, .int 0])), (bv, .inl (cy 3, bm, .inl ba))]))) (va_Qi (fun r (_ : Unit) => K r) (fun _ => kPost D (va_A ([(hs, .inr (6, [.ref bv, .int 0, .int 0, .int 0])), (bv, .inl (cy 3, bm, .inl ba))]) sz) ([(hs, .inr (6, [.ref bv, .int 0, .int 0, .int 0])), (bv, .inl (cy 3, bm, .inl ba))])) (va_A ([(hs, .inr (6, [.ref bv, .int 0, .int 0, .int 0])), (bv, .inl (cy 3, bm, .inl ba))]) sz)) 0 0 (va_A ([(hs, .inr (6, [.ref bv, .int 0, .int 0, .int 0])), (bv, .inl (cy 3, bm, .inl ba))]) sz) := by
  refine Met.ofW (cc := cJ0_length_8abf5) (maxL := 1) (ret := (some .int)) (by decide) rfl ?_
  intro p e s m args below meth c s₁ B hml hv
  obtain ⟨rfl, ⟨⟨⟨hsz, hP, hK, hD0⟩, hZ⟩, hY⟩⟩ := hv
  subst hsz
  have hx := B.exec
  have hb := B.bytes
  have hr := B.returns
  have hts := atoms_spec (ws := wsJ0_length_8abf5) B.pre
  have hown : s.vm.findClass RJ0 = some m.cls := findClass_of_methodNamed B.named
  have hlocks := B.notSynchronized
  have hA : ∀ q, s.heap.size ≤ q → va_A ([(hs, .inr (6, [.ref bv, .int 0, .int 0, .int 0])), (bv, .inl (cy 3, bm, .inl ba))]) s.heap.size q := fun q h => Or.inr h
  have hS : va_S (va_A ([(hs, .inr (6, [.ref bv, .int 0, .int 0, .int 0])), (bv, .inl (cy 3, bm, .inl ba))]) s.heap.size) s.heap s.heap [] := va_S.rf
  have hD : va_D (va_A ([(hs, .inr (6, [.ref bv, .int 0, .int 0, .int 0])), (bv, .inl (cy 3, bm, .inl ba))]) s.heap.size) ([(hs, .inr (6, [.ref bv, .int 0, .int 0, .int 0])), (bv, .inl (cy 3, bm, .inl ba))]) := hD0.self
  have hl := lv_entry ([.ref hs]) (n := 1) (Nat.le_of_ble_eq_true rfl)
  rw [lg_entry_eq]
  generalize (lg_sl ([.ref hs]) ++ List.replicate (1 - (lg_sl ([.ref hs])).length) Slot.unset).toArray = ls at hl ⊢
  have hl : lv_has ls 1 [(0, .ref hs)] := hl
  refine lv_aload_n hx hb dJ0_length_8abf5_0 rfl (lv_at hl 0 rfl) ?_
  refine k_get (v := .ref bv) (C := RJ0) (T := TJ0) (N := 4) hx hb hts inJ0_length_8abf5_J0 hown hK hP 0 rfl rfl 0 (by decide) lkJ0_length_8abf5_9 rfl dJ0_length_8abf5_1 ?_
  refine va_alen (v := nI bm) hx hb hK.1 hP 1 3 rfl rfl rfl dJ0_length_8abf5_4 ?_
  refine lv_aload_n hx hb dJ0_length_8abf5_5 rfl (lv_at hl 0 rfl) ?_
  have hp := (show ([(hs, .inr (6, [.ref bv, .int 0, .int 0, .int 0])), (bv, .inl (cy 3, bm, .inl ba))] : va_W).Perm ([(hs, .inr (6, [.ref bv, .int 0, .int 0, .int 0])), (bv, .inl (cy 3, bm, .inl ba))] ++ []) from (List.append_nil _).symm ▸ List.Perm.refl _)
  refine jr_i (va_runV (b := hs) (As := []) (rest := [.int (nI bm)]) ⟨hx, hb, hml, hown, hts⟩ (cJ0_coder_7d493W l D cy za zv Y _ hs bv bm ba) (cwV 0 hts gJ0_length_8abf5_J0_coder_7d493 rfl rfl rfl hdJ0_coder_7d493 ⟨Nat.le_of_ble_eq_true rfl, Nat.le_of_ble_eq_true rfl⟩) (k_preVY hY hZ hS (k_free hp hD hS hA) hK (kP_app.mp (kP_perm hp hP)).1 (kD_app (kD_perm hp hD)).1 (q0 := 0) (ci := 6) rfl rfl) rfl rfl hl.1 rfl (Nat.le_of_ble_eq_true rfl) dJ0_length_8abf5_6 ⟨by first | exact Nat.le_of_ble_eq_true rfl | omega, by first | exact Nat.le_of_ble_eq_true rfl | (show _ ≤ (_ : Nat); omega)⟩) hp hP hD hS hA (fun r u9 H locs hu95 hP hD hS => ?_)
  subst hu95
  replace hP : va_P D kCl ([(hs, .inr (6, [.ref bv, .int 0, .int 0, .int 0])), (bv, .inl (cy 3, bm, .inl ba))]) H := hP
  replace hD : va_D _ ([(hs, .inr (6, [.ref bv, .int 0, .int 0, .int 0])), (bv, .inl (cy 3, bm, .inl ba))]) := hD
  refine lv_ishr hx hb dJ0_length_8abf5_9 ?_
  rw [show ((((nI bm)) : Int32) >>> ((((0)) : Int32) &&& 31) : Int32) = nI bm from sb_shr0 _]
  exact W.iret hx hb hr (fun t ht hW => ⟨⟨_, (), rfl, h9, by rw [ht]; exact hP, hD⟩, hS.F ht⟩) hS.2.2 dJ0_length_8abf5_10 hlocks
set_option maxHeartbeats 4000000 in
set_option maxRecDepth 100000 in
theorem cJ0_charAt_5068eQ (l : Launch) (D : va_G) (cy : Nat → ClassId) (za zv : Nat → Nat) (Y : YB) (sz : Nat) (hs bv bm : Nat) (ba : Nat → Int32) (k x : Nat) (hk : k < bm) (hm : bm ≤ 1100) (hx9 : x < 256) (he : ba k = sb_b x) (K : Int32 → Prop) (h9 : K (nI x)) : Met l yJ0_charAt_5068e wsJ0_charAt_5068e rmJ0_charAt_5068e (va_Pc [.ref hs, .int (nI k)] (kPreY D cy za zv Y sz ([(hs, .inr (6, [.ref bv, .int 0, .int 0, .int 0])), (bv, .inl (cy 3, bm, .inl ba))]))) (va_Qi (fun r (_ : Unit) => K r) (fun _ => kPost D (va_A ([(hs, .inr (6, [.ref bv, .int 0, .int 0, .int 0])), (bv, .inl (cy 3, bm, .inl ba))]) sz) ([(hs, .inr (6, [.ref bv, .int 0, .int 0, .int 0])), (bv, .inl (cy 3, bm, .inl ba))])) (va_A ([(hs, .inr (6, [.ref bv, .int 0, .int 0, .int 0])), (bv, .inl (cy 3, bm, .inl ba))]) sz)) 0 0 (va_A ([(hs, .inr (6, [.ref bv, .int 0, .int 0, .int 0])), (bv, .inl (cy 3, bm, .inl ba))]) sz) := by
  refine Met.ofW (cc := cJ0_charAt_5068e) (maxL := 2) (ret := (some .char)) (by decide) rfl ?_
  intro p e s m args below meth c s₁ B hml hv
  obtain ⟨rfl, ⟨⟨⟨hsz, hP, hK, hD0⟩, hZ⟩, hY⟩⟩ := hv
  subst hsz
  have hx := B.exec
  have hb := B.bytes
  have hr := B.returns
  have hts := atoms_spec (ws := wsJ0_charAt_5068e) B.pre
  have hown : s.vm.findClass RJ0 = some m.cls := findClass_of_methodNamed B.named
  have hlocks := B.notSynchronized
  have hA : ∀ q, s.heap.size ≤ q → va_A ([(hs, .inr (6, [.ref bv, .int 0, .int 0, .int 0])), (bv, .inl (cy 3, bm, .inl ba))]) s.heap.size q := fun q h => Or.inr h
  have hS : va_S (va_A ([(hs, .inr (6, [.ref bv, .int 0, .int 0, .int 0])), (bv, .inl (cy 3, bm, .inl ba))]) s.heap.size) s.heap s.heap [] := va_S.rf
  have hD : va_D (va_A ([(hs, .inr (6, [.ref bv, .int 0, .int 0, .int 0])), (bv, .inl (cy 3, bm, .inl ba))]) s.heap.size) ([(hs, .inr (6, [.ref bv, .int 0, .int 0, .int 0])), (bv, .inl (cy 3, bm, .inl ba))]) := hD0.self
  have hl := lv_entry ([.ref hs, .int (nI k)]) (n := 2) (Nat.le_of_ble_eq_true rfl)
  rw [lg_entry_eq]
  generalize (lg_sl ([.ref hs, .int (nI k)]) ++ List.replicate (2 - (lg_sl ([.ref hs, .int (nI k)])).length) Slot.unset).toArray = ls at hl ⊢
  have hl : lv_has ls 2 [(0, .ref hs), (1, .int (nI k))] := hl
  refine lv_aload_n hx hb dJ0_charAt_5068e_0 rfl (lv_at hl 0 rfl) ?_
  have hp := (show ([(hs, .inr (6, [.ref bv, .int 0, .int 0, .int 0])), (bv, .inl (cy 3, bm, .inl ba))] : va_W).Perm ([(hs, .inr (6, [.ref bv, .int 0, .int 0, .int 0])), (bv, .inl (cy 3, bm, .inl ba))] ++ []) from (List.append_nil _).symm ▸ List.Perm.refl _)
  refine jr_i (va_runV (b := hs) (As := []) (rest := []) ⟨hx, hb, hml, hown, hts⟩ (cJ0_isLatin1_aae02W l D cy za zv Y _ hs bv bm ba) (cwV 0 hts gJ0_charAt_5068e_J0_isLatin1_aae02 rfl rfl rfl hdJ0_isLatin1_aae02 ⟨Nat.le_of_ble_eq_true rfl, Nat.le_of_ble_eq_true rfl⟩) (k_preVY hY hZ hS (k_free hp hD hS hA) hK (kP_app.mp (kP_perm hp hP)).1 (kD_app (kD_perm hp hD)).1 (q0 := 0) (ci := 6) rfl rfl) rfl rfl hl.1 rfl (Nat.le_of_ble_eq_true rfl) dJ0_charAt_5068e_1 ⟨by first | exact Nat.le_of_ble_eq_true rfl | omega, by first | exact Nat.le_of_ble_eq_true rfl | (show _ ≤ (_ : Nat); omega)⟩) hp hP hD hS hA (fun r u9 H locs hu92 hP hD hS => ?_)
  subst hu92
  replace hP : va_P D kCl ([(hs, .inr (6, [.ref bv, .int 0, .int 0, .int 0])), (bv, .inl (cy 3, bm, .inl ba))]) H := hP
  replace hD : va_D _ ([(hs, .inr (6, [.ref bv, .int 0, .int 0, .int 0])), (bv, .inl (cy 3, bm, .inl ba))]) := hD
  refine lv_if_eq (tgt := 16) hx hb dJ0_charAt_5068e_4 (by decide) (fun c => absurd c (by decide)) (fun _ => ?_)
  refine lv_aload_n hx hb dJ0_charAt_5068e_7 rfl (lv_at hl 0 rfl) ?_
  refine k_get (v := .ref bv) (C := RJ0) (T := TJ0) (N := 4) hx hb hts inJ0_charAt_5068e_J0 hown hK hP 0 rfl rfl 0 (by decide) lkJ0_charAt_5068e_9 rfl dJ0_charAt_5068e_8 ?_
  refine lv_iload_n hx hb dJ0_charAt_5068e_11 rfl (lv_at hl 1 rfl) ?_
  have hp := (k_pick (l := ([(hs, .inr (6, [.ref bv, .int 0, .int 0, .int 0])), (bv, .inl (cy 3, bm, .inl ba))] : va_W)) (k := 1) rfl)
  refine jr_i (va_runS (As := [.ref bv, .int (nI k)]) (rest := []) ⟨hx, hb, hml, hown, hts⟩ (cJ1_charAt_3b067W l D cy za zv Y _ bv bm ba k x hk hm hx9 he) (va_cwS 2 hts gJ0_charAt_5068e_J1_charAt_3b067 rfl rfl rfl heJ1_charAt_3b067 ⟨Nat.le_of_ble_eq_true rfl, Nat.le_of_ble_eq_true rfl⟩) (k_preSY hY hZ hS (k_free hp hD hS hA) hK (kP_app.mp (kP_perm hp hP)).1 (kD_app (kD_perm hp hD)).1) rfl rfl hl.1 rfl (Nat.le_of_ble_eq_true rfl) dJ0_charAt_5068e_12 ⟨by first | exact Nat.le_of_ble_eq_true rfl | omega, by first | exact Nat.le_of_ble_eq_true rfl | (show _ ≤ (_ : Nat); omega)⟩) hp hP hD hS hA (fun r u9 H locs hu911 hP hD hS => ?_)
  subst hu911
  replace hP : va_P D kCl ([(bv, .inl (cy 3, bm, .inl ba)), (hs, .inr (6, [.ref bv, .int 0, .int 0, .int 0]))]) H := hP
  replace hD : va_D _ ([(bv, .inl (cy 3, bm, .inl ba)), (hs, .inr (6, [.ref bv, .int 0, .int 0, .int 0]))]) := hD
  replace hP := kP_perm (show List.Perm ([(bv, .inl (cy 3, bm, .inl ba)), (hs, .inr (6, [.ref bv, .int 0, .int 0, .int 0]))] : va_W) ([(hs, .inr (6, [.ref bv, .int 0, .int 0, .int 0])), (bv, .inl (cy 3, bm, .inl ba))]) from (List.reverse_perm ([(bv, .inl (cy 3, bm, .inl ba)), (hs, .inr (6, [.ref bv, .int 0, .int 0, .int 0]))] : va_W)).symm) hP
  replace hD := kD_perm (show List.Perm ([(bv, .inl (cy 3, bm, .inl ba)), (hs, .inr (6, [.ref bv, .int 0, .int 0, .int 0]))] : va_W) ([(hs, .inr (6, [.ref bv, .int 0, .int 0, .int 0])), (bv, .inl (cy 3, bm, .inl ba))]) from (List.reverse_perm ([(bv, .inl (cy 3, bm, .inl ba)), (hs, .inr (6, [.ref bv, .int 0, .int 0, .int 0]))] : va_W)).symm) hD
  exact W.zret hx hb hr (jn_ch2 hx9) (fun t ht hW => ⟨⟨_, (), rfl, h9, by rw [ht]; exact hP, hD⟩, hS.F ht⟩) hS.2.2 dJ0_charAt_5068e_15 hlocks
def fJ0_lenP (_ : YB) (bm : Nat) (_ : Nat → Nat) : Option Int32 := if bm ≤ 1100 then some (nI bm) else none
def fJ0_chP (i : Int32) (_ : YB) (bm : Nat) (bc : Nat → Nat) : Option Int32 := if bm ≤ 1100 then grd (inb i bm) (some (nI (bc (ix i)))) else none
theorem cJ0_length_8abf5P (l : Launch) (D : va_G) (cy : Nat → ClassId) (za zv : Nat → Nat) (Y : YB) (hs bv : Nat) (ba : Nat → Int32) (sz : Nat) (bm : Nat) (bc : Nat → Nat) (_hT : ∀ j, j < bm → ba j = sb_b (bc j) ∧ bc j < 256) : ∀ (K : Int32 → Prop), Ok (fJ0_lenP Y bm bc) K → Met l yJ0_length_8abf5 wsJ0_length_8abf5 rmJ0_length_8abf5 (va_Pc [.ref hs] (kPreY D cy za zv Y sz (wST cy hs bv bm ba))) (va_Qi (fun r (_ : Unit) => K r) (fun _ => kPost D (va_A (wST cy hs bv bm ba) sz) (wST cy hs bv bm ba)) (va_A (wST cy hs bv bm ba) sz)) 0 0 (va_A (wST cy hs bv bm ba) sz) := by
  intro K h
  unfold fJ0_lenP at h
  by_cases hm : bm ≤ 1100
  · rw [if_pos hm] at h
    exact cJ0_length_8abf5Q l D cy za zv Y sz hs bv bm ba hm K h.ret
  · rw [if_neg hm] at h
    exact h.no
theorem cJ0_charAt_5068eP (l : Launch) (D : va_G) (cy : Nat → ClassId) (za zv : Nat → Nat) (Y : YB) (hs bv : Nat) (ba : Nat → Int32) (sz : Nat) (bm : Nat) (bc : Nat → Nat) (hT : ∀ j, j < bm → ba j = sb_b (bc j) ∧ bc j < 256) (i : Int32) : ∀ (K : Int32 → Prop), Ok (fJ0_chP i Y bm bc) K → Met l yJ0_charAt_5068e wsJ0_charAt_5068e rmJ0_charAt_5068e (va_Pc [.ref hs, .int i] (kPreY D cy za zv Y sz (wST cy hs bv bm ba))) (va_Qi (fun r (_ : Unit) => K r) (fun _ => kPost D (va_A (wST cy hs bv bm ba) sz) (wST cy hs bv bm ba)) (va_A (wST cy hs bv bm ba) sz)) 0 0 (va_A (wST cy hs bv bm ba) sz) := by
  intro K h
  unfold fJ0_chP at h
  by_cases hm : bm ≤ 1100
  · rw [if_pos hm] at h
    have hg := inb_vp h.grd1
    obtain ⟨k, hk, rfl⟩ := vp_in_of hg (by omega)
    have h2 := h.grd2
    rw [show ix (nI k) = k from nI_clamp (by omega)] at h2
    exact cJ0_charAt_5068eQ l D cy za zv Y sz hs bv bm ba k (bc k) hk hm (hT k hk).2 (hT k hk).1 K h2.ret
  · rw [if_neg hm] at h
    exact h.no
