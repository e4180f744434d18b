section JE
variable {p : Program} {l : Launch} {e : Env} {s : State} {m : MethodId} {args : Array Value} {below : List Frame} {meth : Method} {c : Code} {Q : State → Prop}
variable {D : va_G} {cy : Nat → ClassId} {A : Nat → Prop} {za zv : Nat → Nat} {Y : YB} {hLn lbn : Nat} {ad hh : Nat → Nat} {aa : Nat → Nat → Nat} {pa : Nat → Nat} {u : FS}
def ldC (Y : YB) : Nat → List Nat × Nat → List Nat × Nat
  | 0, q => q
  | n + 1, q => ldC Y n (q.1 ++ zL 38 ++ decL (drN Y q.2 4) ++ [32] ++ decL (1 + (drN Y (q.2 + 1) 120)) ++ [59], q.2 + 2)
set_option maxHeartbeats 4000000 in
set_option maxRecDepth 100000 in
theorem tLd_c (hN : Y.2.2.1 < 2147483648) (E : mE D cy RL cL_loads 4 (some .boolean) wsL_loads A p s m args meth c) (hZ : mZ za zv A s s.heap) (hY : mY Y A s s.heap) (cr : Nat) (hcr : cr ≤ 8) (bz : Int32) : ∀ (n j k b cells slots bv bm : Nat) (t : List Nat) (ba : Nat → Int32) (H : Heap) (locs : List Loc) (ls : Array Slot), j + n = cr → k + 2 * n < 2000000 → tB t bm ba → t.length ≤ b → b + 12 * n ≤ 510 → cells + 5 * n ≤ 120 → slots + 5500 * n ≤ 132000 → lv_has ls 4 [(3, .int (nI j)), (2, .int (nI cr)), (0, .ref hLn)] → va_P D kCl (w3 cy hLn lbn ad hh aa pa Y k u bv bm ba t.length bz) H → va_D A (w3 cy hLn lbn ad hh aa pa Y k u bv bm ba t.length bz) → va_S A s.heap H locs →
    (∀ (bv bm : Nat) (ba : Nat → Int32) (H : Heap) (locs : List Loc) (ls : Array Slot), lv_has ls 4 [(2, .int (nI cr)), (0, .ref hLn)] → tB (ldC Y n (t, k)).1 bm ba → (ldC Y n (t, k)).1.length ≤ b + 12 * n → va_P D kCl (w3 cy hLn lbn ad hh aa pa Y (ldC Y n (t, k)).2 u bv bm ba (ldC Y n (t, k)).1.length bz) H → va_D A (w3 cy hLn lbn ad hh aa pa Y (ldC Y n (t, k)).2 u bv bm ba (ldC Y n (t, k)).1.length bz) → va_S A s.heap H locs → W p l e rmL_loads s m args below meth c H locs (cells + 5 * n) (slots + 5500 * n) Q (F0 m 369 ls [])) → W p l e rmL_loads s m args below meth c H locs cells slots Q (F0 m 319 ls []) := by
  obtain ⟨hx, hb, hr, hml, hown, hts, hlocks, hK, hA⟩ := id E
  intro n
  induction n with
  | zero =>
    intro j k b cells slots bv bm t ba H locs ls hj hk hB hL hb9 hc hs hl hP hD hS kk
    refine lv_iload_n hx hb dL_loads_319 rfl (lv_at hl 0 rfl) ?_
    refine lv_iload_n hx hb dL_loads_320 rfl (lv_at hl 1 rfl) ?_
    refine lv_icmp_ge (tgt := 369) hx hb dL_loads_321 (by decide) (fun _ => ?_) (fun c9 => absurd (nI_le (by omega) (by omega)) c9)
    exact kk bv bm ba H locs ls (lv_sub hl [1, 2] rfl) hB hL hP hD hS
  | succ n ih =>
    intro j k b cells slots bv bm t ba H locs ls hj hk hB hL hb9 hc hs hl hP hD hS kk
    refine lv_iload_n hx hb dL_loads_319 rfl (lv_at hl 0 rfl) ?_
    refine lv_iload_n hx hb dL_loads_320 rfl (lv_at hl 1 rfl) ?_
    refine lv_icmp_ge (tgt := 369) hx hb dL_loads_321 (by decide) (fun c9 => absurd c9 (jd_nle (by omega) (by omega))) (fun _ => ?_)
    refine lv_aload_n hx hb dL_loads_324 rfl (lv_at hl 2 rfl) ?_
    refine k_get (v := .ref lbn) (C := RL) (T := TL) (N := 4) hx hb hts inL_loads_L hown hK hP 0 rfl rfl 3 (by decide) lkL_loads_19 rfl dL_loads_325 ?_
    refine k_ldcS (tx := "car ") (q := za 38) hx hb hown (k_site hZ 38 (by decide)) dL_loads_328 ?_
    refine jd_app (k := k) (b9 := b) (c9 := 4) (t := t) (s9 := zL 38) (n1 := t.length + (zL 38).length) (As := [.ref (za 38)]) (rest := []) ⟨hx, hb, hml, hown, hts⟩ (cJ4_append_15ec4M l D cy za zv Y H.size lbn bv bm ba t.length bz 38 (by decide) (by rw [show (zB 38).length = 4 by decide +kernel]; omega) hB.2.1 hB.1 hB.2.2.1) (cwV 1 hts gL_loads_J4_append_15ec4 rfl rfl rfl hdJ4_append_15ec4 ⟨Nat.le_of_ble_eq_true rfl, Nat.le_of_ble_eq_true rfl⟩) hY hZ hK hB hL (by decide +kernel) List.length_append.symm (zL_lt 38 (by decide)) (fun _ h => h) hP hD hS hA rfl hl.1 rfl (Nat.le_of_ble_eq_true rfl) dL_loads_330 ⟨by show _ ≤ 120; omega, by show _ ≤ 132000; omega⟩ (fun tx1 bv bm ba H locs ex1 hB hL hP hD hS => ?_)
    refine lv_aload_n hx hb dL_loads_333 rfl (lv_at hl 2 rfl) ?_
    refine lv_iconst (v := 4) hx hb dL_loads_334 rfl ?_
    refine jd_dg (k := k) (n9 := 4) (rest := [.ref lbn]) hN (by omega) (by decide) (by decide) ⟨hx, hb, hml, hown, hts⟩ (cwV 1 hts gL_loads_L_draw rfl rfl rfl hdL_draw ⟨Nat.le_of_ble_eq_true rfl, Nat.le_of_ble_eq_true rfl⟩) hY hZ hK hP hD hS hA hl.1 rfl (Nat.le_of_ble_eq_true rfl) dL_loads_335 ⟨by show _ ≤ 120; omega, by show _ ≤ 132000; omega⟩ (fun d1 H locs hd1 ld1 hP hD hS => ?_)
    refine jd_app (k := k + 1) (b9 := b + 4) (c9 := 3) (t := tx1) (s9 := decL d1) (n1 := tx1.length + (decL d1).length) (As := [.int (nI d1)]) (rest := []) ⟨hx, hb, hml, hown, hts⟩ (cJ4_append_bf812M l D cy za zv Y H.size lbn bv bm ba tx1.length bz d1 (by omega) (by omega) hB.2.1 hB.1 hB.2.2.1) (cwV 1 hts gL_loads_J4_append_bf812 rfl rfl rfl hdJ4_append_bf812 ⟨Nat.le_of_ble_eq_true rfl, Nat.le_of_ble_eq_true rfl⟩) hY hZ hK hB hL (decL_le _) List.length_append.symm (decL_lt (by omega)) (fun _ h => h) hP hD hS hA rfl hl.1 rfl (Nat.le_of_ble_eq_true rfl) dL_loads_338 ⟨by show _ ≤ 120; omega, by show _ ≤ 132000; omega⟩ (fun tx2 bv bm ba H locs ex2 hB hL hP hD hS => ?_)
    refine lv_bipush (v := 32) hx hb dL_loads_341 rfl ?_
    refine jd_app (k := k + 1) (b9 := b + 4 + 3) (c9 := 1) (t := tx2) (s9 := [32]) (n1 := tx2.length + 1) (As := [.int 32]) (rest := []) ⟨hx, hb, hml, hown, hts⟩ (cJ4_append_cf468M l D cy za zv Y H.size lbn bv bm ba tx2.length bz 32 (by decide) (by omega) hB.2.1 hB.1 hB.2.2.1) (cwV 1 hts gL_loads_J4_append_cf468 rfl rfl rfl hdJ4_append_cf468 ⟨Nat.le_of_ble_eq_true rfl, Nat.le_of_ble_eq_true rfl⟩) hY hZ hK hB hL (Nat.le_refl 1) (by simp) (chr_lt (by decide)) (fun _ h => jApp_chr h) hP hD hS hA rfl hl.1 rfl (Nat.le_of_ble_eq_true rfl) dL_loads_343 ⟨by show _ ≤ 120; omega, by show _ ≤ 132000; omega⟩ (fun tx3 bv bm ba H locs ex3 hB hL hP hD hS => ?_)
    refine lv_iconst (v := 1) hx hb dL_loads_346 rfl ?_
    refine lv_aload_n hx hb dL_loads_347 rfl (lv_at hl 2 rfl) ?_
    refine lv_bipush (v := 120) hx hb dL_loads_348 rfl ?_
    refine jd_dg (k := k + 1) (n9 := 120) (rest := [.int 1, .ref lbn]) hN (by omega) (by decide) (by decide) ⟨hx, hb, hml, hown, hts⟩ (cwV 1 hts gL_loads_L_draw rfl rfl rfl hdL_draw ⟨Nat.le_of_ble_eq_true rfl, Nat.le_of_ble_eq_true rfl⟩) hY hZ hK hP hD hS hA hl.1 rfl (Nat.le_of_ble_eq_true rfl) dL_loads_350 ⟨by show _ ≤ 120; omega, by show _ ≤ 132000; omega⟩ (fun d2 H locs hd2 ld2 hP hD hS => ?_)
    refine lv_iadd hx hb dL_loads_353 ?_
    rw [show (1 + (nI d2) : Int32) = nI (1 + d2) from nI_add 1 d2]
    refine jd_app (k := k + 2) (b9 := b + 4 + 3 + 1) (c9 := 3) (t := tx3) (s9 := decL (1 + d2)) (n1 := tx3.length + (decL (1 + d2)).length) (As := [.int (nI (1 + d2))]) (rest := []) ⟨hx, hb, hml, hown, hts⟩ (cJ4_append_bf812M l D cy za zv Y H.size lbn bv bm ba tx3.length bz (1 + d2) (by omega) (by omega) hB.2.1 hB.1 hB.2.2.1) (cwV 1 hts gL_loads_J4_append_bf812 rfl rfl rfl hdJ4_append_bf812 ⟨Nat.le_of_ble_eq_true rfl, Nat.le_of_ble_eq_true rfl⟩) hY hZ hK hB hL (decL_le _) List.length_append.symm (decL_lt (by omega)) (fun _ h => h) hP hD hS hA rfl hl.1 rfl (Nat.le_of_ble_eq_true rfl) dL_loads_354 ⟨by show _ ≤ 120; omega, by show _ ≤ 132000; omega⟩ (fun tx4 bv bm ba H locs ex4 hB hL hP hD hS => ?_)
    refine lv_bipush (v := 59) hx hb dL_loads_357 rfl ?_
    refine jd_app (k := k + 2) (b9 := b + 4 + 3 + 1 + 3) (c9 := 1) (t := tx4) (s9 := [59]) (n1 := tx4.length + 1) (As := [.int 59]) (rest := []) ⟨hx, hb, hml, hown, hts⟩ (cJ4_append_cf468M l D cy za zv Y H.size lbn bv bm ba tx4.length bz 59 (by decide) (by omega) hB.2.1 hB.1 hB.2.2.1) (cwV 1 hts gL_loads_J4_append_cf468 rfl rfl rfl hdJ4_append_cf468 ⟨Nat.le_of_ble_eq_true rfl, Nat.le_of_ble_eq_true rfl⟩) hY hZ hK hB hL (Nat.le_refl 1) (by simp) (chr_lt (by decide)) (fun _ h => jApp_chr h) hP hD hS hA rfl hl.1 rfl (Nat.le_of_ble_eq_true rfl) dL_loads_359 ⟨by show _ ≤ 120; omega, by show _ ≤ 132000; omega⟩ (fun tx5 bv bm ba H locs ex5 hB hL hP hD hS => ?_)
    refine lv_pop hx hb dL_loads_362 rfl ?_
    have eT : tx5 = t ++ zL 38 ++ decL d1 ++ [32] ++ decL (1 + d2) ++ [59] := by rw [ex5, ex4, ex3, ex2, ex1]
    rw [eT] at hB hL hP hD
    subst hd1
    subst hd2
    refine lv_iinc (v := nI (j + 1)) (lv' := [(3, .int (nI (j + 1))), (2, .int (nI cr)), (0, .ref hLn)]) hx hb dL_loads_363 hl (k := 0) rfl (nI_1 j) (by decide) rfl (fun ls hl => ?_)
    refine lv_goto (tgt := 319) hx hb dL_loads_366 (by decide) ?_
    have e : ldC Y (n + 1) (t, k) = ldC Y n (t ++ zL 38 ++ decL (drN Y k 4) ++ [32] ++ decL (1 + (drN Y (k + 1) 120)) ++ [59], k + 2) := rfl
    rw [e] at kk
    refine W.widen (k := cells + 5) (n := slots + 5500) (by omega) (by omega) ?_
    exact ih (j + 1) (k + 2) (b + 12) (cells + 5) (slots + 5500) bv bm _ ba H locs ls (by omega) (by omega) hB (by omega) (by omega) (by omega) (by omega) hl hP hD hS (fun bv bm ba H locs ls hl hB hL hP hD hS => W.widen (by omega) (by omega) (kk bv bm ba H locs ls hl hB (by omega) hP hD hS))
end JE
