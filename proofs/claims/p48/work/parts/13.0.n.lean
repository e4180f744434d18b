section JE
variable {p : Program} {l : Launch} {e : Env} {s : State} {m : MethodId} {args : Array Value} {below : List Frame} {meth : Method} {c : Code} {Q : State → Prop}
variable {D : va_G} {cy : Nat → ClassId} {A : Nat → Prop} {za zv : Nat → Nat} {Y : YB} {hLn lbn : Nat} {ad hh : Nat → Nat} {aa : Nat → Nat → Nat} {pa : Nat → Nat} {u : FS}
/-- what loads answers, once the text lies there -/
def ldEnd (cr : Int32) (Y : YB) (un : Int32) (u : FS) (n : Nat) (bc : Nat → Nat) : Option (Int32 × FS) :=
  bnd2 (fL_lays Y un u n bc) (fun r1 u1 => if r1 = 0 then some (0, u1) else bnd2 (fX9_load u1) (fun r2 u2 => if r2 = cr then bnd (fX9_lip u2) (fun r3 => if r3 = 0 then bnd2 (fX9_undo u2) (fun r4 u4 => if r4 = -1 then bnd (fL_count 1 u4) (fun r5 => if r5 = cr then some (1, u4) else some (0, u4)) else some (0, u4)) else some (0, u2)) else some (0, u2)))
abbrev LdS : Type := FS × Nat × Nat × Nat × (Nat → Int32) × Nat × Int32
abbrev jMk (cy : Nat → ClassId) (hLn lbn : Nat) (ad hh : Nat → Nat) (aa : Nat → Nat → Nat) (pa : Nat → Nat) (Y : YB) (w : LdS) : va_W := w3 cy hLn lbn ad hh aa pa Y w.2.1 w.1 w.2.2.1 w.2.2.2.1 w.2.2.2.2.1 w.2.2.2.2.2.1 w.2.2.2.2.2.2
def jPost (K : Int32 → FS → Prop) (k1 : Nat) (r : Int32) (w : LdS) : Prop := K r w.1 ∧ w.2.1 = k1 ∧ w.2.2.2.1 ≤ 1100 ∧ w.2.2.2.2.2.1 ≤ w.2.2.2.1 ∧ sb_Fit w.2.2.2.2.1
abbrev jQ (D : va_G) (cy : Nat → ClassId) (hLn lbn : Nat) (ad hh : Nat → Nat) (aa : Nat → Nat → Nat) (pa : Nat → Nat) (Y : YB) (K : Int32 → FS → Prop) (k1 : Nat) (A : Nat → Prop) : Array Value → State → Outcome → State → Prop := va_Qi (jPost K k1) (fun w => kPost D A (jMk cy hLn lbn ad hh aa pa Y w)) A
set_option maxHeartbeats 4000000 in
set_option maxRecDepth 100000 in
theorem tLd_e (hN : Y.2.2.1 < 2147483648) (E : mE D cy RL cL_loads 4 (some .boolean) wsL_loads A p s m args meth c) (hZ : mZ za zv A s s.heap) (hY : mY Y A s s.heap) {K : Int32 → FS → Prop} {cr k cells slots bv bm : Nat} {t : List Nat} {ba : Nat → Int32} {bz : Int32} {H : Heap} {locs : List Loc} {ls : Array Slot} (hB : tB t bm ba) (hc : cells + 2 ≤ 120) (hs9 : slots + 1104 ≤ 132000) (hl : lv_has ls 4 [(2, .int (nI cr)), (0, .ref hLn)])
    (hP : va_P D kCl (w3 cy hLn lbn ad hh aa pa Y k u bv bm ba t.length bz) H) (hD : va_D A (w3 cy hLn lbn ad hh aa pa Y k u bv bm ba t.length bz)) (hS : va_S A s.heap H locs) (h1 : Ok (ldEnd (nI cr) Y (nI k) u t.length (fun i => t.getD i 0)) (fun q => K q.1 q.2)) :
    W p l e rmL_loads s m args below meth c H locs cells slots (MQ below (jQ D cy hLn lbn ad hh aa pa Y K k A) args s 120 132000 A) (F0 m 369 ls []) := by
  obtain ⟨hx, hb, hr, hml, hown, hts, hlocks, hK, hA⟩ := id E
  refine lv_aload_n hx hb dL_loads_369 rfl (lv_at hl 1 rfl) ?_
  refine lv_aload_n hx hb dL_loads_370 rfl (lv_at hl 1 rfl) ?_
  refine k_get (v := .ref lbn) (C := RL) (T := TL) (N := 4) hx hb hts inL_loads_L hown hK hP 0 rfl rfl 3 (by decide) lkL_loads_19 rfl dL_loads_371 ?_
  have hp := k_sel1 (l := [lwW hLn (ad 0) Y.2.1 lbn (nI k), wF cy ad hh aa pa u, wSB cy lbn bv bm ba t.length bz]) (n := 3) 2 [0, 1] rfl rfl (by decide)
  have hP' := kP_app.mp (kP_perm hp hP)
  have hD' := kD_app (kD_perm hp hD)
  refine jr_r (As := [.ref lbn]) (rest := [.ref hLn]) (mk2 := fun (q : Nat × (Nat → Int32)) (hs : Nat) => wST cy hs q.1 t.length q.2 ++ wSB cy lbn bv bm ba t.length bz) (va_runV (b := lbn) (As := []) ⟨hx, hb, hml, hown, hts⟩ (cJ4_toString_0e30dM l D cy za zv Y H.size lbn bv bm ba t.length bz hB.2.1 hB.1 hB.2.2.1) (cwV 0 hts gL_loads_J4_toString_0e30d rfl rfl rfl hdJ4_toString_0e30d ⟨Nat.le_of_ble_eq_true rfl, Nat.le_of_ble_eq_true rfl⟩) (k_preVY hY hZ hS (k_free hp hD hS hA) hK hP'.1 hD'.1 (q0 := 0) (ci := 5) rfl rfl) rfl rfl hl.1 rfl (lv_room (Nat.le_of_ble_eq_true rfl)) dL_loads_374 ⟨by show _ ≤ 120; omega, by show _ ≤ 132000; omega⟩) hp hP hD hS hA (fun q hs H locs hq hP hD hS => ?_)
  replace hP : va_P D kCl (([wST cy hs q.1 t.length q.2, wSB cy lbn bv bm ba t.length bz, lwW hLn (ad 0) Y.2.1 lbn (nI k), wF cy ad hh aa pa u] : List va_W).flatten) H := hP
  replace hD : va_D A (([wST cy hs q.1 t.length q.2, wSB cy lbn bv bm ba t.length bz, lwW hLn (ad 0) Y.2.1 lbn (nI k), wF cy ad hh aa pa u] : List va_W).flatten) := hD
  have hT : ∀ j, j < t.length → q.2 j = sb_b (t.getD j 0) ∧ t.getD j 0 < 256 := fun j hj => ⟨(hq.2 j hj).trans (hB.2.2.2.2 j hj), hB.2.2.2.1 _ (by rw [List.getD_eq_getElem?_getD, List.getElem?_eq_getElem hj]; exact List.getElem_mem hj)⟩
  unfold ldEnd at h1
  refine ky_iV (b := hLn) (As := [.ref hs]) (rest := []) h1 ⟨hx, hb, hml, hown, hts⟩ (cL_laysM l D cy za zv Y hLn lbn ad hh aa pa hs q.1 q.2 H.size (nI k) u t.length (fun i => t.getD i 0) hT) (cwV 1 hts gL_loads_L_lays rfl rfl rfl hdL_lays ⟨Nat.le_of_ble_eq_true rfl, Nat.le_of_ble_eq_true rfl⟩) hY hZ hK (k_seln (l := [wST cy hs q.1 t.length q.2, wSB cy lbn bv bm ba t.length bz, lwW hLn (ad 0) Y.2.1 lbn (nI k), wF cy ad hh aa pa u]) (n := 4) [2, 3, 0] [1] (cs := [lwW hLn (ad 0) Y.2.1 lbn (nI k), wF cy ad hh aa pa u, wST cy hs q.1 t.length q.2]) rfl rfl (by decide)) hP hD hS hA (q0 := 0) rfl rfl rfl hl.1 rfl (Nat.le_of_ble_eq_true rfl) dL_loads_377 ⟨by show _ ≤ 120; omega, by show _ ≤ 132000; omega⟩ (fun r1 u1 H locs h1 hP hD hS => ?_)
  replace hP := kP_perm (List.Perm.symm (k_seln (l := [lwW hLn (ad 0) Y.2.1 lbn (nI k), wF cy ad hh aa pa u1, wST cy hs q.1 t.length q.2, wSB cy lbn bv bm ba t.length bz]) (n := 4) [0, 1, 2] [3] (cs := [lwW hLn (ad 0) Y.2.1 lbn (nI k), wF cy ad hh aa pa u1, wST cy hs q.1 t.length q.2]) rfl rfl (by decide))) hP
  replace hD := kD_perm (List.Perm.symm (k_seln (l := [lwW hLn (ad 0) Y.2.1 lbn (nI k), wF cy ad hh aa pa u1, wST cy hs q.1 t.length q.2, wSB cy lbn bv bm ba t.length bz]) (n := 4) [0, 1, 2] [3] (cs := [lwW hLn (ad 0) Y.2.1 lbn (nI k), wF cy ad hh aa pa u1, wST cy hs q.1 t.length q.2]) rfl rfl (by decide))) hD
  refine lv_if_eq (tgt := 431) hx hb dL_loads_380 (by decide) (fun c9 => ?_) (fun c9 => ?_)
  · replace h1 := Ok.pos c9 h1
    refine lv_iconst (v := 0) hx hb dL_loads_431 rfl ?_
    have hp9 := k_seln (l := [lwW hLn (ad 0) Y.2.1 lbn (nI k), wF cy ad hh aa pa u1, wST cy hs q.1 t.length q.2, wSB cy lbn bv bm ba t.length bz]) (n := 4) [0, 1, 3] [2] (cs := [lwW hLn (ad 0) Y.2.1 lbn (nI k), wF cy ad hh aa pa u1, wSB cy lbn bv bm ba t.length bz]) rfl rfl (by decide)
    refine W.widen (k := 120) (n := 132000) (by omega) (by omega) ?_
    exact W.zret hx hb hr rfl (fun t9 ht hW => ⟨⟨0, (u1, k, bv, bm, ba, t.length, bz), rfl, ⟨h1.ret, rfl, hB.2.1, hB.1, hB.2.2.1⟩, by rw [ht]; exact (kP_app.mp (kP_perm hp9 hP)).1, (kD_app (kD_perm hp9 hD)).1⟩, hS.F ht⟩) hS.2.2 dL_loads_432 hlocks
  · replace h1 := Ok.neg c9 h1
    refine lv_aload_n hx hb dL_loads_383 rfl (lv_at hl 1 rfl) ?_
    refine k_get (v := .ref (ad 0)) (C := RL) (T := TL) (N := 4) hx hb hts inL_loads_L hown hK hP 0 rfl rfl 0 (by decide) lkL_loads_10 rfl dL_loads_384 ?_
    refine kz_iV (b := ad 0) (As := []) (rest := []) h1 ⟨hx, hb, hml, hown, hts⟩ (cX9_loadM l D cy za zv ad hh aa pa H.size u1) (cwV 0 hts gL_loads_X9_load rfl rfl rfl hdX9_load ⟨Nat.le_of_ble_eq_true rfl, Nat.le_of_ble_eq_true rfl⟩) hZ hK (k_sel1 (l := [lwW hLn (ad 0) Y.2.1 lbn (nI k), wF cy ad hh aa pa u1, wST cy hs q.1 t.length q.2, wSB cy lbn bv bm ba t.length bz]) (n := 4) 1 [0, 2, 3] rfl rfl (by decide)) hP hD hS hA (q0 := 0) rfl rfl rfl hl.1 rfl (Nat.le_of_ble_eq_true rfl) dL_loads_387 ⟨by show _ ≤ 120; omega, by show _ ≤ 132000; omega⟩ (fun r2 u2 H locs h1 hP hD hS => ?_)
    replace hP := kP_perm (List.Perm.symm (k_sel1 (l := [lwW hLn (ad 0) Y.2.1 lbn (nI k), wF cy ad hh aa pa u2, wST cy hs q.1 t.length q.2, wSB cy lbn bv bm ba t.length bz]) (n := 4) 1 [0, 2, 3] rfl rfl (by decide))) hP
    replace hD := kD_perm (List.Perm.symm (k_sel1 (l := [lwW hLn (ad 0) Y.2.1 lbn (nI k), wF cy ad hh aa pa u2, wST cy hs q.1 t.length q.2, wSB cy lbn bv bm ba t.length bz]) (n := 4) 1 [0, 2, 3] rfl rfl (by decide))) hD
    refine lv_iload_n hx hb dL_loads_390 rfl (lv_at hl 0 rfl) ?_
    refine lv_icmp_ne (tgt := 431) hx hb dL_loads_391 (by decide) (fun c9 => ?_) (fun c9 => ?_)
    · replace h1 := Ok.neg c9 h1
      refine lv_iconst (v := 0) hx hb dL_loads_431 rfl ?_
      have hp9 := k_seln (l := [lwW hLn (ad 0) Y.2.1 lbn (nI k), wF cy ad hh aa pa u2, wST cy hs q.1 t.length q.2, wSB cy lbn bv bm ba t.length bz]) (n := 4) [0, 1, 3] [2] (cs := [lwW hLn (ad 0) Y.2.1 lbn (nI k), wF cy ad hh aa pa u2, wSB cy lbn bv bm ba t.length bz]) rfl rfl (by decide)
      refine W.widen (k := 120) (n := 132000) (by omega) (by omega) ?_
      exact W.zret hx hb hr rfl (fun t9 ht hW => ⟨⟨0, (u2, k, bv, bm, ba, t.length, bz), rfl, ⟨h1.ret, rfl, hB.2.1, hB.1, hB.2.2.1⟩, by rw [ht]; exact (kP_app.mp (kP_perm hp9 hP)).1, (kD_app (kD_perm hp9 hD)).1⟩, hS.F ht⟩) hS.2.2 dL_loads_432 hlocks
    · replace h1 := Ok.pos c9 h1
      refine lv_aload_n hx hb dL_loads_394 rfl (lv_at hl 1 rfl) ?_
      refine k_get (v := .ref (ad 0)) (C := RL) (T := TL) (N := 4) hx hb hts inL_loads_L hown hK hP 0 rfl rfl 0 (by decide) lkL_loads_10 rfl dL_loads_395 ?_
      refine kc_rV (b := ad 0) (As := []) (rest := []) h1 ⟨hx, hb, hml, hown, hts⟩ (cX9_lipM l D cy ad hh aa pa H.size u2) (cwV 0 hts gL_loads_X9_lip rfl rfl rfl hdX9_lip ⟨Nat.le_of_ble_eq_true rfl, Nat.le_of_ble_eq_true rfl⟩) hK (k_sel1 (l := [lwW hLn (ad 0) Y.2.1 lbn (nI k), wF cy ad hh aa pa u2, wST cy hs q.1 t.length q.2, wSB cy lbn bv bm ba t.length bz]) (n := 4) 1 [0, 2, 3] rfl rfl (by decide)) hP hD hS hA (q0 := 0) rfl rfl rfl hl.1 rfl (Nat.le_of_ble_eq_true rfl) dL_loads_398 ⟨by show _ ≤ 120; omega, by show _ ≤ 132000; omega⟩ (fun r3 H locs h1 hP hS => ?_)
      refine lv_if_ne (tgt := 431) hx hb dL_loads_401 (by decide) (fun c9 => ?_) (fun c9 => ?_)
      · replace h1 := Ok.neg c9 h1
        refine lv_iconst (v := 0) hx hb dL_loads_431 rfl ?_
        have hp9 := k_seln (l := [lwW hLn (ad 0) Y.2.1 lbn (nI k), wF cy ad hh aa pa u2, wST cy hs q.1 t.length q.2, wSB cy lbn bv bm ba t.length bz]) (n := 4) [0, 1, 3] [2] (cs := [lwW hLn (ad 0) Y.2.1 lbn (nI k), wF cy ad hh aa pa u2, wSB cy lbn bv bm ba t.length bz]) rfl rfl (by decide)
        refine W.widen (k := 120) (n := 132000) (by omega) (by omega) ?_
        exact W.zret hx hb hr rfl (fun t9 ht hW => ⟨⟨0, (u2, k, bv, bm, ba, t.length, bz), rfl, ⟨h1.ret, rfl, hB.2.1, hB.1, hB.2.2.1⟩, by rw [ht]; exact (kP_app.mp (kP_perm hp9 hP)).1, (kD_app (kD_perm hp9 hD)).1⟩, hS.F ht⟩) hS.2.2 dL_loads_432 hlocks
      · replace h1 := Ok.pos c9 h1
        refine lv_aload_n hx hb dL_loads_404 rfl (lv_at hl 1 rfl) ?_
        refine k_get (v := .ref (ad 0)) (C := RL) (T := TL) (N := 4) hx hb hts inL_loads_L hown hK hP 0 rfl rfl 0 (by decide) lkL_loads_10 rfl dL_loads_405 ?_
        refine kc_iV (b := ad 0) (As := []) (rest := []) h1 ⟨hx, hb, hml, hown, hts⟩ (cX9_undoM l D cy ad hh aa pa H.size u2) (cwV 0 hts gL_loads_X9_undo rfl rfl rfl hdX9_undo ⟨Nat.le_of_ble_eq_true rfl, Nat.le_of_ble_eq_true rfl⟩) hK (k_sel1 (l := [lwW hLn (ad 0) Y.2.1 lbn (nI k), wF cy ad hh aa pa u2, wST cy hs q.1 t.length q.2, wSB cy lbn bv bm ba t.length bz]) (n := 4) 1 [0, 2, 3] rfl rfl (by decide)) hP hD hS hA (q0 := 0) rfl rfl rfl hl.1 rfl (Nat.le_of_ble_eq_true rfl) dL_loads_408 ⟨by show _ ≤ 120; omega, by show _ ≤ 132000; omega⟩ (fun r4 u4 H locs h1 hP hD hS => ?_)
        replace hP := kP_perm (List.Perm.symm (k_sel1 (l := [lwW hLn (ad 0) Y.2.1 lbn (nI k), wF cy ad hh aa pa u4, wST cy hs q.1 t.length q.2, wSB cy lbn bv bm ba t.length bz]) (n := 4) 1 [0, 2, 3] rfl rfl (by decide))) hP
        replace hD := kD_perm (List.Perm.symm (k_sel1 (l := [lwW hLn (ad 0) Y.2.1 lbn (nI k), wF cy ad hh aa pa u4, wST cy hs q.1 t.length q.2, wSB cy lbn bv bm ba t.length bz]) (n := 4) 1 [0, 2, 3] rfl rfl (by decide))) hD
        refine lv_iconst (v := -1) hx hb dL_loads_411 rfl ?_
        refine lv_icmp_ne (tgt := 431) hx hb dL_loads_412 (by decide) (fun c9 => ?_) (fun c9 => ?_)
        · replace h1 := Ok.neg c9 h1
          refine lv_iconst (v := 0) hx hb dL_loads_431 rfl ?_
          have hp9 := k_seln (l := [lwW hLn (ad 0) Y.2.1 lbn (nI k), wF cy ad hh aa pa u4, wST cy hs q.1 t.length q.2, wSB cy lbn bv bm ba t.length bz]) (n := 4) [0, 1, 3] [2] (cs := [lwW hLn (ad 0) Y.2.1 lbn (nI k), wF cy ad hh aa pa u4, wSB cy lbn bv bm ba t.length bz]) rfl rfl (by decide)
          refine W.widen (k := 120) (n := 132000) (by omega) (by omega) ?_
          exact W.zret hx hb hr rfl (fun t9 ht hW => ⟨⟨0, (u4, k, bv, bm, ba, t.length, bz), rfl, ⟨h1.ret, rfl, hB.2.1, hB.1, hB.2.2.1⟩, by rw [ht]; exact (kP_app.mp (kP_perm hp9 hP)).1, (kD_app (kD_perm hp9 hD)).1⟩, hS.F ht⟩) hS.2.2 dL_loads_432 hlocks
        · replace h1 := Ok.pos c9 h1
          refine lv_aload_n hx hb dL_loads_415 rfl (lv_at hl 1 rfl) ?_
          refine k_get (v := .ref (ad 0)) (C := RL) (T := TL) (N := 4) hx hb hts inL_loads_L hown hK hP 0 rfl rfl 0 (by decide) lkL_loads_10 rfl dL_loads_416 ?_
          refine lv_iconst (v := 1) hx hb dL_loads_419 rfl ?_
          refine kh_rS (As := [.ref (ad 0), .int 1]) (rest := []) h1 ⟨hx, hb, hml, hown, hts⟩ (cL_countM l D cy ad hh aa pa H.size u4 1) (vx_cwSW 2 hts gL_loads_L_count rfl rfl rfl heL_count ⟨Nat.le_of_ble_eq_true rfl, Nat.le_of_ble_eq_true rfl⟩) hK (k_sel1 (l := [lwW hLn (ad 0) Y.2.1 lbn (nI k), wF cy ad hh aa pa u4, wST cy hs q.1 t.length q.2, wSB cy lbn bv bm ba t.length bz]) (n := 4) 1 [0, 2, 3] rfl rfl (by decide)) hP hD hS hA rfl hl.1 rfl (Nat.le_of_ble_eq_true rfl) dL_loads_420 ⟨by show _ ≤ 120; omega, by show _ ≤ 132000; omega⟩ (fun r5 H locs h1 hP hS => ?_)
          refine lv_iload_n hx hb dL_loads_423 rfl (lv_at hl 0 rfl) ?_
          refine lv_icmp_ne (tgt := 431) hx hb dL_loads_424 (by decide) (fun c9 => ?_) (fun c9 => ?_)
          · replace h1 := Ok.neg c9 h1
            refine lv_iconst (v := 0) hx hb dL_loads_431 rfl ?_
            have hp9 := k_seln (l := [lwW hLn (ad 0) Y.2.1 lbn (nI k), wF cy ad hh aa pa u4, wST cy hs q.1 t.length q.2, wSB cy lbn bv bm ba t.length bz]) (n := 4) [0, 1, 3] [2] (cs := [lwW hLn (ad 0) Y.2.1 lbn (nI k), wF cy ad hh aa pa u4, wSB cy lbn bv bm ba t.length bz]) rfl rfl (by decide)
            refine W.widen (k := 120) (n := 132000) (by omega) (by omega) ?_
            exact W.zret hx hb hr rfl (fun t9 ht hW => ⟨⟨0, (u4, k, bv, bm, ba, t.length, bz), rfl, ⟨h1.ret, rfl, hB.2.1, hB.1, hB.2.2.1⟩, by rw [ht]; exact (kP_app.mp (kP_perm hp9 hP)).1, (kD_app (kD_perm hp9 hD)).1⟩, hS.F ht⟩) hS.2.2 dL_loads_432 hlocks
          · replace h1 := Ok.pos c9 h1
            refine lv_iconst (v := 1) hx hb dL_loads_427 rfl ?_
            refine lv_goto (tgt := 432) hx hb dL_loads_428 (by decide) ?_
            have hp9 := k_seln (l := [lwW hLn (ad 0) Y.2.1 lbn (nI k), wF cy ad hh aa pa u4, wST cy hs q.1 t.length q.2, wSB cy lbn bv bm ba t.length bz]) (n := 4) [0, 1, 3] [2] (cs := [lwW hLn (ad 0) Y.2.1 lbn (nI k), wF cy ad hh aa pa u4, wSB cy lbn bv bm ba t.length bz]) rfl rfl (by decide)
            refine W.widen (k := 120) (n := 132000) (by omega) (by omega) ?_
            exact W.zret hx hb hr rfl (fun t9 ht hW => ⟨⟨1, (u4, k, bv, bm, ba, t.length, bz), rfl, ⟨h1.ret, rfl, hB.2.1, hB.1, hB.2.2.1⟩, by rw [ht]; exact (kP_app.mp (kP_perm hp9 hP)).1, (kD_app (kD_perm hp9 hD)).1⟩, hS.F ht⟩) hS.2.2 dL_loads_432 hlocks
/-- the text that loads writes, and how many draws it took -/
def ldT (Y : YB) (k : Nat) : List Nat × Nat := ldC Y (ldN Y k) (ldB Y 4 0 (ldA Y k, k + 14))
def fL_loads (Y : YB) (k : Nat) (u : FS) : Option (Int32 × FS) := ldEnd (nI (ldN Y k)) Y (nI (ldT Y k).2) u (ldT Y k).1.length (fun i => (ldT Y k).1.getD i 0)
end JE
set_option maxHeartbeats 4000000 in
set_option maxRecDepth 100000 in
theorem cL_loadsM (l : Launch) (D : va_G) (cy : Nat → ClassId) (za zv : Nat → Nat) (Y : YB) (hLn lbn : Nat) (ad hh : Nat → Nat) (aa : Nat → Nat → Nat) (pa : Nat → Nat) (sz k : Nat) (u : FS) (bv bm nb : Nat) (ba : Nat → Int32) (bz : Int32) (hN : Y.2.2.1 < 2147483648) (hk : k < 1000000) (hb1 : bm ≤ 1100) (hb2 : nb ≤ bm) (hb3 : sb_Fit ba) : ∀ (K : Int32 → FS → Prop), Ok (fL_loads Y k u) (fun q => K q.1 q.2) → Met l yL_loads wsL_loads rmL_loads (va_Pc [.ref hLn] (kPreY D cy za zv Y sz (w3 cy hLn lbn ad hh aa pa Y k u bv bm ba nb bz))) (jQ D cy hLn lbn ad hh aa pa Y K (ldT Y k).2 (va_A (w3 cy hLn lbn ad hh aa pa Y k u bv bm ba nb bz) sz)) 120 132000 (va_A (w3 cy hLn lbn ad hh aa pa Y k u bv bm ba nb bz) sz) := by
  intro K h1
  refine Met.ofW (cc := cL_loads) (maxL := 4) (ret := (some .boolean)) (by decide) rfl ?_
  intro p e s m args below meth c s₁ B hml hv
  obtain ⟨rfl, ⟨⟨hsz, hP, hK, hD0⟩, hZ⟩, hY⟩ := hv
  subst hsz
  have E : mE D cy RL cL_loads 4 (some .boolean) wsL_loads (va_A (w3 cy hLn lbn ad hh aa pa Y k u bv bm ba nb bz) s.heap.size) p s m _ meth c := ⟨B.exec, B.bytes, B.returns, hml, findClass_of_methodNamed B.named, atoms_spec (ws := wsL_loads) B.pre, B.notSynchronized, hK, fun q h => Or.inr h⟩
  have hl := lv_entry ([.ref hLn]) (n := 4) (Nat.le_of_ble_eq_true rfl)
  rw [lg_entry_eq]
  generalize (lg_sl ([.ref hLn]) ++ List.replicate (4 - (lg_sl ([.ref hLn])).length) Slot.unset).toArray = ls at hl ⊢
  refine tLd_a hN E hZ hY hk hb1 hb2 hb3 (by omega) (by omega) hl hP hD0.self va_S.rf (fun bv bm ba bz H locs ls hcr hl hB hL hP hD hS => ?_)
  refine tLd_b hN E hZ hY (ldN Y k) bz 4 0 (k + 14) 109 28 30800 bv bm (ldA Y k) ba H locs ls rfl (by omega) hB hL (by omega) (by omega) (by omega) hl hP hD hS (fun bv bm ba H locs ls hl hB hL hk9 hP hD hS => ?_)
  obtain ⟨hx, hb, hr, hml2, hown, hts, hlocks, hK2, hA⟩ := id E
  refine lv_iconst (v := 0) hx hb dL_loads_317 rfl ?_
  refine lv_istore_n (lv' := [(3, .int 0), (2, .int (nI (ldN Y k))), (0, .ref hLn)]) hx hb dL_loads_318 rfl hl (by decide) rfl (fun ls hl => ?_)
  refine tLd_c hN E hZ hY (ldN Y k) hcr bz (ldN Y k) 0 (ldB Y 4 0 (ldA Y k, k + 14)).2 (109 + 21 * 4) _ _ bv bm (ldB Y 4 0 (ldA Y k, k + 14)).1 ba H locs ls (Nat.zero_add _) (by omega) hB hL (by omega) (by omega) (by omega) hl hP hD hS (fun bv bm ba H locs ls hl hB hL hP hD hS => ?_)
  exact tLd_e hN E hZ hY hB (by omega) (by omega) hl hP hD hS h1
