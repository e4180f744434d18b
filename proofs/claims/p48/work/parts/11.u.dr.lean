/-! drawing: what the law's draws are; texts in a StringBuilder -/
theorem dr_at {x : Int32} {Y : YB} (h0 : 0 ≤ x.toInt) (h1 : x.toInt < (if 1 < Y.2.2.1 then (Y.2.2.1 : Int) else 1)) (hN : Y.2.2.1 < 2147483648) : ∃ v, fL_at x Y = some v := by
  have hb : ∀ s, ∃ v, fL_at_b13 x s Y = some v := by
    intro s
    unfold fL_at_b13
    split
    · exact ⟨_, rfl⟩
    · split <;> exact ⟨_, rfl⟩
  unfold fL_at fL_at_b0
  split
  · exact hb 0
  · rename_i h
    rw [qa_le, qa_nI hN] at h
    rw [qa_gi h0 (by omega)]
    exact hb _
theorem dr_and (a : Int32) : 0 ≤ (a &&& 2147483647).toInt := by
  have h : (a &&& 2147483647).toBitVec.msb = false := by
    rw [Int32.toBitVec_and, BitVec.msb_and, show ((2147483647 : Int32).toBitVec).msb = false by decide, Bool.and_false]
  show 0 ≤ (a &&& 2147483647).toBitVec.toInt
  rw [BitVec.toInt_eq_toNat_of_msb h]
  omega
theorem dr_ex (Y : YB) (hN : Y.2.2.1 < 2147483648) (k n : Nat) (hk : k < 2147483647) (hn : 0 < n) (hn2 : n < 2147483648) : ∃ v : Int32, (∀ u, fL_draw (nI n) Y (nI k) u = some (v, nI (k + 1))) ∧ 0 ≤ v.toInt ∧ v.toInt < n := by
  have hM : (if 1 < nI Y.2.2.1 then nI Y.2.2.1 else 1).toInt = (if 1 < Y.2.2.1 then (Y.2.2.1 : Int) else 1) := by
    by_cases h : 1 < Y.2.2.1
    · rw [if_pos h, if_pos (by rw [qa_lt, qa_nI hN, qa_1]; omega), qa_nI hN]
    · rw [if_neg h, if_neg (by rw [qa_lt, qa_nI hN, qa_1]; omega), qa_1]
  have hM0 : 0 < (if 1 < nI Y.2.2.1 then nI Y.2.2.1 else 1).toInt := by
    rw [hM]
    split <;> omega
  have hkk : (nI k).toInt = (k : Int) := qa_nI (by omega)
  have hr := qa_remb (x := nI k) (y := if 1 < nI Y.2.2.1 then nI Y.2.2.1 else 1) (by rw [hkk]; omega) hM0
  rw [hM] at hr
  have hr2 := hr.2
  obtain ⟨v, hv⟩ := dr_at hr.1 hr2 hN
  have z1 : ¬ (if 1 < nI Y.2.2.1 then nI Y.2.2.1 else 1) = 0 := fun e => by rw [e, qa_0] at hM0; omega
  have hnn : (nI n).toInt = (n : Int) := qa_nI hn2
  have z2 : ¬ nI n = 0 := fun e => by rw [e, qa_0] at hnn; omega
  have hd : ∀ u, ∃ E : Int32, fL_draw (nI n) Y (nI k) u = some ((E &&& 2147483647) - (E &&& 2147483647) / nI n * nI n, nI (k + 1)) ∧ ∀ u', fL_draw (nI n) Y (nI k) u' = fL_draw (nI n) Y (nI k) u := by
    intro u
    refine ⟨?E, ?a, fun u' => rfl⟩
    case a =>
      unfold fL_draw fL_draw_b0
      simp only [lwN, lwNs]
      rw [qa_gn z1, hv, qa_b, qa_gn z2, nI_1]
  obtain ⟨E, h1, h2⟩ := hd FS0
  refine ⟨_, fun u => (h2 u).trans h1, ?_⟩
  · have hb := qa_remb (x := E &&& 2147483647) (dr_and _) (y := nI n) (by rw [hnn]; omega)
    rw [hnn] at hb
    exact hb
def drN (Y : YB) (k n : Nat) : Nat := ix ((fL_draw (nI n) Y (nI k) FS0).getD (0, 0)).1
theorem dr_val {Y : YB} (hN : Y.2.2.1 < 2147483648) {k n : Nat} (hk : k < 2147483647) (hn : 0 < n) (hn2 : n < 2147483648) (u : FS) : fL_draw (nI n) Y (nI k) u = some (nI (drN Y k n), nI (k + 1)) ∧ drN Y k n < n := by
  obtain ⟨v, h1, h2, h3⟩ := dr_ex Y hN k n hk hn hn2
  have e : drN Y k n = ix v := by
    unfold drN
    rw [h1]
    rfl
  have e3 : v.toInt = (ix v : Int) := qa_ixI h2
  rw [e, h1, qa_nIx h2]
  exact ⟨rfl, by omega⟩
/-- a builder's bytes: the text t -/
def tB (t : List Nat) (m : Nat) (a : Nat → Int32) : Prop := t.length ≤ m ∧ m ≤ 1100 ∧ sb_Fit a ∧ (∀ x ∈ t, x < 256) ∧ ∀ i, i < t.length → a i = sb_b (t.getD i 0)
theorem tB.app {t s : List Nat} {m : Nat} {a : Nat → Int32} {w : Nat × Nat × (Nat → Int32)} (h : tB t m a) (hs : ∀ x ∈ s, x < 256) (g : jApp a t.length s.length (fun i => s.getD i 0) w) : tB (t ++ s) w.2.1 w.2.2 := by
  obtain ⟨g1, g2, g3, g4, g5⟩ := g
  refine ⟨by rw [List.length_append]; exact g1, g2, g3, fun x hx => ?_, fun i hi => ?_⟩
  · rcases List.mem_append.mp hx with q | q
    · exact h.2.2.2.1 x q
    · exact hs x q
  · rw [List.length_append] at hi
    by_cases c : i < t.length
    · rw [g4 i c, h.2.2.2.2 i c, List.getD_eq_getElem?_getD, List.getD_eq_getElem?_getD, List.getElem?_append_left c]
    · have e := g5 (i - t.length) (by omega)
      rw [show t.length + (i - t.length) = i by omega] at e
      rw [e]
      show sb_b (s.getD (i - t.length) 0) = _
      rw [List.getD_eq_getElem?_getD, List.getD_eq_getElem?_getD, List.getElem?_append_right (by omega)]
theorem tB.nil {m : Nat} {a : Nat → Int32} (hm : m ≤ 1100) (hf : sb_Fit a) : tB [] m a := ⟨Nat.zero_le _, hm, hf, fun x hx => (List.not_mem_nil hx).elim, fun i hi => absurd hi (Nat.not_lt_zero i)⟩
theorem zL_lt : ∀ w, w < 39 → ∀ x ∈ zL w, x < 256 := by decide +kernel
theorem decL_lt {x : Nat} (h : x < 1000) : ∀ y ∈ decL x, y < 256 := by
  intro y hy
  unfold decL at hy
  split at hy
  · rw [List.mem_singleton] at hy
    omega
  · split at hy
    · simp only [List.mem_cons, List.not_mem_nil, or_false] at hy
      omega
    · simp only [List.mem_cons, List.not_mem_nil, or_false] at hy
      omega
theorem decL_le (x : Nat) : (decL x).length ≤ 3 := by
  unfold decL
  split
  · exact Nat.le_of_ble_eq_true rfl
  · split
    · exact Nat.le_of_ble_eq_true rfl
    · exact Nat.le_of_ble_eq_true rfl
theorem chr_lt {x : Nat} (h : x < 256) : ∀ y ∈ [x], y < 256 := by
  intro y hy
  rw [List.mem_singleton] at hy
  omega
theorem jApp_chr {a : Nat → Int32} {n x : Nat} {q : Nat × Nat × (Nat → Int32)} (h : jApp a n 1 (fun _ => x) q) : jApp a n ([x].length) (fun i => [x].getD i 0) q := by
  refine ⟨h.1, h.2.1, h.2.2.1, h.2.2.2.1, fun i hi => ?_⟩
  have hi : i < 1 := hi
  obtain rfl : i = 0 := by omega
  exact h.2.2.2.2 0 hi
/-- the law's whole world: its object, the class's, its builder -/
abbrev w3 (cy : Nat → ClassId) (hLn lbn : Nat) (ad hh : Nat → Nat) (aa : Nat → Nat → Nat) (pa : Nat → Nat) (Y : YB) (k : Nat) (u : FS) (bv bm : Nat) (ba : Nat → Int32) (n : Nat) (bz : Int32) : va_W :=
  ([lwW hLn (ad 0) Y.2.1 lbn (nI k), wF cy ad hh aa pa u, wSB cy lbn bv bm ba n bz] : List va_W).flatten
section JD
variable {p : Program} {l : Launch} {e : Env} {R : Room} {s : State} {m : MethodId} {args : Array Value} {below : List Frame} {meth : Method} {c : Code} {H : Heap} {locs : List Loc} {cells slots : Nat} {Q : State → Prop}
variable {Ts wy : List Cond} {cc bytes : ByteArray} {nL maxL index n pc : Nat} {own : String} {y : MethodName} {ret : Option FieldType} {rm : Room} {As rest st : List Value} {ls : Array Slot}
variable {D : va_G} {cy : Nat → ClassId} {A : Nat → Prop} {za zv : Nat → Nat} {Y : YB} {hLn lbn : Nat} {ad hh : Nat → Nat} {aa : Nat → Nat → Nat} {pa : Nat → Nat} {u : FS} {bv bm : Nat} {ba : Nat → Int32} {bz : Int32}
theorem jd_app {k b9 c9 : Nat} {s9 t : List Nat} {post : Nat × Nat × (Nat → Int32) → Prop} {n1 : Nat} (CF : CallFix p m c cc nL s args Ts own)
    (hM : Met l y wy rm (va_Pc (.ref lbn :: As) (kPreY D cy za zv Y H.size (wSB cy lbn bv bm ba t.length bz))) (va_Qr post (fun q ra t9 => ra = lbn ∧ kPost D (va_A (wSB cy lbn bv bm ba t.length bz) H.size) (wSB cy lbn q.1 q.2.1 q.2.2 n1 bz) t9) (va_A (wSB cy lbn bv bm ba t.length bz) H.size)) 1 1100 (va_A (wSB cy lbn bv bm ba t.length bz) H.size))
    (cw : CallW R s args own RJ4 index y bytes maxL ret wy rm 1 1100 n) (hY : mY Y A s s.heap) (hZ : mZ za zv A s s.heap) (hK : mK D cy s) (hB : tB t bm ba) (hb9 : t.length ≤ b9) (hc9 : s9.length ≤ c9) (hn1 : n1 = (t ++ s9).length) (hs : ∀ x ∈ s9, x < 256) (hpost : ∀ q, post q → jApp ba t.length s9.length (fun i => s9.getD i 0) q)
    (hP : va_P D kCl (w3 cy hLn lbn ad hh aa pa Y k u bv bm ba t.length bz) H) (hD : va_D A (w3 cy hLn lbn ad hh aa pa Y k u bv bm ba t.length bz)) (hS : va_S A s.heap H locs) (hA : ∀ q, s.heap.size ≤ q → A q)
    (hn : As.length = n) (hl : ls.size = nL) (hst : st = As.reverse ++ .ref lbn :: rest) (hw : (rest.map fun v => v.category).sum ≤ 8) (hdg : decode cc pc = .ok (.invokevirtual index, 3)) (hf : cells + 1 ≤ R.cells ∧ slots + 1100 ≤ R.slots)
    (kk : ∀ (t9 : List Nat) (bv bm : Nat) (ba : Nat → Int32) (H1 : Heap) (locs1 : List Loc), t9 = t ++ s9 → tB t9 bm ba → t9.length ≤ b9 + c9 → va_P D kCl (w3 cy hLn lbn ad hh aa pa Y k u bv bm ba t9.length bz) H1 → va_D A (w3 cy hLn lbn ad hh aa pa Y k u bv bm ba t9.length bz) → va_S A s.heap H1 locs1 → W p l e R s m args below meth c H1 locs1 (cells + 1) (slots + 1100) Q (F0 m (pc + 3) ls (.ref lbn :: rest))) :
    W p l e R s m args below meth c H locs cells slots Q (F0 m pc ls st) := by
  have hp := k_sel1 (l := [lwW hLn (ad 0) Y.2.1 lbn (nI k), wF cy ad hh aa pa u, wSB cy lbn bv bm ba t.length bz]) (n := 3) 2 [0, 1] rfl rfl (by decide)
  have hP' := kP_app.mp (kP_perm hp hP)
  have hD' := kD_app (kD_perm hp hD)
  subst hn1
  refine jr_t (b := lbn) (As := .ref lbn :: As) (post := post) (mk := fun q => wSB cy lbn q.1 q.2.1 q.2.2 (t ++ s9).length bz) (va_runV CF hM cw (k_preVY hY hZ hS (k_free hp hD hS hA) hK hP'.1 hD'.1 (q0 := 0) (ci := 5) rfl rfl) rfl hn hl hst (lv_room hw) hdg hf) hp hP hD hS hA (fun q H1 locs1 hq hP1 hD1 hS1 => ?_)
  have hp2 := (k_sel1 (l := [lwW hLn (ad 0) Y.2.1 lbn (nI k), wF cy ad hh aa pa u, wSB cy lbn q.1 q.2.1 q.2.2 (t ++ s9).length bz]) (n := 3) 2 [0, 1] rfl rfl (by decide)).symm
  exact kk (t ++ s9) _ _ _ H1 locs1 rfl (hB.app hs (hpost q hq)) (by rw [List.length_append]; omega) (kP_perm hp2 hP1) (kD_perm hp2 hD1) hS1
theorem jd_dr {k n9 : Nat} (hN : Y.2.2.1 < 2147483648) (hk : k < 2147483647) (hn0 : 0 < n9) (hn2 : n9 < 2147483648) (CF : CallFix p m c cc nL s args Ts own)
    (cw : CallW R s args own RL index yL_draw bytes maxL ret wsL_draw rmL_draw 0 0 1) (hY : mY Y A s s.heap) (hZ : mZ za zv A s s.heap) (hK : mK D cy s) {nb : Nat}
    (hP : va_P D kCl (w3 cy hLn lbn ad hh aa pa Y k u bv bm ba nb bz) H) (hD : va_D A (w3 cy hLn lbn ad hh aa pa Y k u bv bm ba nb bz)) (hS : va_S A s.heap H locs) (hA : ∀ q, s.heap.size ≤ q → A q)
    (hl : ls.size = nL) (hst : st = .int (nI n9) :: .ref hLn :: rest) (hw : (rest.map fun v => v.category).sum ≤ 8) (hdg : decode cc pc = .ok (.invokevirtual index, 3)) (hf : cells ≤ R.cells ∧ slots ≤ R.slots)
    (kk : ∀ (H1 : Heap) (locs1 : List Loc), drN Y k n9 < n9 → va_P D kCl (w3 cy hLn lbn ad hh aa pa Y (k + 1) u bv bm ba nb bz) H1 → va_D A (w3 cy hLn lbn ad hh aa pa Y (k + 1) u bv bm ba nb bz) → va_S A s.heap H1 locs1 → W p l e R s m args below meth c H1 locs1 cells slots Q (F0 m (pc + 3) ls (.int (nI (drN Y k n9)) :: rest))) :
    W p l e R s m args below meth c H locs cells slots Q (F0 m pc ls st) := by
  have hp := k_seln (l := [lwW hLn (ad 0) Y.2.1 lbn (nI k), wF cy ad hh aa pa u, wSB cy lbn bv bm ba nb bz]) (n := 3) [0, 1] [2] (cs := [lwW hLn (ad 0) Y.2.1 lbn (nI k), wF cy ad hh aa pa u]) rfl rfl (by decide)
  have hP' := kP_app.mp (kP_perm hp hP)
  have hD' := kD_app (kD_perm hp hD)
  obtain ⟨hv, hlt⟩ := dr_val (Y := Y) hN hk hn0 hn2 u
  refine jr_i (As := [.ref hLn, .int (nI n9)]) (mc := 0) (ms := 0) (va_runV (b := hLn) (As := [.int (nI n9)]) CF (cL_drawM l D cy za zv Y hLn lbn ad hh aa pa H.size (nI k) u (nI n9) (fun r q => r = nI (drN Y k n9) ∧ q = nI (k + 1)) ⟨_, hv, rfl, rfl⟩) cw (k_preVY hY hZ hS (k_free hp hD hS hA) hK hP'.1 hD'.1 (q0 := 0) (ci := 4) rfl rfl) rfl rfl hl hst (lv_room hw) hdg hf) hp hP hD hS hA (fun r q H1 locs1 hq hP1 hD1 hS1 => ?_)
  obtain ⟨rfl, rfl⟩ := hq
  have hp2 := (k_seln (l := [lwW hLn (ad 0) Y.2.1 lbn (nI (k + 1)), wF cy ad hh aa pa u, wSB cy lbn bv bm ba nb bz]) (n := 3) [0, 1] [2] (cs := [lwW hLn (ad 0) Y.2.1 lbn (nI (k + 1)), wF cy ad hh aa pa u]) rfl rfl (by decide)).symm
  exact kk H1 locs1 hlt (kP_perm hp2 hP1) (kD_perm hp2 hD1) hS1
end JD
