/-! laying a text -/
theorem by_x {W k : Nat} (hW : W < 4294967296) {s : UInt32} (hs : s.toNat % 32 = k) : ((nI W).toUInt32 >>> s).toInt32 &&& 255 = nI (W / 2 ^ k % 256) := by
  have e0 : (nI W).toUInt32.toNat = W := by
    show (BitVec.ofNat 32 W).toNat = W
    rw [BitVec.toNat_ofNat]
    exact Nat.mod_eq_of_lt hW
  have e1 : ((nI W).toUInt32 >>> s).toNat = W / 2 ^ k := by
    rw [UInt32.toNat_shiftRight, hs, Nat.shiftRight_eq_div_pow, e0]
  apply Int32.toBitVec_inj.mp
  apply BitVec.eq_of_toNat_eq
  have e2 : (((nI W).toUInt32 >>> s).toInt32 &&& 255).toBitVec.toNat = (W / 2 ^ k) &&& 255 := by
    show (((nI W).toUInt32 >>> s).toBitVec &&& 255#32).toNat = _
    rw [BitVec.toNat_and]
    show ((nI W).toUInt32 >>> s).toNat &&& _ = _
    rw [e1]
    rfl
  rw [e2]
  show _ = (BitVec.ofNat 32 (W / 2 ^ k % 256)).toNat
  rw [BitVec.toNat_ofNat, Nat.mod_eq_of_lt (by omega : W / 2 ^ k % 256 < 2 ^ 32), show (255 : Nat) = 2 ^ 8 - 1 from rfl, Nat.and_two_pow_sub_one_eq_mod]
theorem or_x {v x : Nat} (hv : v < 16777216) (hx : x < 256) : (nI v <<< ((8 : Int32) &&& 31)) ||| nI x = nI (v * 256 + x) := by
  rw [show ((8 : Int32) &&& 31) = 8 by decide]
  apply Int32.toBitVec_inj.mp
  apply BitVec.eq_of_toNat_eq
  have e1 : (nI v <<< (8 : Int32)).toBitVec.toNat = v <<< 8 := by
    rw [Int32.toBitVec_shiftLeft, show ((8 : Int32).toBitVec.smod 32) = 8#32 by decide, BitVec.shiftLeft_eq', BitVec.toNat_shiftLeft]
    show (BitVec.ofNat 32 v).toNat <<< 8 % 2 ^ 32 = _
    rw [BitVec.toNat_ofNat, Nat.mod_eq_of_lt (by omega : v < 2 ^ 32), Nat.shiftLeft_eq, Nat.mod_eq_of_lt (by omega : v * 2 ^ 8 < 2 ^ 32)]
  rw [Int32.toBitVec_or, BitVec.toNat_or, e1]
  show v <<< 8 ||| (BitVec.ofNat 32 x).toNat = (BitVec.ofNat 32 (v * 256 + x)).toNat
  rw [BitVec.toNat_ofNat, BitVec.toNat_ofNat, Nat.mod_eq_of_lt (by omega : x < 2 ^ 32), Nat.mod_eq_of_lt (by omega : v * 256 + x < 2 ^ 32), ← Nat.shiftLeft_add_eq_or_of_lt (by omega : x < 2 ^ 8), Nat.shiftLeft_eq]
theorem an_x {x : Nat} (hx : x < 256) : nI x &&& 255 = nI x := by
  have h : ∀ x : Fin 256, nI x.val &&& 255 = nI x.val := by decide +kernel
  exact h ⟨x, hx⟩
/-- a byte, added -/
def aB (p : PS) (n c : Nat) : PS := tLe (tBy p n (nI c)) (nI (n + 1))
theorem ab_u {p : PS} {n : Nat} (hn : n < 500) (hp : pLe p = nI n) (c : Nat) : fX6_addByte (nI c) p = some (aB p n c) := by
  have hI := qa_nI (n := n) (by omega)
  have t5 : (500 : Int32).toInt = 500 := by decide
  have e1 : pLe (tBy p (ix (pLe p)) (nI c)) = nI n := hp
  unfold fX6_addByte fX6_addByte_b0
  rw [e1, hp, if_neg (by rw [qa_lt, qa_0]; omega), if_neg (by rw [qa_le, t5]; omega), qa_gi (by omega) (by omega), qa_ix hI, nI_1]
  rfl
/-- four bytes, added -/
def a4 (p : PS) (n c0 c1 c2 c3 : Nat) : PS := aB (aB (aB (aB p n c0) (n + 1) c1) (n + 2) c2) (n + 3) c3
theorem ap_s (K : Int32 × Int32 × FS → Option (Int32 × FS)) {W k c n : Nat} {x : Int32} {u : FS} {p : PS} (hW : W < 4294967296) (hx : ¬ x < 0) (hk : (x.toUInt32 &&& Int32.toUInt32 31).toNat % 32 = k) (hc : W / 2 ^ k % 256 = c) (hn : n < 500) (hp : pLe p = nI n) :
    hX9_appendText_b28 K (nI W) x (gP u p) = K (nI W, x + (-8), gP u (aB p n c)) := by
  unfold hX9_appendText_b28
  rw [if_neg hx, by_x hW hk, hc, show fP (gP u p) = p from rfl, ab_u hn hp, qa_b]
  rfl
theorem ap_e (K : Int32 × Int32 × FS → Option (Int32 × FS)) {W : Nat} {x : Int32} (hx : x < 0) {u : FS} : hX9_appendText_b28 K (nI W) x u = some (pLe (fP u), u) := by
  unfold hX9_appendText_b28
  rw [if_pos hx]
theorem ap_u {u : FS} {p : PS} {n c0 c1 c2 c3 : Nat} (hn : n + 4 ≤ 500) (hp : pLe p = nI n) (h0 : c0 < 256) (h1 : c1 < 256) (h2 : c2 < 256) (h3 : c3 < 256) : fL_appendText (nI (((c0 * 256 + c1) * 256 + c2) * 256 + c3)) (gP u p) = some (nI (n + 4), gP u (a4 p n c0 c1 c2 c3)) := by
  have t5 : (500 : Int32).toInt = 500 := by decide
  have hI := qa_nI (n := n + 4) (by omega)
  have p24 : (2 : Nat) ^ 24 = 16777216 := rfl
  have p16 : (2 : Nat) ^ 16 = 65536 := rfl
  have p8 : (2 : Nat) ^ 8 = 256 := rfl
  have p0 : (2 : Nat) ^ 0 = 1 := rfl
  have hW : ((c0 * 256 + c1) * 256 + c2) * 256 + c3 < 4294967296 := by omega
  have f3 : (((c0 * 256 + c1) * 256 + c2) * 256 + c3) / 2 ^ 24 % 256 = c0 := by rw [p24]; omega
  have f2 : (((c0 * 256 + c1) * 256 + c2) * 256 + c3) / 2 ^ 16 % 256 = c1 := by rw [p16]; omega
  have f1 : (((c0 * 256 + c1) * 256 + c2) * 256 + c3) / 2 ^ 8 % 256 = c2 := by rw [p8]; omega
  have f0 : (((c0 * 256 + c1) * 256 + c2) * 256 + c3) / 2 ^ 0 % 256 = c3 := by rw [p0]; omega
  generalize ((c0 * 256 + c1) * 256 + c2) * 256 + c3 = W at hW f3 f2 f1 f0 ⊢
  unfold fL_appendText hX9_appendText hX9_appendText_b0
  rw [show fP (gP u p) = p from rfl, hp, show (4 : Int32) = nI 4 from rfl, nI_add, if_pos (by rw [qa_le, t5]; omega), show LF = 4999 + 1 from rfl, lop]
  show hX9_appendText_b28 _ (nI W) (24) (gP u p) = _
  rw [ap_s (x := 24) (n := n) (k := 24) (c := c0) _ hW (by decide) (by decide) f3 (by omega) hp, show 4999 = 4998 + 1 from rfl, lop]
  show hX9_appendText_b28 _ (nI W) (24 + (-8)) (gP u (aB p n c0)) = _
  rw [ap_s (x := 24 + (-8)) (n := n + 1) (k := 16) (c := c1) _ hW (by decide) (by decide) f2 (by omega) rfl, show 4998 = 4997 + 1 from rfl, lop]
  show hX9_appendText_b28 _ (nI W) (24 + (-8) + (-8)) (gP u (aB (aB p n c0) (n + 1) c1)) = _
  rw [ap_s (x := 24 + (-8) + (-8)) (n := n + 2) (k := 8) (c := c2) _ hW (by decide) (by decide) f1 (by omega) rfl, show 4997 = 4996 + 1 from rfl, lop]
  show hX9_appendText_b28 _ (nI W) (24 + (-8) + (-8) + (-8)) (gP u (aB (aB (aB p n c0) (n + 1) c1) (n + 2) c2)) = _
  rw [ap_s (x := 24 + (-8) + (-8) + (-8)) (n := n + 3) (k := 0) (c := c3) _ hW (by decide) (by decide) f0 (by omega) rfl, show 4996 = 4995 + 1 from rfl, lop]
  show hX9_appendText_b28 _ (nI W) (24 + (-8) + (-8) + (-8) + (-8)) (gP u (aB (aB (aB (aB p n c0) (n + 1) c1) (n + 2) c2) (n + 3) c3)) = _
  rw [ap_e (x := 24 + (-8) + (-8) + (-8) + (-8)) _ (by decide)]
  rfl
theorem aB_b (p : PS) (n c j : Nat) : pBy (aB p n c) j = if j = n then nI c else pBy p j := rfl
theorem a4_b {p : PS} {n c0 c1 c2 c3 j : Nat} : pBy (a4 p n c0 c1 c2 c3) j = if j = n + 3 then nI c3 else if j = n + 2 then nI c2 else if j = n + 1 then nI c1 else if j = n then nI c0 else pBy p j := by
  unfold a4
  rw [aB_b, aB_b, aB_b, aB_b]
/-- four bytes as one number -/
def wJ (T : List Nat) (b : Nat) : Nat → Nat
  | 0 => 0
  | j + 1 => wJ T b j * 256 + T.getD (b + j) 0
theorem wJ_b {T : List Nat} (h : ∀ j, T.getD j 0 < 256) (b : Nat) : wJ T b 1 < 256 ∧ wJ T b 2 < 65536 ∧ wJ T b 3 < 16777216 := by
  have h0 := h (b + 0)
  have h1 := h (b + 1)
  have h2 := h (b + 2)
  have e1 : wJ T b 1 = 0 * 256 + T.getD (b + 0) 0 := rfl
  have e2 : wJ T b 2 = wJ T b 1 * 256 + T.getD (b + 1) 0 := rfl
  have e3 : wJ T b 3 = wJ T b 2 * 256 + T.getD (b + 2) 0 := rfl
  omega
theorem gd_0 : ∀ (T : List Nat) {j : Nat}, T.length ≤ j → T.getD j 0 = 0
  | [], j, _ => rfl
  | a :: T, 0, h => absurd h (by show ¬ T.length + 1 ≤ 0; omega)
  | a :: T, j + 1, h => gd_0 T (by have : T.length + 1 ≤ j + 1 := h; omega)
theorem ly_b {T : List Nat} (Y : YB) (un : Int32) (u : FS) (hn : T.length ≤ 500) (h : ∀ j, T.getD j 0 < 256) {b j : Nat} (hb : b ≤ 500) (hj : j < 4) (k15 : Int32 × FS → Option (Int32 × FS)) (k28 : Int32 × Int32 × Int32 × FS → Option (Int32 × FS)) :
    fL_lays_b28 k15 k28 (nI b) (nI (wJ T b j)) (nI j) Y un u T.length (fun i => T.getD i 0) = k28 (nI b, nI (wJ T b (j + 1)), nI (j + 1), u) := by
  have hI := qa_nI (n := b + j) (by omega)
  have hL := qa_nI (n := T.length) (by omega)
  obtain ⟨w1, w2, w3⟩ := wJ_b h b
  have hw : wJ T b j < 16777216 := by
    have : j = 0 ∨ j = 1 ∨ j = 2 ∨ j = 3 := by omega
    rcases this with e | e | e | e <;> subst e
    · show 0 < _
      omega
    · omega
    · omega
    · omega
  have hx := h (b + j)
  have eL : fJ0_lenP Y T.length (fun i => T.getD i 0) = some (nI T.length) := if_pos (by omega)
  have eC : b + j < T.length → fJ0_chP (nI (b + j)) Y T.length (fun i => T.getD i 0) = some (nI (T.getD (b + j) 0)) := by
    intro q
    unfold fJ0_chP
    rw [if_pos (by omega), qa_gi (by omega) (by omega), qa_ix hI]
  unfold fL_lays_b28 fL_lays_b65
  rw [if_neg (by rw [qa_le, qa_4, qa_nI (by omega)]; omega), eL, qa_b, nI_add]
  by_cases q : T.length ≤ b + j
  · rw [if_pos (by rw [qa_le]; omega), show (0 : Int32) = nI (T.getD (b + j) 0) by rw [gd_0 T q]; rfl, or_x hw hx, nI_1]
    rfl
  · rw [if_neg (by rw [qa_le]; omega), eC (by omega), qa_b, an_x hx, or_x hw hx, nI_1]
    rfl
theorem ly_w {T : List Nat} (Y : YB) (un : Int32) (u : FS) (hn : T.length ≤ 500) (h : ∀ j, T.getD j 0 < 256) {b : Nat} (hb : b ≤ 500) (k15 : Int32 × FS → Option (Int32 × FS)) :
    lop (fun y (z : Int32 × Int32 × Int32 × FS) => fL_lays_b28 k15 y z.1 z.2.1 z.2.2.1 Y un z.2.2.2 T.length (fun i => T.getD i 0)) LF (nI b, 0, 0, u) = bnd2 (fL_appendText (nI (wJ T b 4)) u) (fun r78 u78 => (if r78 = (nI b + 4) then k15 (nI b + 4, u78) else some (0, u78))) := by
  refine qa_lop0 (fun j => (nI b, nI (wJ T b j), nI j, u)) 4 (by omega) (fun j hj k => ?_) (fun k => ?_)
  · exact ly_b Y un u hn h hb hj k15 k
  · show fL_lays_b28 k15 k (nI b) (nI (wJ T b 4)) (nI 4) Y un u T.length (fun i => T.getD i 0) = _
    unfold fL_lays_b28
    rw [if_pos (by decide)]
theorem ly_15 {T : List Nat} (Y : YB) (un : Int32) (u : FS) (hn : T.length ≤ 500) (h : ∀ j, T.getD j 0 < 256) {b : Nat} (hb : b < T.length) (h4 : b + 4 ≤ 500) {p : PS} (hp : pLe p = nI b) (k15 : Int32 × FS → Option (Int32 × FS)) :
    fL_lays_b15 k15 (nI b) Y un (gP u p) T.length (fun i => T.getD i 0) = k15 (nI (b + 4), gP u (a4 p b (T.getD b 0) (T.getD (b + 1) 0) (T.getD (b + 2) 0) (T.getD (b + 3) 0))) := by
  have hL := qa_nI (n := T.length) (by omega)
  have hB := qa_nI (n := b) (by omega)
  have eL : fJ0_lenP Y T.length (fun i => T.getD i 0) = some (nI T.length) := if_pos (by omega)
  have eW : wJ T b 4 = ((T.getD b 0 * 256 + T.getD (b + 1) 0) * 256 + T.getD (b + 2) 0) * 256 + T.getD (b + 3) 0 := by
    show (((0 * 256 + T.getD (b + 0) 0) * 256 + T.getD (b + 1) 0) * 256 + T.getD (b + 2) 0) * 256 + T.getD (b + 3) 0 = _
    rw [Nat.zero_mul, Nat.zero_add, Nat.add_zero]
  have e4 : nI b + 4 = nI (b + 4) := nI_add b 4
  unfold fL_lays_b15
  rw [eL, qa_b, if_neg (by rw [qa_le]; omega), ly_w Y un (gP u p) hn h (by omega) k15, eW, ap_u h4 hp (h _) (h _) (h _) (h _), qa_b2, e4, if_pos rfl]
theorem ly_15e {T : List Nat} (Y : YB) (un : Int32) (u : FS) (hn : T.length ≤ 500) {b : Nat} (hb : T.length ≤ b) (hb5 : b ≤ 500) {p : PS} (hp : pLe p = nI b) (k15 : Int32 × FS → Option (Int32 × FS)) :
    fL_lays_b15 k15 (nI b) Y un (gP u p) T.length (fun i => T.getD i 0) = some (1, gP u (tLe p (nI T.length))) := by
  have hL := qa_nI (n := T.length) (by omega)
  have hB := qa_nI (n := b) (by omega)
  have eL : fJ0_lenP Y T.length (fun i => T.getD i 0) = some (nI T.length) := if_pos (by omega)
  have eT : fL_truncateText (nI T.length) (gP u p) = some (nI T.length, gP u (tLe p (nI T.length))) := by
    unfold fL_truncateText hX9_truncateText hX9_truncateText_b0
    rw [if_neg (by rw [qa_lt, qa_0]; omega), show pLe (fP (gP u p)) = nI b from hp, if_pos (by rw [qa_le]; omega)]
    rfl
  unfold fL_lays_b15
  rw [eL, qa_b, if_pos (by rw [qa_le]; omega), qa_b, eT, qa_b2, qa_b, if_pos rfl]
theorem ly_ok {T : List Nat} (Y : YB) (un : Int32) (u : FS) (hn : T.length ≤ 500) (h : ∀ j, T.getD j 0 < 256) (hp : pOk u) : ∃ p, fL_lays Y un u T.length (fun i => T.getD i 0) = some (1, gP u p) ∧ pLe p = nI T.length ∧ ∀ j, j < T.length → pBy p j = nI (T.getD j 0) := by
  obtain ⟨n0, hn0, e0⟩ := hp
  have eT : fL_truncateText 0 u = some (0, gP u (tLe (fP u) 0)) := by
    unfold fL_truncateText hX9_truncateText hX9_truncateText_b0
    rw [if_neg (by decide), e0, if_pos (by rw [qa_le, qa_0, qa_nI (by omega)]; omega)]
  unfold fL_lays fL_lays_b0
  rw [eT, qa_b2, if_pos rfl]
  refine qa_lind (fun i (s : Int32 × FS) => ∃ p, s = (nI (4 * i), gP u p) ∧ pLe p = nI (4 * i) ∧ ∀ j, j < 4 * i → pBy p j = nI (T.getD j 0)) (fun o => ∃ p, o = some (1, gP u p) ∧ pLe p = nI T.length ∧ ∀ j, j < T.length → pBy p j = nI (T.getD j 0)) ((T.length + 3) / 4) ?_ 5000 0 (0, gP u (tLe (fP u) 0)) ⟨tLe (fP u) 0, rfl, rfl, fun j hj => by omega⟩ (by omega) (by omega)
  intro i s k hi ⟨p, es, hl, hb⟩ hk
  subst es
  show ∃ p', fL_lays_b15 k (nI (4 * i)) Y un (gP u p) T.length (fun i => T.getD i 0) = some (1, gP u p') ∧ _
  by_cases q : T.length ≤ 4 * i
  · rw [ly_15e Y un u hn q (by omega) hl]
    exact ⟨_, rfl, rfl, fun j hj => hb j (by omega)⟩
  · rw [ly_15 Y un u hn h (by omega) (by omega) hl]
    refine hk _ (by omega) ⟨_, rfl, rfl, fun j hj => ?_⟩
    rw [a4_b]
    by_cases q3 : j = 4 * i + 3
    · rw [if_pos q3, q3]
    rw [if_neg q3]
    by_cases q2 : j = 4 * i + 2
    · rw [if_pos q2, q2]
    rw [if_neg q2]
    by_cases q1 : j = 4 * i + 1
    · rw [if_pos q1, q1]
    rw [if_neg q1]
    by_cases q0 : j = 4 * i
    · rw [if_pos q0, q0]
    rw [if_neg q0]
    exact hb j (by omega)
/-! the text's bytes -/
theorem a256 {x y : List Nat} (h1 : ∀ a ∈ x, a < 256) (h2 : ∀ a ∈ y, a < 256) : ∀ a ∈ x ++ y, a < 256 := fun a h => (List.mem_append.mp h).elim (h1 a) (h2 a)
theorem dc_256 {v : Nat} (hv : v < 1000) : ∀ a ∈ decL v, a < 256 := by
  intro a ha
  rcases decL_c hv with ⟨x, hx, _, e⟩ | ⟨x, y, hx, hy, _, e⟩ | ⟨x, y, w, hx, hy, hw, _, e⟩ <;> rw [e] at ha
  · have := List.mem_singleton.mp ha
    omega
  · rcases List.mem_cons.mp ha with h | h
    · omega
    · have := List.mem_singleton.mp h
      omega
  · rcases List.mem_cons.mp ha with h | h
    · omega
    · rcases List.mem_cons.mp h with h | h
      · omega
      · have := List.mem_singleton.mp h
        omega
theorem dc_l {v : Nat} (hv : v < 1000) : (decL v).length ≤ 3 := by
  rcases decL_c hv with ⟨x, hx, _, e⟩ | ⟨x, y, hx, hy, _, e⟩ | ⟨x, y, w, hx, hy, hw, _, e⟩ <;> rw [e]
  · exact Nat.le_of_ble_eq_true rfl
  · exact Nat.le_of_ble_eq_true rfl
  · exact Nat.le_of_ble_eq_true rfl
theorem gd_256 : ∀ (T : List Nat), (∀ a ∈ T, a < 256) → ∀ j, T.getD j 0 < 256
  | [], _, j => by show 0 < 256; decide
  | a :: T, h, 0 => h a List.mem_cons_self
  | a :: T, h, j + 1 => gd_256 T (fun b hb => h b (List.mem_cons_of_mem a hb)) j
/-- short, and bytes -/
def bL (n : Nat) (T : List Nat) : Prop := T.length ≤ n ∧ ∀ a ∈ T, a < 256
theorem bL.app {n m k : Nat} {x y : List Nat} (h1 : bL n x) (h2 : bL m y) (hk : n + m ≤ k) : bL k (x ++ y) := ⟨by rw [List.length_append]; have := h1.1; have := h2.1; omega, a256 h1.2 h2.2⟩
theorem bL.d {v : Nat} (hv : v < 1000) : bL 3 (decL v) := ⟨dc_l hv, dc_256 hv⟩
theorem bL.s {x : Nat} (hx : x < 256) : bL 1 [x] := ⟨Nat.le_refl _, fun a h => by rw [List.mem_singleton.mp h]; exact hx⟩
theorem cH_b {Y : YB} (hN : Y.2.2.1 < 2147483648) : ∀ (n k : Nat), k + 2 * n < 900000 → bL (12 * n) ((cH Y n k).2.1 ++ (cH Y n k).2.2)
  | 0, k, _ => ⟨Nat.le_refl _, fun a h => absurd h (List.not_mem_nil)⟩
  | n + 1, k, hk => by
    have d1 := dr_lt hN (k := k) (n := 4) (by omega) (by decide) (by decide)
    have d2 := dr_lt hN (k := k + 1) (n := 120) (by omega) (by decide) (by decide)
    have h := cH_b hN n (k + 2) (by omega)
    have hw : bL 3 wCar := ⟨by decide, by decide⟩
    exact hw.app ((bL.s (by decide : 32 < 256)).app ((bL.d (v := drN Y k 4) (by omega)).app ((bL.s (by decide : 32 < 256)).app ((bL.d (v := 1 + drN Y (k + 1) 120) (by omega)).app ((bL.s (by decide : 59 < 256)).app h (Nat.le_refl _)) (Nat.le_refl _)) (Nat.le_refl _)) (Nat.le_refl _)) (Nat.le_refl _)) (by omega)
theorem kH_b {Y : YB} (hN : Y.2.2.1 < 2147483648) {c : Nat} : ∀ (n j k : Nat), k + 4 * n + 2 * c < 900000 → j + n ≤ 4 → bL (21 * n + 12 * c) ((kH Y c n j k).2.1 ++ (kH Y c n j k).2.2)
  | 0, j, k, hk, _ => by
    have h := cH_b hN c k (by omega)
    exact ⟨Nat.le_trans h.1 (by omega), h.2⟩
  | n + 1, j, k, hk, hj => by
    by_cases z : drN Y k 2 = 0
    · have d1 := dr_lt hN (k := k + 1) (n := 30) (by omega) (by decide) (by decide)
      have d2 := dr_lt hN (k := k + 2) (n := 9) (by omega) (by decide) (by decide)
      have d3 := dr_lt hN (k := k + 3) (n := 3) (by omega) (by decide) (by decide)
      rw [kH, if_pos z]
      have h := kH_b hN (c := c) n (j + 1) (k + 4) (by omega) (by omega)
      have hw : bL 4 wKind := ⟨by decide, by decide⟩
      exact hw.app ((bL.s (by decide : 32 < 256)).app ((bL.d (v := j) (by omega)).app ((bL.s (by decide : 32 < 256)).app ((bL.d (v := 8 + drN Y (k + 1) 30) (by omega)).app ((bL.s (by decide : 32 < 256)).app ((bL.d (v := 2 + drN Y (k + 2) 9) (by omega)).app ((bL.s (by decide : 32 < 256)).app ((bL.d (v := 1 + drN Y (k + 3) 3) (by omega)).app ((bL.s (by decide : 59 < 256)).app h (Nat.le_refl _)) (Nat.le_refl _)) (Nat.le_refl _)) (Nat.le_refl _)) (Nat.le_refl _)) (Nat.le_refl _)) (Nat.le_refl _)) (Nat.le_refl _)) (Nat.le_refl _)) (by omega)
    · rw [kH, if_neg z]
      have h := kH_b hN (c := c) n (j + 1) (k + 1) (by omega) (by omega)
      exact ⟨Nat.le_trans h.1 (by omega), h.2⟩
theorem ldN_8 {Y : YB} (hN : Y.2.2.1 < 2147483648) {k : Nat} (hk : k < 900000) : ldN Y k ≤ 8 := by
  have := dr_lt hN (k := k + 1) (n := 6) (by omega) (by decide) (by decide)
  unfold ldN
  omega
theorem ld_bA (n1 n2 n3 n4 n5 n6 n7 n8 n9 n10 n11 n12 n13 R : List Nat) (h1 : bL 3 n1) (h2 : bL 3 n2) (h3 : bL 3 n3) (h4 : bL 3 n4) (h5 : bL 3 n5) (h6 : bL 3 n6) (h7 : bL 3 n7) (h8 : bL 3 n8) (h9 : bL 3 n9) (h10 : bL 3 n10) (h11 : bL 3 n11) (h12 : bL 3 n12) (h13 : bL 3 n13) (hR : bL 180 R) : bL 500 (wTide ++ ([32] ++ (n1 ++ ([32] ++ (n2 ++ ([32] ++ (wHalf ++ ([32] ++ (n3 ++ ([59] ++ (wDeck ++ ([32] ++ (n4 ++ ([32] ++ (wSink ++ ([32] ++ (n5 ++ ([59] ++ (wLanes ++ ([32] ++ (n6 ++ ([32] ++ (wLoad ++ ([32] ++ (n7 ++ ([32] ++ (wList ++ ([32] ++ (n8 ++ ([59] ++ (wWinch ++ ([32] ++ (n9 ++ ([32] ++ (n10 ++ ([32] ++ (n11 ++ ([59] ++ (wCross ++ ([32] ++ (n12 ++ ([32] ++ (wPatience ++ ([32] ++ (n13 ++ ([59] ++ R)))))))))))))))))))))))))))))))))))))))))))))) := by
  have s32 : bL 1 [32] := bL.s (by decide)
  have s59 : bL 1 [59] := bL.s (by decide)
  have mwTide : bL 8 wTide := ⟨by decide, by decide⟩
  have mwHalf : bL 8 wHalf := ⟨by decide, by decide⟩
  have mwDeck : bL 8 wDeck := ⟨by decide, by decide⟩
  have mwSink : bL 8 wSink := ⟨by decide, by decide⟩
  have mwLanes : bL 8 wLanes := ⟨by decide, by decide⟩
  have mwLoad : bL 8 wLoad := ⟨by decide, by decide⟩
  have mwList : bL 8 wList := ⟨by decide, by decide⟩
  have mwWinch : bL 8 wWinch := ⟨by decide, by decide⟩
  have mwCross : bL 8 wCross := ⟨by decide, by decide⟩
  have mwPatience : bL 8 wPatience := ⟨by decide, by decide⟩
  have r0 := bL.app (n := 1) (m := 180) (k := 181) s59 hR (Nat.le_of_ble_eq_true rfl)
  have r1 := bL.app (n := 3) (m := 181) (k := 184) h13 r0 (Nat.le_of_ble_eq_true rfl)
  have r2 := bL.app (n := 1) (m := 184) (k := 185) s32 r1 (Nat.le_of_ble_eq_true rfl)
  have r3 := bL.app (n := 8) (m := 185) (k := 193) mwPatience r2 (Nat.le_of_ble_eq_true rfl)
  have r4 := bL.app (n := 1) (m := 193) (k := 194) s32 r3 (Nat.le_of_ble_eq_true rfl)
  have r5 := bL.app (n := 3) (m := 194) (k := 197) h12 r4 (Nat.le_of_ble_eq_true rfl)
  have r6 := bL.app (n := 1) (m := 197) (k := 198) s32 r5 (Nat.le_of_ble_eq_true rfl)
  have r7 := bL.app (n := 8) (m := 198) (k := 206) mwCross r6 (Nat.le_of_ble_eq_true rfl)
  have r8 := bL.app (n := 1) (m := 206) (k := 207) s59 r7 (Nat.le_of_ble_eq_true rfl)
  have r9 := bL.app (n := 3) (m := 207) (k := 210) h11 r8 (Nat.le_of_ble_eq_true rfl)
  have r10 := bL.app (n := 1) (m := 210) (k := 211) s32 r9 (Nat.le_of_ble_eq_true rfl)
  have r11 := bL.app (n := 3) (m := 211) (k := 214) h10 r10 (Nat.le_of_ble_eq_true rfl)
  have r12 := bL.app (n := 1) (m := 214) (k := 215) s32 r11 (Nat.le_of_ble_eq_true rfl)
  have r13 := bL.app (n := 3) (m := 215) (k := 218) h9 r12 (Nat.le_of_ble_eq_true rfl)
  have r14 := bL.app (n := 1) (m := 218) (k := 219) s32 r13 (Nat.le_of_ble_eq_true rfl)
  have r15 := bL.app (n := 8) (m := 219) (k := 227) mwWinch r14 (Nat.le_of_ble_eq_true rfl)
  have r16 := bL.app (n := 1) (m := 227) (k := 228) s59 r15 (Nat.le_of_ble_eq_true rfl)
  have r17 := bL.app (n := 3) (m := 228) (k := 231) h8 r16 (Nat.le_of_ble_eq_true rfl)
  have r18 := bL.app (n := 1) (m := 231) (k := 232) s32 r17 (Nat.le_of_ble_eq_true rfl)
  have r19 := bL.app (n := 8) (m := 232) (k := 240) mwList r18 (Nat.le_of_ble_eq_true rfl)
  have r20 := bL.app (n := 1) (m := 240) (k := 241) s32 r19 (Nat.le_of_ble_eq_true rfl)
  have r21 := bL.app (n := 3) (m := 241) (k := 244) h7 r20 (Nat.le_of_ble_eq_true rfl)
  have r22 := bL.app (n := 1) (m := 244) (k := 245) s32 r21 (Nat.le_of_ble_eq_true rfl)
  have r23 := bL.app (n := 8) (m := 245) (k := 253) mwLoad r22 (Nat.le_of_ble_eq_true rfl)
  have r24 := bL.app (n := 1) (m := 253) (k := 254) s32 r23 (Nat.le_of_ble_eq_true rfl)
  have r25 := bL.app (n := 3) (m := 254) (k := 257) h6 r24 (Nat.le_of_ble_eq_true rfl)
  have r26 := bL.app (n := 1) (m := 257) (k := 258) s32 r25 (Nat.le_of_ble_eq_true rfl)
  have r27 := bL.app (n := 8) (m := 258) (k := 266) mwLanes r26 (Nat.le_of_ble_eq_true rfl)
  have r28 := bL.app (n := 1) (m := 266) (k := 267) s59 r27 (Nat.le_of_ble_eq_true rfl)
  have r29 := bL.app (n := 3) (m := 267) (k := 270) h5 r28 (Nat.le_of_ble_eq_true rfl)
  have r30 := bL.app (n := 1) (m := 270) (k := 271) s32 r29 (Nat.le_of_ble_eq_true rfl)
  have r31 := bL.app (n := 8) (m := 271) (k := 279) mwSink r30 (Nat.le_of_ble_eq_true rfl)
  have r32 := bL.app (n := 1) (m := 279) (k := 280) s32 r31 (Nat.le_of_ble_eq_true rfl)
  have r33 := bL.app (n := 3) (m := 280) (k := 283) h4 r32 (Nat.le_of_ble_eq_true rfl)
  have r34 := bL.app (n := 1) (m := 283) (k := 284) s32 r33 (Nat.le_of_ble_eq_true rfl)
  have r35 := bL.app (n := 8) (m := 284) (k := 292) mwDeck r34 (Nat.le_of_ble_eq_true rfl)
  have r36 := bL.app (n := 1) (m := 292) (k := 293) s59 r35 (Nat.le_of_ble_eq_true rfl)
  have r37 := bL.app (n := 3) (m := 293) (k := 296) h3 r36 (Nat.le_of_ble_eq_true rfl)
  have r38 := bL.app (n := 1) (m := 296) (k := 297) s32 r37 (Nat.le_of_ble_eq_true rfl)
  have r39 := bL.app (n := 8) (m := 297) (k := 305) mwHalf r38 (Nat.le_of_ble_eq_true rfl)
  have r40 := bL.app (n := 1) (m := 305) (k := 306) s32 r39 (Nat.le_of_ble_eq_true rfl)
  have r41 := bL.app (n := 3) (m := 306) (k := 309) h2 r40 (Nat.le_of_ble_eq_true rfl)
  have r42 := bL.app (n := 1) (m := 309) (k := 310) s32 r41 (Nat.le_of_ble_eq_true rfl)
  have r43 := bL.app (n := 3) (m := 310) (k := 313) h1 r42 (Nat.le_of_ble_eq_true rfl)
  have r44 := bL.app (n := 1) (m := 313) (k := 314) s32 r43 (Nat.le_of_ble_eq_true rfl)
  have r45 := bL.app (n := 8) (m := 314) (k := 500) mwTide r44 (Nat.le_of_ble_eq_true rfl)
  exact r45
theorem ldb_ok {Y : YB} (hN : Y.2.2.1 < 2147483648) {k : Nat} (hk : k < 100000) : bL 500 (ldT Y k).1 := by
  have d0 := dr_lt hN (k := k) (n := 10) (by omega) (by decide) (by decide)
  have d2 := dr_lt hN (k := k + 2) (n := 30) (by omega) (by decide) (by decide)
  have d3 := dr_lt hN (k := k + 3) (n := 12) (by omega) (by decide) (by decide)
  have d4 := dr_lt hN (k := k + 4) (n := 8) (by omega) (by decide) (by decide)
  have d5 := dr_lt hN (k := k + 5) (n := 40) (by omega) (by decide) (by decide)
  have d6 := dr_lt hN (k := k + 6) (n := 6) (by omega) (by decide) (by decide)
  have d7 := dr_lt hN (k := k + 7) (n := 500) (by omega) (by decide) (by decide)
  have d8 := dr_lt hN (k := k + 8) (n := 160) (by omega) (by decide) (by decide)
  have d9 := dr_lt hN (k := k + 9) (n := 3) (by omega) (by decide) (by decide)
  have d10 := dr_lt hN (k := k + 10) (n := 5) (by omega) (by decide) (by decide)
  have d11 := dr_lt hN (k := k + 11) (n := 3) (by omega) (by decide) (by decide)
  have d12 := dr_lt hN (k := k + 12) (n := 3) (by omega) (by decide) (by decide)
  have d13 := dr_lt hN (k := k + 13) (n := 4) (by omega) (by decide) (by decide)
  have h8 := ldN_8 hN (k := k) (by omega)
  have h := kH_b hN (c := ldN Y k) 4 0 (k + 14) (by omega) (by omega)
  have h' : bL 180 ((kH Y (ldN Y k) 4 0 (k + 14)).2.1 ++ (kH Y (ldN Y k) 4 0 (k + 14)).2.2) := ⟨Nat.le_trans h.1 (by omega), h.2⟩
  rw [ld_t, List.nil_append]
  exact ld_bA _ _ _ _ _ _ _ _ _ _ _ _ _ _ (bL.d (by omega)) (bL.d (by omega)) (bL.d (by omega)) (bL.d (by omega)) (bL.d (by omega)) (bL.d (by omega)) (bL.d (by omega)) (bL.d (by omega)) (bL.d (by omega)) (bL.d (by omega)) (bL.d (by omega)) (bL.d (by omega)) (bL.d (by omega)) h'
/-! loads -/
theorem gH_f (F : FS) (h : HT) : fN (gH F h) = hV h ∧ fX (gH F h) = hX h ∧ fY (gH F h) = hY h ∧ fP (gH F h) = fP F := ⟨rfl, rfl, rfl, rfl⟩
theorem ld_ok {Y : YB} (hN : Y.2.2.1 < 2147483648) {k : Nat} (hk : k < 100000) {u : FS} (hh : hOk u) (hp : pOk u) : Ok (fL_loads Y k u) (fun q => q.1 = 1 ∧ lawInv 0 q.2) := by
  have h8 := ldN_8 hN (k := k) (by omega)
  obtain ⟨hl, hb⟩ := ldb_ok hN hk
  obtain ⟨p, e1, q1, q2⟩ := ly_ok Y (nI (ldT Y k).2) u hl (gd_256 _ hb) hp
  obtain ⟨p', u', g, e2, R, I, P, eI0, e14⟩ := rd_ok hN hk (p := p) (fT u) hl q1 q2 (by omega)
  obtain ⟨w, ew, cw⟩ := sb_copy (fN u) u'
  obtain ⟨x, kk, hx, hkk, ex, ey⟩ := hh
  have n01 : ¬ (1 : Int32) = 0 := by decide
  have hF : ∃ F3, fX9_load (gP u p) = some (sC w 1, F3) ∧ fN F3 = w ∧ fX F3 = fX u ∧ fY F3 = 0 ∧ pLe (fP F3) = 0 := by
    obtain ⟨X, eX, x1, x2, x3⟩ : ∃ X : FS, X = gN (gP (gT (gP (gP u p) p') u') (tLe (fP (gT (gP (gP u p) p') u')) 0)) w ∧ fN X = w ∧ fX X = fX u ∧ pLe (fP X) = 0 := ⟨_, rfl, rfl, rfl, rfl⟩
    obtain ⟨g1, g2, g3, g4⟩ := gH_f X (iY (fH X) 0)
    refine ⟨gH X (iY (fH X) 0), ?_, g1.trans x1, g2.trans x2, g3, by rw [g4]; exact x3⟩
    have y1 : sC (fN (gH X (iY (fH X) 0))) 1 = sC w 1 := by
      rw [g1]
      exact congrArg (fun v => sC v 1) x1
    unfold fX9_load fX9_load_b0
    rw [show fP (gP u p) = p from rfl, show fT (gP u p) = fT u from rfl, e2, qa_b2, if_neg n01, show fN (gP (gT (gP (gP u p) p') u') (tLe (fP (gT (gP (gP u p) p') u')) 0)) = fN u from rfl, show fT (gP (gT (gP (gP u p) p') u') (tLe (fP (gT (gP (gP u p) p') u')) 0)) = u' from rfl, ew, qa_b, ← eX]
    unfold fX4_forget fX4_forget_b0
    rw [qa_b, y1]
  obtain ⟨F3, f1, f2, f3, f4, f5⟩ := hF
  have FG3 : FG 61000 F3 g := ⟨by rw [f2]; exact R.cp I.2.1 cw, I, ⟨x, 0, hx, by omega, f3.trans ex, f4⟩, ⟨0, by omega, f5⟩⟩
  have c1 : sC w 1 = nI (ldN Y k) := by
    have := FG3.1.1.1.2.1
    rw [f2] at this
    rw [this, e14]
  have FG4 : FG 61000 (gH F3 (fH F3)) g := FG3.rf rfl rfl rfl rfl
  unfold fL_loads ldEnd
  rw [e1, qa_b2, if_neg n01, f1, qa_b2, if_pos c1, lp_G FG3, eI0, qa_b, if_pos rfl, un_0 f4, qa_b2, if_pos rfl, cn_1 FG4, qa_b, if_pos e14]
  exact ⟨_, rfl, rfl, g, FG4, P⟩
theorem law_ok {Y : YB} (hN : Y.2.2.1 < 2147483648) : LawOk Y lawInv (fun u => hOk u ∧ pOk u) :=
  lawOk_of hN (fun n u _ ⟨g, h, _⟩ => ⟨h.2.2.1, h.2.2.2⟩) (fun k u hk h => ld_ok hN hk h.1 h.2)
