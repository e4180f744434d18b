/-! the bundle of the law's layer: the digits' tables, the script; calls with any end; the world of a StringBuilder and of a String -/
def dTeL : List Int32 := [48, 48, 48, 48, 48, 48, 48, 48, 48, 48, 49, 49, 49, 49, 49, 49, 49, 49, 49, 49, 50, 50, 50, 50, 50, 50, 50, 50, 50, 50, 51, 51, 51, 51, 51, 51, 51, 51, 51, 51, 52, 52, 52, 52, 52, 52, 52, 52, 52, 52, 53, 53, 53, 53, 53, 53, 53, 53, 53, 53, 54, 54, 54, 54, 54, 54, 54, 54, 54, 54, 55, 55, 55, 55, 55, 55, 55, 55, 55, 55, 56, 56, 56, 56, 56, 56, 56, 56, 56, 56, 57, 57, 57, 57, 57, 57, 57, 57, 57, 57]
def dOnL : List Int32 := [48, 49, 50, 51, 52, 53, 54, 55, 56, 57, 48, 49, 50, 51, 52, 53, 54, 55, 56, 57, 48, 49, 50, 51, 52, 53, 54, 55, 56, 57, 48, 49, 50, 51, 52, 53, 54, 55, 56, 57, 48, 49, 50, 51, 52, 53, 54, 55, 56, 57, 48, 49, 50, 51, 52, 53, 54, 55, 56, 57, 48, 49, 50, 51, 52, 53, 54, 55, 56, 57, 48, 49, 50, 51, 52, 53, 54, 55, 56, 57, 48, 49, 50, 51, 52, 53, 54, 55, 56, 57, 48, 49, 50, 51, 52, 53, 54, 55, 56, 57]
def dTe (j : Nat) : Int32 := dTeL.getD j 0
def dOn (j : Nat) : Int32 := dOnL.getD j 0
/-- addresses of the digits' tables; the script's address, length, numbers -/
abbrev YB : Type := (Nat → Nat) × Nat × Nat × (Nat → Int32)
def mY (Y : YB) (A : Nat → Prop) (U : State) (H : Heap) : Prop := va_Nw (.castable "[B" "java/lang/Cloneable") U ∧ va_Z "java/lang/Integer" "DigitTens" "[B" (.ref (Y.1 0)) A U H ∧ va_T .byte (Y.1 0) 100 (fun j => .int (dTe j)) A U H ∧
  va_Z "java/lang/Integer" "DigitOnes" "[B" (.ref (Y.1 1)) A U H ∧ va_T .byte (Y.1 1) 100 (fun j => .int (dOn j)) A U H ∧ va_T .int Y.2.1 Y.2.2.1 (fun j => .int (Y.2.2.2 j)) A U H
theorem mY.kept {Y : YB} {A : Nat → Prop} {U : State} {H H1 : Heap} (h : mY Y A U H) (hq : ∀ a : Nat, a < H.size → ¬ A a → H1[a]? = H[a]?) : mY Y A U H1 := ⟨h.1, va_Z.kept h.2.1 hq, h.2.2.1.kept hq, va_Z.kept h.2.2.2.1 hq, h.2.2.2.2.1.kept hq, h.2.2.2.2.2.kept hq⟩
theorem mY.narrow {Y : YB} {A B : Nat → Prop} {U : State} {H : Heap} (h : mY Y A U H) (hAB : ∀ q, B q → A q) : mY Y B U H := ⟨h.1, va_Z.narrow h.2.1 hAB, h.2.2.1.narrow hAB, va_Z.narrow h.2.2.2.1 hAB, h.2.2.2.2.1.narrow hAB, h.2.2.2.2.2.narrow hAB⟩
theorem mY.warm {Y : YB} {A : Nat → Prop} {s U : State} {H : Heap} (hW : s.WarmedH U.vm) (h : mY Y A s H) : mY Y A U H := ⟨va_Nw.warmC hW h.1, va_Z.moved hW.alike h.2.1, va_T.moved hW.alike h.2.2.1, va_Z.moved hW.alike h.2.2.2.1, va_T.moved hW.alike h.2.2.2.2.1, va_T.moved hW.alike h.2.2.2.2.2⟩
theorem mY.calling {Y : YB} {A : Nat → Prop} {U : State} {g : JFrame} {mk : MethodId} {a : Array Value} (h : mY Y A U U.heap) : mY Y A (U.calling g mk a) (U.calling g mk a).heap := ⟨va_Nw.same rfl rfl h.1, va_Z.moved (Vm.Alike.refl U.vm) h.2.1, va_T.moved (Vm.Alike.refl U.vm) h.2.2.1, va_Z.moved (Vm.Alike.refl U.vm) h.2.2.2.1, va_T.moved (Vm.Alike.refl U.vm) h.2.2.2.2.1, va_T.moved (Vm.Alike.refl U.vm) h.2.2.2.2.2⟩
theorem mY.at {Y : YB} {A B : Nat → Prop} {s U : State} {H : Heap} {locs : List Loc} (h : mY Y A s s.heap) (hS : va_S A s.heap H locs) (hAB : ∀ q, B q → A q) (hU : U.heap = H) (hW : s.WarmedH U.vm) : mY Y B U U.heap := by
  rw [hU]
  exact ((h.kept hS.2.1).narrow hAB).warm hW
def kPreY (D : va_G) (cy : Nat → ClassId) (za zv : Nat → Nat) (Y : YB) (sz : Nat) (ws : va_W) (U : State) : Prop := kPreZ D cy za zv sz ws U ∧ mY Y (va_A ws sz) U U.heap
section KY
variable {p : Program} {l : Launch} {e : Env} {R : Room} {s : State} {m : MethodId} {args : Array Value} {below : List Frame} {meth : Method} {c : Code} {H H0 : Heap} {locs : List Loc} {cells slots : Nat} {Q : State → Prop}
variable {Ts wy : List Cond} {cc bytes : ByteArray} {nL maxL index n q0 ci N mc ms pc : Nat} {own C host : String} {T : u_T} {y : MethodName} {ret : Option FieldType} {rm : Room} {b : Addr} {As rest st : List Value} {fs : List Value} {ls : Array Slot}
variable {D : va_G} {cy : Nat → ClassId} {ws wc wr : va_W} {A : Nat → Prop} {S : Type} {mk : S → va_W} {mk2 : S → Nat → va_W} {za zv : Nat → Nat} {Y : YB}
theorem k_preVY (hY : mY Y A s s.heap) (hZ : mZ za zv A s s.heap) (hS : va_S A s.heap H locs) (hF : ∀ q, va_A wc H.size q → A q) (hK : mK D cy s) (hP : va_P D kCl wc H) (hD : va_D A wc) (hrec : wc[q0]? = some (b, .inr (ci, fs))) (hci : kCl[ci]? = some (C, T, N)) : PreV s H C b (va_Pc (.ref b :: As) (kPreY D cy za zv Y H.size wc)) As := by
  refine ⟨fun a U g mk q => ?_, va_recv hK.1 hP (ci := ci) (q0 := q0) hci hrec, fun U hU hW => ⟨rfl, ⟨⟨by rw [hU], by rw [hU]; exact hP, hK.warm hW, hD.weaken (fun _ _ _ _ => trivial)⟩, hZ.at hS hF hU hW⟩, hY.at hS hF hU hW⟩⟩
  obtain ⟨h0, ⟨⟨h1, h2, h3, h4⟩, h5⟩, h6⟩ := q
  exact ⟨h0, ⟨⟨h1, h2, h3.calling, h4⟩, h5.calling⟩, h6.calling⟩
theorem k_preSY (hY : mY Y A s s.heap) (hZ : mZ za zv A s s.heap) (hS : va_S A s.heap H locs) (hF : ∀ q, va_A wc H.size q → A q) (hK : mK D cy s) (hP : va_P D kCl wc H) (hD : va_D A wc) : PreS s H (va_Pc As (kPreY D cy za zv Y H.size wc)) As := by
  refine ⟨fun a U g mk q => ?_, fun U hU hW => ⟨rfl, ⟨⟨by rw [hU], by rw [hU]; exact hP, hK.warm hW, hD.weaken (fun _ _ _ _ => trivial)⟩, hZ.at hS hF hU hW⟩, hY.at hS hF hU hW⟩⟩
  obtain ⟨h0, ⟨⟨h1, h2, h3, h4⟩, h5⟩, h6⟩ := q
  exact ⟨h0, ⟨⟨h1, h2, h3.calling, h4⟩, h5.calling⟩, h6.calling⟩
theorem jr_i {post : Int32 → S → Prop}
    (hr : va_Run p l e R s m args below meth c H locs cells slots mc ms (F0 m pc ls st) rest (va_Qi post (fun u => kPost D (va_A wc H.size) (mk u)) (va_A wc H.size) As.toArray) (va_A wc H.size))
    (hp : ws.Perm (wc ++ wr)) (hP : va_P D kCl ws H) (hD : va_D A ws) (hS : va_S A H0 H locs) (hA : ∀ q, H0.size ≤ q → A q)
    (kk : ∀ (r : Int32) (u : S) (H1 : Heap) (locs1 : List Loc), post r u → va_P D kCl (mk u ++ wr) H1 → va_D A (mk u ++ wr) → va_S A H0 H1 locs1 → W p l e R s m args below meth c H1 locs1 (cells + mc) (slots + ms) Q (F0 m (pc + 3) ls (.int r :: rest))) :
    W p l e R s m args below meth c H locs cells slots Q (F0 m pc ls st) := by
  have hF := k_free hp hD hS hA
  refine va_calli hr hS (fun q _ h => hF q h) hF (fun r u t H1 locs1 ht hvm hw hB hz1 hk1 hS1 => ?_)
  obtain ⟨hP1, hD1⟩ := hB
  rw [ht] at hP1
  obtain ⟨hP2, hD2⟩ := k_join hp hP hD hk1 hF hP1 hD1
  exact kk r u H1 locs1 hw hP2 hD2 hS1
theorem jr_v {post : S → Prop}
    (hr : va_Run p l e R s m args below meth c H locs cells slots mc ms (F0 m pc ls st) rest (va_Qv post (fun u => kPost D (va_A wc H.size) (mk u)) (va_A wc H.size) As.toArray) (va_A wc H.size))
    (hp : ws.Perm (wc ++ wr)) (hP : va_P D kCl ws H) (hD : va_D A ws) (hS : va_S A H0 H locs) (hA : ∀ q, H0.size ≤ q → A q)
    (kk : ∀ (u : S) (H1 : Heap) (locs1 : List Loc), post u → va_P D kCl (mk u ++ wr) H1 → va_D A (mk u ++ wr) → va_S A H0 H1 locs1 → W p l e R s m args below meth c H1 locs1 (cells + mc) (slots + ms) Q (F0 m (pc + 3) ls rest)) :
    W p l e R s m args below meth c H locs cells slots Q (F0 m pc ls st) := by
  have hF := k_free hp hD hS hA
  refine va_callv hr hS (fun q _ h => hF q h) hF (fun u t H1 locs1 ht hvm hw hB hz1 hk1 hS1 => ?_)
  obtain ⟨hP1, hD1⟩ := hB
  rw [ht] at hP1
  obtain ⟨hP2, hD2⟩ := k_join hp hP hD hk1 hF hP1 hD1
  exact kk u H1 locs1 hw hP2 hD2 hS1
theorem jr_r {post : S → Prop}
    (hr : va_Run p l e R s m args below meth c H locs cells slots mc ms (F0 m pc ls st) rest (va_Qr post (fun u ra => kPost D (va_A wc H.size) (mk2 u ra)) (va_A wc H.size) As.toArray) (va_A wc H.size))
    (hp : ws.Perm (wc ++ wr)) (hP : va_P D kCl ws H) (hD : va_D A ws) (hS : va_S A H0 H locs) (hA : ∀ q, H0.size ≤ q → A q)
    (kk : ∀ (u : S) (ra : Nat) (H1 : Heap) (locs1 : List Loc), post u → va_P D kCl (mk2 u ra ++ wr) H1 → va_D A (mk2 u ra ++ wr) → va_S A H0 H1 locs1 → W p l e R s m args below meth c H1 locs1 (cells + mc) (slots + ms) Q (F0 m (pc + 3) ls (.ref ra :: rest))) :
    W p l e R s m args below meth c H locs cells slots Q (F0 m pc ls st) := by
  have hF := k_free hp hD hS hA
  refine va_callr hr hS (fun q _ h => hF q h) hF (fun u ra t H1 locs1 ht hvm hw hB hz1 hk1 hS1 => ?_)
  have hP1 := hB.1
  have hD1 := hB.2
  rw [ht] at hP1
  obtain ⟨hP2, hD2⟩ := k_join hp hP hD hk1 hF hP1 hD1
  exact kk u ra H1 locs1 hw hP2 hD2 hS1
theorem k_newb (hx : p.tables.exec = Jvm.exec) (hb : c.code = cc) (harr : (Cond.arrayClass .byte).before args s = true) (hK : mK D cy s) (hP : va_P D kCl ws H) (hD : va_D A ws) (hS : va_S A H0 H locs) (hA : ∀ q, H0.size ≤ q → A q) {i : Int32} {k : Nat} (hn : ¬ i < 0) (hN : i.toNatClampNeg = k) (hbytes : k * 1 ≤ 536870912) (hc : cells + 1 ≤ R.cells) (hs : slots + k ≤ R.slots) (hdg : decode cc pc = .ok (.newarray .byte, 2))
    (kk : ∀ (q : Nat) (H1 : Heap), va_P D kCl (ws ++ [(q, .inl (cy 3, k, .inl (fun _ => 0)))]) H1 → va_D A (ws ++ [(q, .inl (cy 3, k, .inl (fun _ => 0)))]) → va_S A H0 H1 locs → W p l e R s m args below meth c H1 locs (cells + 1) (slots + k) Q (F0 m (pc + 2) ls (.ref q :: rest))) : W p l e R s m args below meth c H locs cells slots Q (F0 m pc ls (.int i :: rest)) := by
  refine va_newaK (atype := .byte) hx hb harr rfl hdg rfl hn hN hbytes hc hs rfl (fun H' cA h1 h2 h3 _ h5 => ?_)
  have e : cA = cy 3 := Option.some.inj (h5.symm.trans (hK.1.2 3 _ rfl).2)
  subst e
  have hk : ∀ q, q < H.size → H'[q]? = H[q]? := h3
  refine kk H.size H' ?_ ?_ ⟨Nat.le_trans hS.1 (by omega), fun q g1 g2 => (hk q (Nat.lt_of_lt_of_le g1 hS.1)).trans (hS.2.1 q g1 g2), hS.2.2⟩
  · refine kP_app.mpr ⟨fun j q hq => (hP j q hq).kept (hk _ (hP j q hq).lt), fun j q hq => ?_⟩
    cases j with
    | zero =>
      cases hq
      exact h1
    | succ j => simp at hq
  · exact hD.push hP rfl (hA _ hS.1)
end KY
/-- a StringBuilder: its object, its bytes -/
def wSB (cy : Nat → ClassId) (hb v m : Nat) (a : Nat → Int32) (n : Nat) (z : Int32) : va_W := [(hb, .inr (5, [.ref v, .int 0, .int z, .int (nI n)])), (v, .inl (cy 3, m, .inl a))]
/-- what holds of its bytes: the text t -/
def sbT (t : List Int32) (a : Nat → Int32) : Prop := (∀ i, i < t.length → a i = t.getD i 0) ∧ ∀ i, fits .byte (.int (a i)) = true
/-- a String of the world -/
def wST (cy : Nat → ClassId) (hs v m : Nat) (a : Nat → Int32) : va_W := [(hs, .inr (6, [.ref v, .int 0, .int 0, .int 0])), (v, .inl (cy 3, m, .inl a))]
