/-! THE LAW: the two calls whose answers are doubles and floats -/
section KDD
variable {p : Program} {l : Launch} {e : Env} {R : Room} {s : State} {m : MethodId} {args : Array Value} {below : List Frame} {meth : Method} {c : Code} {H : Heap} {locs : List Loc} {cells slots : Nat} {Q : State → Prop}
variable {Ts wy : List Cond} {cc bytes : ByteArray} {nL maxL index pc : Nat} {own : String} {y : MethodName} {ret : Option FieldType} {rm : Room} {rest st : List Value} {ls : Array Slot}
variable {D : va_G} {cy : Nat → ClassId} {A : Nat → Prop} {ad hh : Nat → Nat} {aa : Nat → Nat → Nat} {pa : Nat → Nat} {h : Nat} {a : Nat → Nat} {ho : Nat} {F : FS} {M M' : RS} {f : Nat → Int64} {d0 : Drawn}
theorem lw_Xd {post : UInt64 → Prop} (hd0 : s.drawn.sameBut d0 lw_cs) (CF : CallFix p m c cc nL (s.setDrawn d0) args Ts own)
    (hM : MetD lw_cs l y wy rm (va_Pc [.ref (ad 0)] (kPre D cy H.size (wF cy ad hh aa pa F))) (va_Qd (fun (r : UInt64) (_ : Unit) => post r) (fun _ => kPost D (va_A (wF cy ad hh aa pa F) H.size) (wF cy ad hh aa pa F)) (va_A (wF cy ad hh aa pa F) H.size)) 0 0 (va_A (wF cy ad hh aa pa F) H.size))
    (cw : CallW R (s.setDrawn d0) args own RX9 index y bytes maxL ret wy rm 0 0 0) (hK : mK D cy (s.setDrawn d0)) (hP : va_P D vwCl (wLW cy ad hh aa pa h a ho F M f) H) (hD : va_D A (wLW cy ad hh aa pa h a ho F M f)) (hS : va_S A s.heap H locs) (hA : ∀ q, s.heap.size ≤ q → A q)
    (hl : ls.size = nL) (hst : st = .ref (ad 0) :: rest) (hw : (rest.map fun v => v.category).sum ≤ 8) (hdg : decode cc pc = .ok (.invokevirtual index, 3)) (hf : cells ≤ R.cells ∧ slots ≤ R.slots)
    (kk : ∀ (r : UInt64) (d1 : Drawn) (H1 : Heap) (locs1 : List Loc), s.drawn.sameBut d1 lw_cs → post r → va_P D vwCl (wLW cy ad hh aa pa h a ho F M f) H1 → va_S A s.heap H1 locs1 → W p l e R (s.setDrawn d1) m args below meth c H1 locs1 cells slots Q (F0 m (pc + 3) ls (.double r :: rest))) :
    W p l e R (s.setDrawn d0) m args below meth c H locs cells slots Q (F0 m pc ls st) := by
  have hp := pLX cy ad hh aa pa h a ho F M f
  have hP' := kP_app.mp (kP_perm hp hP)
  have hD' := kD_app (kD_perm hp hD)
  have hF := k_free hp hD hS hA
  refine va_calldD hd0 (va_runV_D (As := []) CF hM cw (k_preV hK hP'.1 hD'.1 (q0 := 0) (wF_c0 _ _ _ _ _ _) rfl) rfl rfl hl hst (lv_room hw) hdg hf) hS (fun q _ h => hF q h) hF (fun r u t H1 locs1 ht hvm hw1 hB hz1 hk1 hS1 d1 hd1 => ?_)
  obtain ⟨hP1, hD1⟩ := hB
  rw [ht] at hP1
  obtain ⟨hP2, hD2⟩ := k_join hp hP hD hk1 hF hP1 hD1
  exact kk r d1 H1 locs1 hd1 hw1 (kP_perm hp.symm hP2) hS1
theorem lw_Xf {post : UInt32 → Prop} (hd0 : s.drawn.sameBut d0 lw_cs) (CF : CallFix p m c cc nL (s.setDrawn d0) args Ts own)
    (hM : MetD lw_cs l y wy rm (va_Pc [.ref (ad 0)] (kPre D cy H.size (wF cy ad hh aa pa F))) (va_Qf (fun (r : UInt32) (_ : Unit) => post r) (fun _ => kPost D (va_A (wF cy ad hh aa pa F) H.size) (wF cy ad hh aa pa F)) (va_A (wF cy ad hh aa pa F) H.size)) 0 0 (va_A (wF cy ad hh aa pa F) H.size))
    (cw : CallW R (s.setDrawn d0) args own RX9 index y bytes maxL ret wy rm 0 0 0) (hK : mK D cy (s.setDrawn d0)) (hP : va_P D vwCl (wLW cy ad hh aa pa h a ho F M f) H) (hD : va_D A (wLW cy ad hh aa pa h a ho F M f)) (hS : va_S A s.heap H locs) (hA : ∀ q, s.heap.size ≤ q → A q)
    (hl : ls.size = nL) (hst : st = .ref (ad 0) :: rest) (hw : (rest.map fun v => v.category).sum ≤ 8) (hdg : decode cc pc = .ok (.invokevirtual index, 3)) (hf : cells ≤ R.cells ∧ slots ≤ R.slots)
    (kk : ∀ (r : UInt32) (d1 : Drawn) (H1 : Heap) (locs1 : List Loc), s.drawn.sameBut d1 lw_cs → post r → va_P D vwCl (wLW cy ad hh aa pa h a ho F M f) H1 → va_S A s.heap H1 locs1 → W p l e R (s.setDrawn d1) m args below meth c H1 locs1 cells slots Q (F0 m (pc + 3) ls (.float r :: rest))) :
    W p l e R (s.setDrawn d0) m args below meth c H locs cells slots Q (F0 m pc ls st) := by
  have hp := pLX cy ad hh aa pa h a ho F M f
  have hP' := kP_app.mp (kP_perm hp hP)
  have hD' := kD_app (kD_perm hp hD)
  have hF := k_free hp hD hS hA
  refine va_callfD hd0 (va_runV_D (As := []) CF hM cw (k_preV hK hP'.1 hD'.1 (q0 := 0) (wF_c0 _ _ _ _ _ _) rfl) rfl rfl hl hst (lv_room hw) hdg hf) hS (fun q _ h => hF q h) hF (fun r u t H1 locs1 ht hvm hw1 hB hz1 hk1 hS1 d1 hd1 => ?_)
  obtain ⟨hP1, hD1⟩ := hB
  rw [ht] at hP1
  obtain ⟨hP2, hD2⟩ := k_join hp hP hD hk1 hF hP1 hD1
  exact kk r d1 H1 locs1 hd1 hw1 (kP_perm hp.symm hP2) hS1
theorem lw_Md {post : UInt64 → Prop} (hd0 : s.drawn.sameBut d0 lw_cs) (CF : CallFix p m c cc nL (s.setDrawn d0) args Ts own)
    (hM : MetD lw_cs l y wy rm (va_Pc [.ref h] (kPre D cy H.size (wM cy h a M))) (va_Qd (fun (r : UInt64) (_ : Unit) => post r) (fun _ => kPost D (va_A (wM cy h a M) H.size) (wM cy h a M')) (va_A (wM cy h a M) H.size)) 0 0 (va_A (wM cy h a M) H.size))
    (cw : CallW R (s.setDrawn d0) args own RX10 index y bytes maxL ret wy rm 0 0 0) (hK : mK D cy (s.setDrawn d0)) (hP : va_P D vwCl (wLW cy ad hh aa pa h a ho F M f) H) (hD : va_D A (wLW cy ad hh aa pa h a ho F M f)) (hS : va_S A s.heap H locs) (hA : ∀ q, s.heap.size ≤ q → A q)
    (hl : ls.size = nL) (hst : st = .ref h :: rest) (hw : (rest.map fun v => v.category).sum ≤ 8) (hdg : decode cc pc = .ok (.invokevirtual index, 3)) (hf : cells ≤ R.cells ∧ slots ≤ R.slots)
    (kk : ∀ (r : UInt64) (d1 : Drawn) (H1 : Heap) (locs1 : List Loc), s.drawn.sameBut d1 lw_cs → post r → va_P D vwCl (wLW cy ad hh aa pa h a ho F M' f) H1 → va_D A (wLW cy ad hh aa pa h a ho F M' f) → va_S A s.heap H1 locs1 → W p l e R (s.setDrawn d1) m args below meth c H1 locs1 cells slots Q (F0 m (pc + 3) ls (.double r :: rest))) :
    W p l e R (s.setDrawn d0) m args below meth c H locs cells slots Q (F0 m pc ls st) := by
  have hp := pLM cy ad hh aa pa h a ho F M f
  have hP' := kP_app.mp (kP_perm hp hP)
  have hD' := kD_app (kD_perm hp hD)
  have hF := k_free hp hD hS hA
  refine va_calldD hd0 (va_runV_D (As := []) CF hM cw (k_preV hK hP'.1 hD'.1 (q0 := 0) (wM_a0 _ _ _ _) rfl) rfl rfl hl hst (lv_room hw) hdg hf) hS (fun q _ h => hF q h) hF (fun r u t H1 locs1 ht hvm hw1 hB hz1 hk1 hS1 d1 hd1 => ?_)
  obtain ⟨hP1, hD1⟩ := hB
  rw [ht] at hP1
  obtain ⟨hP2, hD2⟩ := k_join hp hP hD hk1 hF hP1 hD1
  exact kk r d1 H1 locs1 hd1 hw1 (kP_perm (pLM cy ad hh aa pa h a ho F M' f).symm hP2) (kD_perm (pLM cy ad hh aa pa h a ho F M' f).symm hD2) hS1
theorem lw_Mf {post : UInt32 → Prop} (hd0 : s.drawn.sameBut d0 lw_cs) (CF : CallFix p m c cc nL (s.setDrawn d0) args Ts own)
    (hM : MetD lw_cs l y wy rm (va_Pc [.ref h] (kPre D cy H.size (wM cy h a M))) (va_Qf (fun (r : UInt32) (_ : Unit) => post r) (fun _ => kPost D (va_A (wM cy h a M) H.size) (wM cy h a M')) (va_A (wM cy h a M) H.size)) 0 0 (va_A (wM cy h a M) H.size))
    (cw : CallW R (s.setDrawn d0) args own RX10 index y bytes maxL ret wy rm 0 0 0) (hK : mK D cy (s.setDrawn d0)) (hP : va_P D vwCl (wLW cy ad hh aa pa h a ho F M f) H) (hD : va_D A (wLW cy ad hh aa pa h a ho F M f)) (hS : va_S A s.heap H locs) (hA : ∀ q, s.heap.size ≤ q → A q)
    (hl : ls.size = nL) (hst : st = .ref h :: rest) (hw : (rest.map fun v => v.category).sum ≤ 8) (hdg : decode cc pc = .ok (.invokevirtual index, 3)) (hf : cells ≤ R.cells ∧ slots ≤ R.slots)
    (kk : ∀ (r : UInt32) (d1 : Drawn) (H1 : Heap) (locs1 : List Loc), s.drawn.sameBut d1 lw_cs → post r → va_P D vwCl (wLW cy ad hh aa pa h a ho F M' f) H1 → va_D A (wLW cy ad hh aa pa h a ho F M' f) → va_S A s.heap H1 locs1 → W p l e R (s.setDrawn d1) m args below meth c H1 locs1 cells slots Q (F0 m (pc + 3) ls (.float r :: rest))) :
    W p l e R (s.setDrawn d0) m args below meth c H locs cells slots Q (F0 m pc ls st) := by
  have hp := pLM cy ad hh aa pa h a ho F M f
  have hP' := kP_app.mp (kP_perm hp hP)
  have hD' := kD_app (kD_perm hp hD)
  have hF := k_free hp hD hS hA
  refine va_callfD hd0 (va_runV_D (As := []) CF hM cw (k_preV hK hP'.1 hD'.1 (q0 := 0) (wM_a0 _ _ _ _) rfl) rfl rfl hl hst (lv_room hw) hdg hf) hS (fun q _ h => hF q h) hF (fun r u t H1 locs1 ht hvm hw1 hB hz1 hk1 hS1 d1 hd1 => ?_)
  obtain ⟨hP1, hD1⟩ := hB
  rw [ht] at hP1
  obtain ⟨hP2, hD2⟩ := k_join hp hP hD hk1 hF hP1 hD1
  exact kk r d1 H1 locs1 hd1 hw1 (kP_perm (pLM cy ad hh aa pa h a ho F M' f).symm hP2) (kD_perm (pLM cy ad hh aa pa h a ho F M' f).symm hD2) hS1
end KDD
