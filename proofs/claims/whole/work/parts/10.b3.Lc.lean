/-! THE LAW's world: the class's object, the reference's, the answer's row; its calls -/
def wLW (cy : Nat → ClassId) (ad hh : Nat → Nat) (aa : Nat → Nat → Nat) (pa : Nat → Nat) (h : Nat) (a : Nat → Nat) (ho : Nat) (F : FS) (M : RS) (f : Nat → Int64) : va_W := wOu cy ho f ++ (wF cy ad hh aa pa F ++ wM cy h a M)
theorem pLX (cy : Nat → ClassId) (ad hh : Nat → Nat) (aa : Nat → Nat → Nat) (pa : Nat → Nat) (h : Nat) (a : Nat → Nat) (ho : Nat) (F : FS) (M : RS) (f : Nat → Int64) : (wLW cy ad hh aa pa h a ho F M f).Perm (wF cy ad hh aa pa F ++ (wOu cy ho f ++ wM cy h a M)) := by
  unfold wLW
  exact (List.perm_append_comm_assoc _ _ _)
theorem pLM (cy : Nat → ClassId) (ad hh : Nat → Nat) (aa : Nat → Nat → Nat) (pa : Nat → Nat) (h : Nat) (a : Nat → Nat) (ho : Nat) (F : FS) (M : RS) (f : Nat → Int64) : (wLW cy ad hh aa pa h a ho F M f).Perm (wM cy h a M ++ (wOu cy ho f ++ wF cy ad hh aa pa F)) := by
  unfold wLW
  exact (List.Perm.append_left _ List.perm_append_comm).trans (List.perm_append_comm_assoc _ _ _)
theorem pLH (cy : Nat → ClassId) (ad hh : Nat → Nat) (aa : Nat → Nat → Nat) (pa : Nat → Nat) (h : Nat) (a : Nat → Nat) (ho : Nat) (F : FS) (M : RS) (f : Nat → Int64) : (wLW cy ad hh aa pa h a ho F M f).Perm (wFO cy ad hh aa pa ho (F, f) ++ wM cy h a M) := by
  unfold wLW wFO
  rw [List.append_assoc]
theorem lg_cmp_self (x : Int64) : lg_cmp x x = 0 := by
  unfold lg_cmp
  rw [if_neg (by simp), if_pos rfl]
section KLW
variable {p : Program} {l : Launch} {e : Env} {R : Room} {s : State} {m : MethodId} {args : Array Value} {below : List Frame} {meth : Method} {c : Code} {H : Heap} {locs : List Loc} {cells slots : Nat} {Q : State → Prop}
variable {Ts wy : List Cond} {cc bytes : ByteArray} {nL maxL index n pc : Nat} {own : String} {y : MethodName} {ret : Option FieldType} {rm : Room} {As rest st : List Value} {ls : Array Slot}
variable {D : va_G} {cy : Nat → ClassId} {A : Nat → Prop} {za zv ad hh : Nat → Nat} {aa : Nat → Nat → Nat} {pa : Nat → Nat} {h : Nat} {a : Nat → Nat} {ho : Nat} {F : FS} {M : RS} {f : Nat → Int64}
/-- a helper's call -/
theorem lw_H {hx9 : List (Nat × Nat × Nat × Nat)} {K : Int32 → FS × (Nat → Int64) → Prop} (CF : CallFix p m c cc nL s args Ts own)
    (hM : vx_Met l y wy rm (va_Pc As (kPreL D cy za zv H.size (wFO cy ad hh aa pa ho (F, f)))) (va_Qi K (fun q => kPost D (va_A (wFO cy ad hh aa pa ho (F, f)) H.size) (wFO cy ad hh aa pa ho q)) (va_A (wFO cy ad hh aa pa ho (F, f)) H.size)) (vx_X (fun _ : Unit => False) (fun _ _ _ => False) (va_A (wFO cy ad hh aa pa ho (F, f)) H.size)) 1 6 (va_A (wFO cy ad hh aa pa ho (F, f)) H.size))
    (cw : vx_CSW R s args own index y bytes maxL ret hx9 wy rm 1 6 n) (hN : lNc s) (hZ : mZ za zv A s s.heap) (hK : mK D cy s) (hP : va_P D vwCl (wLW cy ad hh aa pa h a ho F M f) H) (hD : va_D A (wLW cy ad hh aa pa h a ho F M f)) (hS : va_S A s.heap H locs) (hA : ∀ q, s.heap.size ≤ q → A q)
    (hn : As.length = n) (hl : ls.size = nL) (hst : st = As.reverse ++ rest) (hw : (rest.map fun v => v.category).sum ≤ 8) (hdg : decode cc pc = .ok (.invokestatic index, 3)) (hf : cells + 1 ≤ R.cells ∧ slots + 6 ≤ R.slots)
    (kk : ∀ (r : Int32) (q : FS × (Nat → Int64)) (H1 : Heap) (locs1 : List Loc), K r q → va_P D vwCl (wLW cy ad hh aa pa h a ho q.1 M q.2) H1 → va_D A (wLW cy ad hh aa pa h a ho q.1 M q.2) → va_S A s.heap H1 locs1 → W p l e R s m args below meth c H1 locs1 (cells + 1) (slots + 6) Q (F0 m (pc + 3) ls (.int r :: rest))) :
    W p l e R s m args below meth c H locs cells slots Q (F0 m pc ls st) := by
  have hp := pLH cy ad hh aa pa h a ho F M f
  have hP' := kP_app.mp (kP_perm hp hP)
  have hD' := kD_app (kD_perm hp hD)
  have hF := k_free hp hD hS hA
  refine vx_calli (vx_runSX CF hM cw (k_preSL hN hZ hS hF hK hP'.1 hD'.1) rfl hn hl hst (lv_room hw) hdg hf) hS (fun q _ h => hF q h) hF (fun q _ h => hF q h) (fun E ce q9 u t H1 locs1 ht hvm hu hB hz1 hk1 hS1 hce hcv hcl => hu.elim) (fun r u t H1 locs1 ht hvm hw1 hB hz1 hk1 hS1 => ?_)
  obtain ⟨hP1, hD1⟩ := hB
  rw [ht] at hP1
  obtain ⟨hP2, hD2⟩ := k_join hp hP hD hk1 hF hP1 hD1
  exact kk r u H1 locs1 hw1 (kP_perm (pLH cy ad hh aa pa h a ho u.1 M u.2).symm hP2) (kD_perm (pLH cy ad hh aa pa h a ho u.1 M u.2).symm hD2) hS1
/-- a helper's that has no answer -/
theorem lw_Hv {hx9 : List (Nat × Nat × Nat × Nat)} {K : Int32 → FS → Prop} (CF : CallFix p m c cc nL s args Ts own)
    (hM : vx_Met l y wy rm (va_Pc As (kPreL D cy za zv H.size (wF cy ad hh aa pa F))) (va_Qi K (fun q => kPost D (va_A (wF cy ad hh aa pa F) H.size) (wF cy ad hh aa pa q)) (va_A (wF cy ad hh aa pa F) H.size)) (vx_X (fun _ : Unit => False) (fun _ _ _ => False) (va_A (wF cy ad hh aa pa F) H.size)) 1 6 (va_A (wF cy ad hh aa pa F) H.size))
    (cw : vx_CSW R s args own index y bytes maxL ret hx9 wy rm 1 6 n) (hN : lNc s) (hZ : mZ za zv A s s.heap) (hK : mK D cy s) (hP : va_P D vwCl (wLW cy ad hh aa pa h a ho F M f) H) (hD : va_D A (wLW cy ad hh aa pa h a ho F M f)) (hS : va_S A s.heap H locs) (hA : ∀ q, s.heap.size ≤ q → A q)
    (hn : As.length = n) (hl : ls.size = nL) (hst : st = As.reverse ++ rest) (hw : (rest.map fun v => v.category).sum ≤ 8) (hdg : decode cc pc = .ok (.invokestatic index, 3)) (hf : cells + 1 ≤ R.cells ∧ slots + 6 ≤ R.slots)
    (kk : ∀ (r : Int32) (q : FS) (H1 : Heap) (locs1 : List Loc), K r q → va_P D vwCl (wLW cy ad hh aa pa h a ho q M f) H1 → va_D A (wLW cy ad hh aa pa h a ho q M f) → va_S A s.heap H1 locs1 → W p l e R s m args below meth c H1 locs1 (cells + 1) (slots + 6) Q (F0 m (pc + 3) ls (.int r :: rest))) :
    W p l e R s m args below meth c H locs cells slots Q (F0 m pc ls st) := by
  have hp := pLX cy ad hh aa pa h a ho F M f
  have hP' := kP_app.mp (kP_perm hp hP)
  have hD' := kD_app (kD_perm hp hD)
  have hF := k_free hp hD hS hA
  refine vx_calli (vx_runSX CF hM cw (k_preSL hN hZ hS hF hK hP'.1 hD'.1) rfl hn hl hst (lv_room hw) hdg hf) hS (fun q _ h => hF q h) hF (fun q _ h => hF q h) (fun E ce q9 u t H1 locs1 ht hvm hu hB hz1 hk1 hS1 hce hcv hcl => hu.elim) (fun r u t H1 locs1 ht hvm hw1 hB hz1 hk1 hS1 => ?_)
  obtain ⟨hP1, hD1⟩ := hB
  rw [ht] at hP1
  obtain ⟨hP2, hD2⟩ := k_join hp hP hD hk1 hF hP1 hD1
  exact kk r u H1 locs1 hw1 (kP_perm (pLX cy ad hh aa pa h a ho u M f).symm hP2) (kD_perm (pLX cy ad hh aa pa h a ho u M f).symm hD2) hS1
/-- the class's calls -/
theorem lw_XI {o : Option (Int32 × FS)} {r0 : Int32} {F' : FS} (heq : o = some (r0, F')) (CF : CallFix p m c cc nL s args Ts own)
    (hM : ∀ K : Int32 → FS → Prop, Ok o (fun q => K q.1 q.2) → Met l y wy rm (va_Pc (.ref (ad 0) :: As) (kPre D cy H.size (wF cy ad hh aa pa F))) (va_Qi K (fun u => kPost D (va_A (wF cy ad hh aa pa F) H.size) (wF cy ad hh aa pa u)) (va_A (wF cy ad hh aa pa F) H.size)) 0 0 (va_A (wF cy ad hh aa pa F) H.size))
    (cw : CallW R s args own RX9 index y bytes maxL ret wy rm 0 0 n) (hK : mK D cy s) (hP : va_P D vwCl (wLW cy ad hh aa pa h a ho F M f) H) (hD : va_D A (wLW cy ad hh aa pa h a ho F M f)) (hS : va_S A s.heap H locs) (hA : ∀ q, s.heap.size ≤ q → A q)
    (hn : As.length = n) (hl : ls.size = nL) (hst : st = As.reverse ++ .ref (ad 0) :: rest) (hw : (rest.map fun v => v.category).sum ≤ 8) (hdg : decode cc pc = .ok (.invokevirtual index, 3)) (hf : cells ≤ R.cells ∧ slots ≤ R.slots)
    (kk : ∀ (H1 : Heap) (locs1 : List Loc), va_P D vwCl (wLW cy ad hh aa pa h a ho F' M f) H1 → va_D A (wLW cy ad hh aa pa h a ho F' M f) → va_S A s.heap H1 locs1 → W p l e R s m args below meth c H1 locs1 cells slots Q (F0 m (pc + 3) ls (.int r0 :: rest))) :
    W p l e R s m args below meth c H locs cells slots Q (F0 m pc ls st) := by
  subst heq
  refine kc_iV (K0 := fun q : Int32 × FS => q = (r0, F')) (f := fun r u => some (r, u)) (b := ad 0) (mk := wF cy ad hh aa pa) (wc := wF cy ad hh aa pa F) (wr := wOu cy ho f ++ wM cy h a M) ⟨(r0, F'), rfl, rfl⟩ CF hM cw hK (pLX cy ad hh aa pa h a ho F M f) hP hD hS hA (q0 := 0) (wF_c0 _ _ _ _ _ _) rfl hn hl hst hw hdg hf (fun r u H1 locs1 h1 hP1 hD1 hS1 => ?_)
  obtain ⟨rfl, rfl⟩ := Prod.mk.inj h1.ret
  exact kk H1 locs1 (kP_perm (pLX cy ad hh aa pa h a ho _ M f).symm hP1) (kD_perm (pLX cy ad hh aa pa h a ho _ M f).symm hD1) hS1
theorem lw_XZ {o : Option (Int32 × FS)} {r0 : Int32} {F' : FS} (heq : o = some (r0, F')) (CF : CallFix p m c cc nL s args Ts own)
    (hM : ∀ K : Int32 → FS → Prop, Ok o (fun q => K q.1 q.2) → Met l y wy rm (va_Pc (.ref (ad 0) :: As) (kPreZ D cy za zv H.size (wF cy ad hh aa pa F))) (va_Qi K (fun u => kPost D (va_A (wF cy ad hh aa pa F) H.size) (wF cy ad hh aa pa u)) (va_A (wF cy ad hh aa pa F) H.size)) 0 0 (va_A (wF cy ad hh aa pa F) H.size))
    (cw : CallW R s args own RX9 index y bytes maxL ret wy rm 0 0 n) (hZ : mZ za zv A s s.heap) (hK : mK D cy s) (hP : va_P D vwCl (wLW cy ad hh aa pa h a ho F M f) H) (hD : va_D A (wLW cy ad hh aa pa h a ho F M f)) (hS : va_S A s.heap H locs) (hA : ∀ q, s.heap.size ≤ q → A q)
    (hn : As.length = n) (hl : ls.size = nL) (hst : st = As.reverse ++ .ref (ad 0) :: rest) (hw : (rest.map fun v => v.category).sum ≤ 8) (hdg : decode cc pc = .ok (.invokevirtual index, 3)) (hf : cells ≤ R.cells ∧ slots ≤ R.slots)
    (kk : ∀ (H1 : Heap) (locs1 : List Loc), va_P D vwCl (wLW cy ad hh aa pa h a ho F' M f) H1 → va_D A (wLW cy ad hh aa pa h a ho F' M f) → va_S A s.heap H1 locs1 → W p l e R s m args below meth c H1 locs1 cells slots Q (F0 m (pc + 3) ls (.int r0 :: rest))) :
    W p l e R s m args below meth c H locs cells slots Q (F0 m pc ls st) := by
  subst heq
  refine kz_iV (K0 := fun q : Int32 × FS => q = (r0, F')) (f := fun r u => some (r, u)) (b := ad 0) (mk := wF cy ad hh aa pa) (wc := wF cy ad hh aa pa F) (wr := wOu cy ho f ++ wM cy h a M) ⟨(r0, F'), rfl, rfl⟩ CF hM cw hZ hK (pLX cy ad hh aa pa h a ho F M f) hP hD hS hA (q0 := 0) (wF_c0 _ _ _ _ _ _) rfl hn hl hst hw hdg hf (fun r u H1 locs1 h1 hP1 hD1 hS1 => ?_)
  obtain ⟨rfl, rfl⟩ := Prod.mk.inj h1.ret
  exact kk H1 locs1 (kP_perm (pLX cy ad hh aa pa h a ho _ M f).symm hP1) (kD_perm (pLX cy ad hh aa pa h a ho _ M f).symm hD1) hS1
theorem lw_XR {o : Option Int32} {r0 : Int32} (heq : o = some r0) (CF : CallFix p m c cc nL s args Ts own)
    (hM : ∀ K : Int32 → Prop, Ok o K → Met l y wy rm (va_Pc (.ref (ad 0) :: As) (kPre D cy H.size (wF cy ad hh aa pa F))) (va_Qi (fun r (_ : Unit) => K r) (fun _ => kPost D (va_A (wF cy ad hh aa pa F) H.size) (wF cy ad hh aa pa F)) (va_A (wF cy ad hh aa pa F) H.size)) 0 0 (va_A (wF cy ad hh aa pa F) H.size))
    (cw : CallW R s args own RX9 index y bytes maxL ret wy rm 0 0 n) (hK : mK D cy s) (hP : va_P D vwCl (wLW cy ad hh aa pa h a ho F M f) H) (hD : va_D A (wLW cy ad hh aa pa h a ho F M f)) (hS : va_S A s.heap H locs) (hA : ∀ q, s.heap.size ≤ q → A q)
    (hn : As.length = n) (hl : ls.size = nL) (hst : st = As.reverse ++ .ref (ad 0) :: rest) (hw : (rest.map fun v => v.category).sum ≤ 8) (hdg : decode cc pc = .ok (.invokevirtual index, 3)) (hf : cells ≤ R.cells ∧ slots ≤ R.slots)
    (kk : ∀ (H1 : Heap) (locs1 : List Loc), va_P D vwCl (wLW cy ad hh aa pa h a ho F M f) H1 → va_D A (wLW cy ad hh aa pa h a ho F M f) → va_S A s.heap H1 locs1 → W p l e R s m args below meth c H1 locs1 cells slots Q (F0 m (pc + 3) ls (.int r0 :: rest))) :
    W p l e R s m args below meth c H locs cells slots Q (F0 m pc ls st) := by
  subst heq
  refine kc_rV (K0 := fun q : Int32 => q = r0) (f := fun r => some r) (b := ad 0) (wc := wF cy ad hh aa pa F) (wr := wOu cy ho f ++ wM cy h a M) ⟨r0, rfl, rfl⟩ CF hM cw hK (pLX cy ad hh aa pa h a ho F M f) hP hD hS hA (q0 := 0) (wF_c0 _ _ _ _ _ _) rfl hn hl hst hw hdg hf (fun r H1 locs1 h1 hP1 hS1 => ?_)
  have e1 : r = r0 := h1.ret
  subst e1
  exact kk H1 locs1 hP1 hD hS1
/-- the reference's calls -/
theorem lw_MI {o : Option (Int32 × RS)} {r0 : Int32} {M' : RS} (heq : o = some (r0, M')) (CF : CallFix p m c cc nL s args Ts own)
    (hM : ∀ K : Int32 → RS → Prop, Ok o (fun q => K q.1 q.2) → Met l y wy rm (va_Pc (.ref h :: As) (kPre D cy H.size (wM cy h a M))) (va_Qi K (fun u => kPost D (va_A (wM cy h a M) H.size) (wM cy h a u)) (va_A (wM cy h a M) H.size)) 0 0 (va_A (wM cy h a M) H.size))
    (cw : CallW R s args own RX10 index y bytes maxL ret wy rm 0 0 n) (hK : mK D cy s) (hP : va_P D vwCl (wLW cy ad hh aa pa h a ho F M f) H) (hD : va_D A (wLW cy ad hh aa pa h a ho F M f)) (hS : va_S A s.heap H locs) (hA : ∀ q, s.heap.size ≤ q → A q)
    (hn : As.length = n) (hl : ls.size = nL) (hst : st = As.reverse ++ .ref h :: rest) (hw : (rest.map fun v => v.category).sum ≤ 8) (hdg : decode cc pc = .ok (.invokevirtual index, 3)) (hf : cells ≤ R.cells ∧ slots ≤ R.slots)
    (kk : ∀ (H1 : Heap) (locs1 : List Loc), va_P D vwCl (wLW cy ad hh aa pa h a ho F M' f) H1 → va_D A (wLW cy ad hh aa pa h a ho F M' f) → va_S A s.heap H1 locs1 → W p l e R s m args below meth c H1 locs1 cells slots Q (F0 m (pc + 3) ls (.int r0 :: rest))) :
    W p l e R s m args below meth c H locs cells slots Q (F0 m pc ls st) := by
  subst heq
  refine kc_iV (K0 := fun q : Int32 × RS => q = (r0, M')) (f := fun r u => some (r, u)) (b := h) (mk := wM cy h a) (wc := wM cy h a M) (wr := wOu cy ho f ++ wF cy ad hh aa pa F) ⟨(r0, M'), rfl, rfl⟩ CF hM cw hK (pLM cy ad hh aa pa h a ho F M f) hP hD hS hA (q0 := 0) (wM_a0 _ _ _ _) rfl hn hl hst hw hdg hf (fun r u H1 locs1 h1 hP1 hD1 hS1 => ?_)
  obtain ⟨rfl, rfl⟩ := Prod.mk.inj h1.ret
  exact kk H1 locs1 (kP_perm (pLM cy ad hh aa pa h a ho F _ f).symm hP1) (kD_perm (pLM cy ad hh aa pa h a ho F _ f).symm hD1) hS1
theorem lw_MZ {o : Option (Int32 × RS)} {r0 : Int32} {M' : RS} (heq : o = some (r0, M')) (CF : CallFix p m c cc nL s args Ts own)
    (hM : ∀ K : Int32 → RS → Prop, Ok o (fun q => K q.1 q.2) → Met l y wy rm (va_Pc (.ref h :: As) (kPreZ D cy za zv H.size (wM cy h a M))) (va_Qi K (fun u => kPost D (va_A (wM cy h a M) H.size) (wM cy h a u)) (va_A (wM cy h a M) H.size)) 0 0 (va_A (wM cy h a M) H.size))
    (cw : CallW R s args own RX10 index y bytes maxL ret wy rm 0 0 n) (hZ : mZ za zv A s s.heap) (hK : mK D cy s) (hP : va_P D vwCl (wLW cy ad hh aa pa h a ho F M f) H) (hD : va_D A (wLW cy ad hh aa pa h a ho F M f)) (hS : va_S A s.heap H locs) (hA : ∀ q, s.heap.size ≤ q → A q)
    (hn : As.length = n) (hl : ls.size = nL) (hst : st = As.reverse ++ .ref h :: rest) (hw : (rest.map fun v => v.category).sum ≤ 8) (hdg : decode cc pc = .ok (.invokevirtual index, 3)) (hf : cells ≤ R.cells ∧ slots ≤ R.slots)
    (kk : ∀ (H1 : Heap) (locs1 : List Loc), va_P D vwCl (wLW cy ad hh aa pa h a ho F M' f) H1 → va_D A (wLW cy ad hh aa pa h a ho F M' f) → va_S A s.heap H1 locs1 → W p l e R s m args below meth c H1 locs1 cells slots Q (F0 m (pc + 3) ls (.int r0 :: rest))) :
    W p l e R s m args below meth c H locs cells slots Q (F0 m pc ls st) := by
  subst heq
  refine kz_iV (K0 := fun q : Int32 × RS => q = (r0, M')) (f := fun r u => some (r, u)) (b := h) (mk := wM cy h a) (wc := wM cy h a M) (wr := wOu cy ho f ++ wF cy ad hh aa pa F) ⟨(r0, M'), rfl, rfl⟩ CF hM cw hZ hK (pLM cy ad hh aa pa h a ho F M f) hP hD hS hA (q0 := 0) (wM_a0 _ _ _ _) rfl hn hl hst hw hdg hf (fun r u H1 locs1 h1 hP1 hD1 hS1 => ?_)
  obtain ⟨rfl, rfl⟩ := Prod.mk.inj h1.ret
  exact kk H1 locs1 (kP_perm (pLM cy ad hh aa pa h a ho F _ f).symm hP1) (kD_perm (pLM cy ad hh aa pa h a ho F _ f).symm hD1) hS1
theorem lw_MV {o : Option RS} {M' : RS} (heq : o = some M') (CF : CallFix p m c cc nL s args Ts own)
    (hM : ∀ K : RS → Prop, Ok o K → Met l y wy rm (va_Pc (.ref h :: As) (kPre D cy H.size (wM cy h a M))) (va_Qv K (fun u => kPost D (va_A (wM cy h a M) H.size) (wM cy h a u)) (va_A (wM cy h a M) H.size)) 0 0 (va_A (wM cy h a M) H.size))
    (cw : CallW R s args own RX10 index y bytes maxL ret wy rm 0 0 n) (hK : mK D cy s) (hP : va_P D vwCl (wLW cy ad hh aa pa h a ho F M f) H) (hD : va_D A (wLW cy ad hh aa pa h a ho F M f)) (hS : va_S A s.heap H locs) (hA : ∀ q, s.heap.size ≤ q → A q)
    (hn : As.length = n) (hl : ls.size = nL) (hst : st = As.reverse ++ .ref h :: rest) (hw : (rest.map fun v => v.category).sum ≤ 8) (hdg : decode cc pc = .ok (.invokevirtual index, 3)) (hf : cells ≤ R.cells ∧ slots ≤ R.slots)
    (kk : ∀ (H1 : Heap) (locs1 : List Loc), va_P D vwCl (wLW cy ad hh aa pa h a ho F M' f) H1 → va_D A (wLW cy ad hh aa pa h a ho F M' f) → va_S A s.heap H1 locs1 → W p l e R s m args below meth c H1 locs1 cells slots Q (F0 m (pc + 3) ls rest)) :
    W p l e R s m args below meth c H locs cells slots Q (F0 m pc ls st) := by
  subst heq
  refine kc_vV (K0 := fun q : RS => q = M') (f := fun u => some u) (b := h) (mk := wM cy h a) (wc := wM cy h a M) (wr := wOu cy ho f ++ wF cy ad hh aa pa F) ⟨M', rfl, rfl⟩ CF hM cw hK (pLM cy ad hh aa pa h a ho F M f) hP hD hS hA (q0 := 0) (wM_a0 _ _ _ _) rfl hn hl hst hw hdg hf (fun u H1 locs1 h1 hP1 hD1 hS1 => ?_)
  have e1 : u = M' := h1.ret
  subst e1
  exact kk H1 locs1 (kP_perm (pLM cy ad hh aa pa h a ho F _ f).symm hP1) (kD_perm (pLM cy ad hh aa pa h a ho F _ f).symm hD1) hS1
theorem lw_MR {o : Option Int32} {r0 : Int32} (heq : o = some r0) (CF : CallFix p m c cc nL s args Ts own)
    (hM : ∀ K : Int32 → Prop, Ok o K → Met l y wy rm (va_Pc (.ref h :: As) (kPre D cy H.size (wM cy h a M))) (va_Qi (fun r (_ : Unit) => K r) (fun _ => kPost D (va_A (wM cy h a M) H.size) (wM cy h a M)) (va_A (wM cy h a M) H.size)) 0 0 (va_A (wM cy h a M) H.size))
    (cw : CallW R s args own RX10 index y bytes maxL ret wy rm 0 0 n) (hK : mK D cy s) (hP : va_P D vwCl (wLW cy ad hh aa pa h a ho F M f) H) (hD : va_D A (wLW cy ad hh aa pa h a ho F M f)) (hS : va_S A s.heap H locs) (hA : ∀ q, s.heap.size ≤ q → A q)
    (hn : As.length = n) (hl : ls.size = nL) (hst : st = As.reverse ++ .ref h :: rest) (hw : (rest.map fun v => v.category).sum ≤ 8) (hdg : decode cc pc = .ok (.invokevirtual index, 3)) (hf : cells ≤ R.cells ∧ slots ≤ R.slots)
    (kk : ∀ (H1 : Heap) (locs1 : List Loc), va_P D vwCl (wLW cy ad hh aa pa h a ho F M f) H1 → va_D A (wLW cy ad hh aa pa h a ho F M f) → va_S A s.heap H1 locs1 → W p l e R s m args below meth c H1 locs1 cells slots Q (F0 m (pc + 3) ls (.int r0 :: rest))) :
    W p l e R s m args below meth c H locs cells slots Q (F0 m pc ls st) := by
  subst heq
  refine kc_rV (K0 := fun q : Int32 => q = r0) (f := fun r => some r) (b := h) (wc := wM cy h a M) (wr := wOu cy ho f ++ wF cy ad hh aa pa F) ⟨r0, rfl, rfl⟩ CF hM cw hK (pLM cy ad hh aa pa h a ho F M f) hP hD hS hA (q0 := 0) (wM_a0 _ _ _ _) rfl hn hl hst hw hdg hf (fun r H1 locs1 h1 hP1 hS1 => ?_)
  have e1 : r = r0 := h1.ret
  subst e1
  exact kk H1 locs1 hP1 hD hS1
end KLW
/-- what holds all through the law -/
def lE (D : va_G) (cy : Nat → ClassId) (za zv : Nat → Nat) (A : Nat → Prop) (b L : Nat) (xs : Nat → Int32) (p : Program) (s : State) (m : MethodId) (args : Array Value) (meth : Method) (c : Code) : Prop :=
  p.tables.exec = Jvm.exec ∧ c.code = cL_law ∧ c.maxLocals = 9 ∧ s.vm.findClass RL = some m.cls ∧ (∀ w ∈ wsL_law, w.before args s = true) ∧ mK D cy s ∧ (∀ q, s.heap.size ≤ q → A q) ∧ mZ za zv A s s.heap ∧ lNc s ∧ va_X b L xs s s.heap ∧ b < s.heap.size ∧ ¬ A b
theorem lE.draw {D : va_G} {cy : Nat → ClassId} {za zv : Nat → Nat} {A : Nat → Prop} {b L : Nat} {xs : Nat → Int32} {p : Program} {s : State} {m : MethodId} {args : Array Value} {meth : Method} {c : Code} (E : lE D cy za zv A b L xs p s m args meth c) (d : Drawn) : lE D cy za zv A b L xs p (s.setDrawn d) m args meth c := by
  obtain ⟨hx, hb, hml, hown, hts, hK, hA, hZ, hN, hX, hbl, hbA⟩ := E
  exact ⟨hx, hb, hml, hown, dr_words hts d, ⟨va_K.moved (u := s) (U := s.setDrawn d) (Vm.Alike.refl s.vm) hK.1, mN.same (u := s) (U := s.setDrawn d) rfl hK.2⟩, hA, mZ.warm (U := s.setDrawn d) (State.WarmedH.refl s) hZ, lNc.warm (U := s.setDrawn d) (State.WarmedH.refl s) hN, va_X.moved (u := s) (U := s.setDrawn d) (Vm.Alike.refl s.vm) hX, hbl, hbA⟩
theorem lz_up (f : Nat → Int64) (b : Int32) : vp_updL f (Int32.toNatClampNeg 0) b.toInt64 (Int32.toNatClampNeg 0) = b.toInt64 := by
  unfold vp_updL
  rw [if_pos rfl]
/-- what the pure layer says of a call with one exception, two -/
theorem lz_1 {B : Int} {n : String} {o : Option ((String ⊕ Int32) × FS)} {o' : Option (Int32 × RS)} (h : eC1 B n o o') (f : Nat → Int64) : ∃ (F' : FS) (M' : RS) (b : Int32), eAll B F' M' ∧ o' = some (b, M') ∧ Ok o (lhK1 n f (fun r q => r = mTh M' ∧ q.1 = F' ∧ (r = 0 → q.2 (Int32.toNatClampNeg 0) = b.toInt64))) := by
  obtain ⟨rv, F', b, M', e1, e2, Al, ho⟩ := h
  refine ⟨F', M', b, Al, e2, (rv, F'), e1, ?_⟩
  rcases ho with ⟨rfl, ht⟩ | ⟨rfl, ht⟩
  · exact ⟨rfl, ht.symm, rfl, fun h => absurd h (by decide)⟩
  · exact ⟨ht.symm, rfl, fun _ => lz_up f b⟩
theorem lz_2 {B : Int} {n n' : String} {o : Option ((String ⊕ Int32) × FS)} {o' : Option (Int32 × RS)} (h : eC2 B n n' o o') (f : Nat → Int64) : ∃ (F' : FS) (M' : RS) (b : Int32), eAll B F' M' ∧ o' = some (b, M') ∧ Ok o (lhK2 n n' f (fun r q => r = mTh M' ∧ q.1 = F' ∧ (r = 0 → q.2 (Int32.toNatClampNeg 0) = b.toInt64))) := by
  obtain ⟨rv, F', b, M', e1, e2, Al, ho⟩ := h
  refine ⟨F', M', b, Al, e2, (rv, F'), e1, ?_⟩
  rcases ho with ⟨rfl, ht⟩ | ⟨rfl, ht⟩ | ⟨rfl, ht⟩
  · exact Or.inl ⟨rfl, ht.symm, rfl, fun h => absurd h (by decide)⟩
  · exact Or.inr ⟨rfl, ht.symm, rfl, fun h => absurd h (by decide)⟩
  · exact ⟨ht.symm, rfl, fun _ => lz_up f b⟩
theorem lz_v1 {B : Int} {n : String} {o : Option ((String ⊕ Int32) × FS)} {o' : Option RS} (h : ∃ rv F' M', o = some (rv, F') ∧ o' = some M' ∧ eAll B F' M' ∧ o1 n rv 0 (mTh M')) : ∃ (F' : FS) (M' : RS), eAll B F' M' ∧ o' = some M' ∧ Ok o (lhV1 n (fun r q => r = mTh M' ∧ q = F')) := by
  obtain ⟨rv, F', M', e1, e2, Al, ho⟩ := h
  refine ⟨F', M', Al, e2, (rv, F'), e1, ?_⟩
  rcases ho with ⟨rfl, ht⟩ | ⟨rfl, ht⟩
  · exact ⟨rfl, ht.symm, rfl⟩
  · exact ⟨ht.symm, rfl⟩
theorem lz_v2 {B : Int} {n n' : String} {o : Option ((String ⊕ Int32) × FS)} {o' : Option RS} (h : ∃ rv F' M', o = some (rv, F') ∧ o' = some M' ∧ eAll B F' M' ∧ o2 n n' rv 0 (mTh M')) : ∃ (F' : FS) (M' : RS), eAll B F' M' ∧ o' = some M' ∧ Ok o (lhV2 n n' (fun r q => r = mTh M' ∧ q = F')) := by
  obtain ⟨rv, F', M', e1, e2, Al, ho⟩ := h
  refine ⟨F', M', Al, e2, (rv, F'), e1, ?_⟩
  rcases ho with ⟨rfl, ht⟩ | ⟨rfl, ht⟩ | ⟨rfl, ht⟩
  · exact Or.inl ⟨rfl, ht.symm, rfl⟩
  · exact Or.inr ⟨rfl, ht.symm, rfl⟩
  · exact ⟨ht.symm, rfl⟩
