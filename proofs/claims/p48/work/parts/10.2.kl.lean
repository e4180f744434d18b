/-! THE LAW: rows for its calls, its object, its helpers -/
/-- a helper of the law: its table is never used -/
abbrev XF (A : Nat → Prop) : String → State → State → Prop := vx_X (fun _ : Unit => False) (fun _ _ _ => False) A
section KH
variable {p : Program} {l : Launch} {e : Env} {R : Room} {s : State} {m : MethodId} {args : Array Value} {below : List Frame} {meth : Method} {c : Code} {H H0 : Heap} {locs : List Loc} {cells slots : Nat} {Q : State → Prop}
variable {Ts wy : List Cond} {cc bytes : ByteArray} {nL maxL index n q0 ci N mc ms pc : Nat} {own C host : String} {T : u_T} {y : MethodName} {ret : Option FieldType} {rm : Room} {b : Addr} {As rest st : List Value} {fs : List Value} {ls : Array Slot}
variable {D : va_G} {cy : Nat → ClassId} {ws wc wr : va_W} {A : Nat → Prop} {S γ : Type} {mk : S → va_W} {K0 : γ → Prop} {za zv : Nat → Nat} {Y : YB}
/-- the three of a method of an object of the world's -/
theorem ky_iV {o : Option (Int32 × S)} {f : Int32 → S → Option γ} (h : Ok (bnd2 o f) K0) (CF : CallFix p m c cc nL s args Ts own)
    (hM : ∀ K : Int32 → S → Prop, Ok o (fun q => K q.1 q.2) → Met l y wy rm (va_Pc (.ref b :: As) (kPreY D cy za zv Y H.size wc)) (va_Qi K (fun u => kPost D (va_A wc H.size) (mk u)) (va_A wc H.size)) 0 0 (va_A wc H.size))
    (cw : CallW R s args own C index y bytes maxL ret wy rm 0 0 n) (hY : mY Y A s s.heap) (hZ : mZ za zv A s s.heap) (hK : mK D cy s) (hp : ws.Perm (wc ++ wr)) (hP : va_P D kCl ws H) (hD : va_D A ws) (hS : va_S A s.heap H locs) (hA : ∀ q, s.heap.size ≤ q → A q)
    (hrec : wc[q0]? = some (b, .inr (ci, fs))) (hci : kCl[ci]? = some (C, T, N)) (hn : As.length = n) (hl : ls.size = nL) (hst : st = As.reverse ++ .ref b :: rest) (hw : (rest.map fun v => v.category).sum ≤ 8) (hdg : decode cc pc = .ok (.invokevirtual index, 3)) (hf : cells ≤ R.cells ∧ slots ≤ R.slots)
    (kk : ∀ (r : Int32) (u : S) (H1 : Heap) (locs1 : List Loc), Ok (f r u) K0 → va_P D kCl (mk u ++ wr) H1 → va_D A (mk u ++ wr) → va_S A s.heap H1 locs1 → W p l e R s m args below meth c H1 locs1 cells slots Q (F0 m (pc + 3) ls (.int r :: rest))) :
    W p l e R s m args below meth c H locs cells slots Q (F0 m pc ls st) := by
  have hP' := kP_app.mp (kP_perm hp hP)
  have hD' := kD_app (kD_perm hp hD)
  exact kj_i (As := .ref b :: As) (mc := 0) (ms := 0) h (va_runV CF (hM (fun r u => Ok (f r u) K0) h.bnd2) cw (k_preVY hY hZ hS (k_free hp hD hS hA) hK hP'.1 hD'.1 hrec hci) rfl hn hl hst (lv_room hw) hdg hf) hp hP hD hS hA kk
theorem ky_vV {o : Option S} {f : S → Option γ} (h : Ok (bnd o f) K0) (CF : CallFix p m c cc nL s args Ts own)
    (hM : ∀ K : S → Prop, Ok o K → Met l y wy rm (va_Pc (.ref b :: As) (kPreY D cy za zv Y H.size wc)) (va_Qv K (fun u => kPost D (va_A wc H.size) (mk u)) (va_A wc H.size)) 0 0 (va_A wc H.size))
    (cw : CallW R s args own C index y bytes maxL ret wy rm 0 0 n) (hY : mY Y A s s.heap) (hZ : mZ za zv A s s.heap) (hK : mK D cy s) (hp : ws.Perm (wc ++ wr)) (hP : va_P D kCl ws H) (hD : va_D A ws) (hS : va_S A s.heap H locs) (hA : ∀ q, s.heap.size ≤ q → A q)
    (hrec : wc[q0]? = some (b, .inr (ci, fs))) (hci : kCl[ci]? = some (C, T, N)) (hn : As.length = n) (hl : ls.size = nL) (hst : st = As.reverse ++ .ref b :: rest) (hw : (rest.map fun v => v.category).sum ≤ 8) (hdg : decode cc pc = .ok (.invokevirtual index, 3)) (hf : cells ≤ R.cells ∧ slots ≤ R.slots)
    (kk : ∀ (u : S) (H1 : Heap) (locs1 : List Loc), Ok (f u) K0 → va_P D kCl (mk u ++ wr) H1 → va_D A (mk u ++ wr) → va_S A s.heap H1 locs1 → W p l e R s m args below meth c H1 locs1 cells slots Q (F0 m (pc + 3) ls rest)) :
    W p l e R s m args below meth c H locs cells slots Q (F0 m pc ls st) := by
  have hP' := kP_app.mp (kP_perm hp hP)
  have hD' := kD_app (kD_perm hp hD)
  exact kj_v (As := .ref b :: As) (mc := 0) (ms := 0) h (va_runV CF (hM (fun u => Ok (f u) K0) h.bnd) cw (k_preVY hY hZ hS (k_free hp hD hS hA) hK hP'.1 hD'.1 hrec hci) rfl hn hl hst (lv_room hw) hdg hf) hp hP hD hS hA kk
theorem ky_rV {o : Option Int32} {f : Int32 → Option γ} (h : Ok (bnd o f) K0) (CF : CallFix p m c cc nL s args Ts own)
    (hM : ∀ K : Int32 → Prop, Ok o K → Met l y wy rm (va_Pc (.ref b :: As) (kPreY D cy za zv Y H.size wc)) (va_Qi (fun r (_ : Unit) => K r) (fun _ => kPost D (va_A wc H.size) wc) (va_A wc H.size)) 0 0 (va_A wc H.size))
    (cw : CallW R s args own C index y bytes maxL ret wy rm 0 0 n) (hY : mY Y A s s.heap) (hZ : mZ za zv A s s.heap) (hK : mK D cy s) (hp : ws.Perm (wc ++ wr)) (hP : va_P D kCl ws H) (hD : va_D A ws) (hS : va_S A s.heap H locs) (hA : ∀ q, s.heap.size ≤ q → A q)
    (hrec : wc[q0]? = some (b, .inr (ci, fs))) (hci : kCl[ci]? = some (C, T, N)) (hn : As.length = n) (hl : ls.size = nL) (hst : st = As.reverse ++ .ref b :: rest) (hw : (rest.map fun v => v.category).sum ≤ 8) (hdg : decode cc pc = .ok (.invokevirtual index, 3)) (hf : cells ≤ R.cells ∧ slots ≤ R.slots)
    (kk : ∀ (r : Int32) (H1 : Heap) (locs1 : List Loc), Ok (f r) K0 → va_P D kCl ws H1 → va_S A s.heap H1 locs1 → W p l e R s m args below meth c H1 locs1 cells slots Q (F0 m (pc + 3) ls (.int r :: rest))) :
    W p l e R s m args below meth c H locs cells slots Q (F0 m pc ls st) := by
  have hP' := kP_app.mp (kP_perm hp hP)
  have hD' := kD_app (kD_perm hp hD)
  exact kj_r (As := .ref b :: As) h (va_runV CF (hM (fun r => Ok (f r) K0) h.bnd) cw (k_preVY hY hZ hS (k_free hp hD hS hA) hK hP'.1 hD'.1 hrec hci) rfl hn hl hst (lv_room hw) hdg hf) hp hP hD hS hA kk
/-- .. over the whole of the world at hand -/
theorem ky_iV0 {o : Option (Int32 × S)} {f : Int32 → S → Option γ} (h : Ok (bnd2 o f) K0) (CF : CallFix p m c cc nL s args Ts own)
    (hM : ∀ K : Int32 → S → Prop, Ok o (fun q => K q.1 q.2) → Met l y wy rm (va_Pc (.ref b :: As) (kPreY D cy za zv Y H.size wc)) (va_Qi K (fun u => kPost D (va_A wc H.size) (mk u)) (va_A wc H.size)) 0 0 (va_A wc H.size))
    (cw : CallW R s args own C index y bytes maxL ret wy rm 0 0 n) (hY : mY Y A s s.heap) (hZ : mZ za zv A s s.heap) (hK : mK D cy s) (hP : va_P D kCl wc H) (hD : va_D A wc) (hS : va_S A s.heap H locs) (hA : ∀ q, s.heap.size ≤ q → A q)
    (hrec : wc[q0]? = some (b, .inr (ci, fs))) (hci : kCl[ci]? = some (C, T, N)) (hn : As.length = n) (hl : ls.size = nL) (hst : st = As.reverse ++ .ref b :: rest) (hw : (rest.map fun v => v.category).sum ≤ 8) (hdg : decode cc pc = .ok (.invokevirtual index, 3)) (hf : cells ≤ R.cells ∧ slots ≤ R.slots)
    (kk : ∀ (r : Int32) (u : S) (H1 : Heap) (locs1 : List Loc), Ok (f r u) K0 → va_P D kCl (mk u) H1 → va_D A (mk u) → va_S A s.heap H1 locs1 → W p l e R s m args below meth c H1 locs1 cells slots Q (F0 m (pc + 3) ls (.int r :: rest))) :
    W p l e R s m args below meth c H locs cells slots Q (F0 m pc ls st) :=
  ky_iV (wr := []) h CF hM cw hY hZ hK (by rw [List.append_nil]) hP hD hS hA hrec hci hn hl hst hw hdg hf (fun r u H1 locs1 h1 h2 h3 h4 => kk r u H1 locs1 h1 (by rw [List.append_nil] at h2; exact h2) (by rw [List.append_nil] at h3; exact h3) h4)
theorem ky_vV0 {o : Option S} {f : S → Option γ} (h : Ok (bnd o f) K0) (CF : CallFix p m c cc nL s args Ts own)
    (hM : ∀ K : S → Prop, Ok o K → Met l y wy rm (va_Pc (.ref b :: As) (kPreY D cy za zv Y H.size wc)) (va_Qv K (fun u => kPost D (va_A wc H.size) (mk u)) (va_A wc H.size)) 0 0 (va_A wc H.size))
    (cw : CallW R s args own C index y bytes maxL ret wy rm 0 0 n) (hY : mY Y A s s.heap) (hZ : mZ za zv A s s.heap) (hK : mK D cy s) (hP : va_P D kCl wc H) (hD : va_D A wc) (hS : va_S A s.heap H locs) (hA : ∀ q, s.heap.size ≤ q → A q)
    (hrec : wc[q0]? = some (b, .inr (ci, fs))) (hci : kCl[ci]? = some (C, T, N)) (hn : As.length = n) (hl : ls.size = nL) (hst : st = As.reverse ++ .ref b :: rest) (hw : (rest.map fun v => v.category).sum ≤ 8) (hdg : decode cc pc = .ok (.invokevirtual index, 3)) (hf : cells ≤ R.cells ∧ slots ≤ R.slots)
    (kk : ∀ (u : S) (H1 : Heap) (locs1 : List Loc), Ok (f u) K0 → va_P D kCl (mk u) H1 → va_D A (mk u) → va_S A s.heap H1 locs1 → W p l e R s m args below meth c H1 locs1 cells slots Q (F0 m (pc + 3) ls rest)) :
    W p l e R s m args below meth c H locs cells slots Q (F0 m pc ls st) :=
  ky_vV (wr := []) h CF hM cw hY hZ hK (by rw [List.append_nil]) hP hD hS hA hrec hci hn hl hst hw hdg hf (fun u H1 locs1 h1 h2 h3 h4 => kk u H1 locs1 h1 (by rw [List.append_nil] at h2; exact h2) (by rw [List.append_nil] at h3; exact h3) h4)
theorem ky_rV0 {o : Option Int32} {f : Int32 → Option γ} (h : Ok (bnd o f) K0) (CF : CallFix p m c cc nL s args Ts own)
    (hM : ∀ K : Int32 → Prop, Ok o K → Met l y wy rm (va_Pc (.ref b :: As) (kPreY D cy za zv Y H.size wc)) (va_Qi (fun r (_ : Unit) => K r) (fun _ => kPost D (va_A wc H.size) wc) (va_A wc H.size)) 0 0 (va_A wc H.size))
    (cw : CallW R s args own C index y bytes maxL ret wy rm 0 0 n) (hY : mY Y A s s.heap) (hZ : mZ za zv A s s.heap) (hK : mK D cy s) (hP : va_P D kCl wc H) (hD : va_D A wc) (hS : va_S A s.heap H locs) (hA : ∀ q, s.heap.size ≤ q → A q)
    (hrec : wc[q0]? = some (b, .inr (ci, fs))) (hci : kCl[ci]? = some (C, T, N)) (hn : As.length = n) (hl : ls.size = nL) (hst : st = As.reverse ++ .ref b :: rest) (hw : (rest.map fun v => v.category).sum ≤ 8) (hdg : decode cc pc = .ok (.invokevirtual index, 3)) (hf : cells ≤ R.cells ∧ slots ≤ R.slots)
    (kk : ∀ (r : Int32) (H1 : Heap) (locs1 : List Loc), Ok (f r) K0 → va_P D kCl wc H1 → va_S A s.heap H1 locs1 → W p l e R s m args below meth c H1 locs1 cells slots Q (F0 m (pc + 3) ls (.int r :: rest))) :
    W p l e R s m args below meth c H locs cells slots Q (F0 m pc ls st) :=
  ky_rV (wr := []) h CF hM cw hY hZ hK (by rw [List.append_nil]) hP hD hS hA hrec hci hn hl hst hw hdg hf kk
/-- a static method of the class itself that reads alone -/
theorem ky_rS {o : Option Int32} {f : Int32 → Option γ} (h : Ok (bnd o f) K0) (CF : CallFix p m c cc nL s args Ts own)
    (hM : ∀ K : Int32 → Prop, Ok o K → Met l y wy rm (va_Pc As (kPreY D cy za zv Y H.size wc)) (va_Qi (fun r (_ : Unit) => K r) (fun _ => kPost D (va_A wc H.size) wc) (va_A wc H.size)) 0 0 (va_A wc H.size))
    (cw : CallB R s args own index y bytes maxL ret wy rm 0 0 n ∧ (Cond.static y).before args s = true) (hY : mY Y A s s.heap) (hZ : mZ za zv A s s.heap) (hK : mK D cy s) (hp : ws.Perm (wc ++ wr)) (hP : va_P D kCl ws H) (hD : va_D A ws) (hS : va_S A s.heap H locs) (hA : ∀ q, s.heap.size ≤ q → A q)
    (hn : As.length = n) (hl : ls.size = nL) (hst : st = As.reverse ++ rest) (hw : (rest.map fun v => v.category).sum ≤ 8) (hdg : decode cc pc = .ok (.invokestatic index, 3)) (hf : cells ≤ R.cells ∧ slots ≤ R.slots)
    (kk : ∀ (r : Int32) (H1 : Heap) (locs1 : List Loc), Ok (f r) K0 → va_P D kCl ws H1 → va_S A s.heap H1 locs1 → W p l e R s m args below meth c H1 locs1 cells slots Q (F0 m (pc + 3) ls (.int r :: rest))) :
    W p l e R s m args below meth c H locs cells slots Q (F0 m pc ls st) := by
  have hP' := kP_app.mp (kP_perm hp hP)
  have hD' := kD_app (kD_perm hp hD)
  exact kj_r (As := As) h (va_runS CF (hM (fun r => Ok (f r) K0) h.bnd) cw (k_preSY hY hZ hS (k_free hp hD hS hA) hK hP'.1 hD'.1) rfl hn hl hst (lv_room hw) hdg hf) hp hP hD hS hA kk
/-- .. of a nest mate -/
theorem ky_rSN {o : Option Int32} {f : Int32 → Option γ} (h : Ok (bnd o f) K0) (CF : CallFix p m c cc nL s args Ts own)
    (hM : ∀ K : Int32 → Prop, Ok o K → Met l y wy rm (va_Pc As (kPreY D cy za zv Y H.size wc)) (va_Qi (fun r (_ : Unit) => K r) (fun _ => kPost D (va_A wc H.size) wc) (va_A wc H.size)) 0 0 (va_A wc H.size))
    (cw : va_CN R s args own index y host bytes maxL ret wy rm 0 0 n ∧ (Cond.static y).before args s = true ∧ True) (hY : mY Y A s s.heap) (hZ : mZ za zv A s s.heap) (hK : mK D cy s) (hp : ws.Perm (wc ++ wr)) (hP : va_P D kCl ws H) (hD : va_D A ws) (hS : va_S A s.heap H locs) (hA : ∀ q, s.heap.size ≤ q → A q)
    (hn : As.length = n) (hl : ls.size = nL) (hst : st = As.reverse ++ rest) (hw : (rest.map fun v => v.category).sum ≤ 8) (hdg : decode cc pc = .ok (.invokestatic index, 3)) (hf : cells ≤ R.cells ∧ slots ≤ R.slots)
    (kk : ∀ (r : Int32) (H1 : Heap) (locs1 : List Loc), Ok (f r) K0 → va_P D kCl ws H1 → va_S A s.heap H1 locs1 → W p l e R s m args below meth c H1 locs1 cells slots Q (F0 m (pc + 3) ls (.int r :: rest))) :
    W p l e R s m args below meth c H locs cells slots Q (F0 m pc ls st) := by
  have hP' := kP_app.mp (kP_perm hp hP)
  have hD' := kD_app (kD_perm hp hD)
  exact kj_r (As := As) h (va_runSN CF (hM (fun r => Ok (f r) K0) h.bnd) cw (k_preSY hY hZ hS (k_free hp hD hS hA) hK hP'.1 hD'.1) rfl hn hl hst (lv_room hw) hdg hf) hp hP hD hS hA kk
theorem kh_rS {hx9 : List (Nat × Nat × Nat × Nat)} {o : Option Int32} {f : Int32 → Option γ} (h : Ok (bnd o f) K0) (CF : CallFix p m c cc nL s args Ts own)
    (hM : ∀ K : Int32 → Prop, Ok o K → vx_Met l y wy rm (va_Pc As (kPre D cy H.size wc)) (va_Qi (fun r (_ : Unit) => K r) (fun _ => kPost D (va_A wc H.size) wc) (va_A wc H.size)) (XF (va_A wc H.size)) 0 0 (va_A wc H.size))
    (cw : vx_CSW R s args own index y bytes maxL ret hx9 wy rm 0 0 n) (hK : mK D cy s) (hp : ws.Perm (wc ++ wr)) (hP : va_P D kCl ws H) (hD : va_D A ws) (hS : va_S A s.heap H locs) (hA : ∀ q, s.heap.size ≤ q → A q)
    (hn : As.length = n) (hl : ls.size = nL) (hst : st = As.reverse ++ rest) (hw : (rest.map fun v => v.category).sum ≤ 8) (hdg : decode cc pc = .ok (.invokestatic index, 3)) (hf : cells ≤ R.cells ∧ slots ≤ R.slots)
    (kk : ∀ (r : Int32) (H1 : Heap) (locs1 : List Loc), Ok (f r) K0 → va_P D kCl ws H1 → va_S A s.heap H1 locs1 → W p l e R s m args below meth c H1 locs1 cells slots Q (F0 m (pc + 3) ls (.int r :: rest))) :
    W p l e R s m args below meth c H locs cells slots Q (F0 m pc ls st) := by
  have hP' := kP_app.mp (kP_perm hp hP)
  have hD' := kD_app (kD_perm hp hD)
  have hF := k_free hp hD hS hA
  refine vx_calli (vx_runSX CF (hM (fun r => Ok (f r) K0) h.bnd) cw (k_preS hK hP'.1 hD'.1) rfl hn hl hst (lv_room hw) hdg hf) hS (fun q _ h => hF q h) hF (fun q _ h => hF q h) (fun E ce q9 u t H1 locs1 ht hvm hu hB hz1 hk1 hS1 hce hcv hcl => hu.elim) (fun r u t H1 locs1 ht hvm hw1 hB hz1 hk1 hS1 => ?_)
  obtain ⟨hP1, hD1⟩ := hB
  rw [ht] at hP1
  obtain ⟨hP2, -⟩ := k_join hp hP hD hk1 hF hP1 hD1
  exact kk r H1 locs1 hw1 (kP_perm hp.symm hP2) hS1
theorem kh_iS {hx9 : List (Nat × Nat × Nat × Nat)} {o : Option (Int32 × S)} {f : Int32 → S → Option γ} (h : Ok (bnd2 o f) K0) (CF : CallFix p m c cc nL s args Ts own)
    (hM : ∀ K : Int32 → S → Prop, Ok o (fun q => K q.1 q.2) → vx_Met l y wy rm (va_Pc As (kPre D cy H.size wc)) (va_Qi K (fun u => kPost D (va_A wc H.size) (mk u)) (va_A wc H.size)) (XF (va_A wc H.size)) 0 0 (va_A wc H.size))
    (cw : vx_CSW R s args own index y bytes maxL ret hx9 wy rm 0 0 n) (hK : mK D cy s) (hp : ws.Perm (wc ++ wr)) (hP : va_P D kCl ws H) (hD : va_D A ws) (hS : va_S A s.heap H locs) (hA : ∀ q, s.heap.size ≤ q → A q)
    (hn : As.length = n) (hl : ls.size = nL) (hst : st = As.reverse ++ rest) (hw : (rest.map fun v => v.category).sum ≤ 8) (hdg : decode cc pc = .ok (.invokestatic index, 3)) (hf : cells ≤ R.cells ∧ slots ≤ R.slots)
    (kk : ∀ (r : Int32) (u : S) (H1 : Heap) (locs1 : List Loc), Ok (f r u) K0 → va_P D kCl (mk u ++ wr) H1 → va_D A (mk u ++ wr) → va_S A s.heap H1 locs1 → W p l e R s m args below meth c H1 locs1 cells slots Q (F0 m (pc + 3) ls (.int r :: rest))) :
    W p l e R s m args below meth c H locs cells slots Q (F0 m pc ls st) := by
  have hP' := kP_app.mp (kP_perm hp hP)
  have hD' := kD_app (kD_perm hp hD)
  have hF := k_free hp hD hS hA
  refine vx_calli (vx_runSX CF (hM (fun r u => Ok (f r u) K0) h.bnd2) cw (k_preS hK hP'.1 hD'.1) rfl hn hl hst (lv_room hw) hdg hf) hS (fun q _ h => hF q h) hF (fun q _ h => hF q h) (fun E ce q9 u t H1 locs1 ht hvm hu hB hz1 hk1 hS1 hce hcv hcl => hu.elim) (fun r u t H1 locs1 ht hvm hw1 hB hz1 hk1 hS1 => ?_)
  obtain ⟨hP1, hD1⟩ := hB
  rw [ht] at hP1
  obtain ⟨hP2, hD2⟩ := k_join hp hP hD hk1 hF hP1 hD1
  exact kk r u H1 locs1 hw1 hP2 hD2 hS1
/-- a call that answers a float -/
theorem kc_fV {o : Option UInt32} {f : UInt32 → Option γ} (h : Ok (bnd o f) K0) (CF : CallFix p m c cc nL s args Ts own)
    (hM : ∀ K : UInt32 → Prop, Ok o K → Met l y wy rm (va_Pc (.ref b :: As) (kPre D cy H.size wc)) (va_Qf (fun r (_ : Unit) => K r) (fun _ => kPost D (va_A wc H.size) wc) (va_A wc H.size)) 0 0 (va_A wc H.size))
    (cw : CallW R s args own C index y bytes maxL ret wy rm 0 0 n) (hK : mK D cy s) (hp : ws.Perm (wc ++ wr)) (hP : va_P D kCl ws H) (hD : va_D A ws) (hS : va_S A s.heap H locs) (hA : ∀ q, s.heap.size ≤ q → A q)
    (hrec : wc[q0]? = some (b, .inr (ci, fs))) (hci : kCl[ci]? = some (C, T, N)) (hn : As.length = n) (hl : ls.size = nL) (hst : st = As.reverse ++ .ref b :: rest) (hw : (rest.map fun v => v.category).sum ≤ 8) (hdg : decode cc pc = .ok (.invokevirtual index, 3)) (hf : cells ≤ R.cells ∧ slots ≤ R.slots)
    (kk : ∀ (r : UInt32) (H1 : Heap) (locs1 : List Loc), Ok (f r) K0 → va_P D kCl ws H1 → va_S A s.heap H1 locs1 → W p l e R s m args below meth c H1 locs1 cells slots Q (F0 m (pc + 3) ls (.float r :: rest))) :
    W p l e R s m args below meth c H locs cells slots Q (F0 m pc ls st) := by
  have hP' := kP_app.mp (kP_perm hp hP)
  have hD' := kD_app (kD_perm hp hD)
  have hF := k_free hp hD hS hA
  refine va_callf (va_runV CF (hM (fun r => Ok (f r) K0) h.bnd) cw (k_preV hK hP'.1 hD'.1 hrec hci) rfl hn hl hst (lv_room hw) hdg hf) hS (fun q _ h => hF q h) hF (fun r u t H1 locs1 ht hvm hw1 hB hz1 hk1 hS1 => ?_)
  obtain ⟨hP1, hD1⟩ := hB
  rw [ht] at hP1
  obtain ⟨hP2, -⟩ := k_join hp hP hD hk1 hF hP1 hD1
  exact kk r H1 locs1 hw1 (kP_perm hp.symm hP2) hS1
theorem kh_ret {K : Int32 → S → Prop} {XC : String → State → State → Prop} {v : Int32} {u : S} (hx : p.tables.exec = Jvm.exec) (hb : c.code = cc) (hr : meth.sig.returnType = some .int) (hlocks : meth.locks = false) (hP : va_P D kCl (mk u) H) (hD : va_D A (mk u)) (hS : va_S A s.heap H locs) (h : K v u) (hdg : decode cc pc = .ok (.ireturn, 1)) :
    W p l e R s m args below meth c H locs 0 0 (vx_MQ below (va_Qi K (fun q => kPost D A (mk q)) A) XC args s 0 0 A) (F0 m pc ls [.int v]) :=
  vx_ret (W.iret hx hb hr (fun t ht hW => ⟨⟨v, u, rfl, h, by rw [ht]; exact hP, hD⟩, hS.F ht⟩) hS.2.2 hdg hlocks)
theorem kret_f {K : UInt32 → Prop} {v : UInt32} (hx : p.tables.exec = Jvm.exec) (hb : c.code = cc) (hr : meth.sig.returnType = some .float) (hlocks : meth.locks = false) (hP : va_P D kCl ws H) (hD : va_D A ws) (hS : va_S A s.heap H locs) (h : Ok (some v) K) (hdg : decode cc pc = .ok (.freturn, 1)) :
    kW p l e R s m args below meth c H locs (va_Qf (fun r (_ : Unit) => K r) (fun _ => kPost D A ws) A) A pc ls [.float v] :=
  W.fret hx hb hr (fun t ht hW => ⟨⟨v, (), rfl, h.ret, by rw [ht]; exact hP, hD⟩, hS.F ht⟩) hS.2.2 hdg hlocks
end KH
/-- the law's object -/
def lwN (u : Int32) : Int32 := u
def lwNs (_ x : Int32) : Int32 := x
abbrev lwFs (ax sA lb : Nat) (nx : Int32) : List Value := [.ref ax, .ref sA, .int nx, .ref lb]
theorem fz_n32 {x : UInt32} (h : decide (x &&& 0x7fffffff ≤ 0x7f800000) = true) : vf_n32 x := by
  have h9 : x &&& 0x7fffffff ≤ 0x7f800000 := of_decide_eq_true h
  exact h9
abbrev lwW (hL ax sA lb : Nat) (nx : Int32) : va_W := [(hL, .inr (4, [.ref ax, .ref sA, .int nx, .ref lb]))]

theorem inX9_fullness_X9 : ∀ w ∈ u_ws RX9 TX9 9, w ∈ wsX9_fullness := k_lays 4 rfl
theorem lkX9_fullness_10 : Cond.fieldLink RX9 10 "FerryRamp" "now" "LFerryRamp$State;" ∈ wsX9_fullness := List.mem_of_getElem? (i := 1) rfl
theorem inX9_fullness_X8 : ∀ w ∈ u_ws RX8 TX8 13, w ∈ wsX9_fullness := k_lays 13 rfl
theorem lkX9_fullness_116 : Cond.fieldLink RX9 116 "FerryRamp$State" "settings" "[I" ∈ wsX9_fullness := List.mem_of_getElem? (i := 2) rfl
theorem lkX9_fullness_87 : Cond.fieldLink RX9 87 "FerryRamp$State" "counts" "[I" ∈ wsX9_fullness := List.mem_of_getElem? (i := 3) rfl
abbrev rmX9_fullness : Room := { frames := 0, cells := 0, slots := 0, locals := 0 }
def fX9_fullness_b0 (u : FS) : Option (UInt32) :=
  (if 1 ≤ (sT (fN u) 7) then grd (decide ((FP.fdiv (FP.i2f (sC (fN u) 7)) (FP.i2f (sT (fN u) 7))) &&& 0x7fffffff ≤ 0x7f800000)) (some (FP.fdiv (FP.i2f (sC (fN u) 7)) (FP.i2f (sT (fN u) 7)))) else some FP.fconst0)
set_option maxHeartbeats 4000000 in
set_option maxRecDepth 100000 in
theorem tX9_fullness_b0 {p : Program} {l : Launch} {e : Env} {s : State} {m : MethodId} {args : Array Value} {below : List Frame} {meth : Method} {c : Code} {D : va_G} {cy : Nat → ClassId} {A : Nat → Prop} {ad : Nat → Nat} {hh : Nat → Nat} {aa : Nat → Nat → Nat} {pa : Nat → Nat} (K : UInt32 → Prop) (E : mE D cy RX9 cX9_fullness 2 (some .float) wsX9_fullness A p s m args meth c) (u : FS)
     (H : Heap) (locs : List Loc) (ls : Array Slot) (hl : lv_has ls 2 [(0, .ref (ad 0))]) (hP : va_P D kCl (wF cy ad hh aa pa u) H) (hD : va_D A (wF cy ad hh aa pa u)) (hS : va_S A s.heap H locs) (h1 : Ok (fX9_fullness_b0 u) K) :
    kW p l e rmX9_fullness s m args below meth c H locs (va_Qf (fun r (_ : Unit) => K r) (fun _ => kPost D A (wF cy ad hh aa pa u)) A) A 0 ls [] := by
  obtain ⟨hx, hb, hr, hml, hown, hts, hlocks, hK, hA⟩ := id E
  unfold fX9_fullness_b0 at h1
  refine lv_aload_n hx hb dX9_fullness_0 rfl (lv_at hl 0 rfl) ?_
  refine k_get (v := .ref (hh 0)) (C := RX9) (T := TX9) (N := 9) hx hb hts inX9_fullness_X9 hown hK hP 0 (wF_c0 _ _ _ _ _ _) rfl 0 (by decide) lkX9_fullness_10 (fFs_0 _ _ _ _) dX9_fullness_1 ?_
  refine k_get (v := .ref ((aa 0) 1)) (C := RX8) (T := TX8) (N := 13) hx hb hts inX9_fullness_X8 hown hK hP 5 (wF_c5 _ _ _ _ _ _) rfl 1 (by decide) lkX9_fullness_116 (sFs_1 _ _) dX9_fullness_4 ?_
  refine lv_bipush (v := 7) hx hb dX9_fullness_7 rfl ?_
  refine k_iald (k := 7) hx hb hK hP 7 (wF_c7 _ _ _ _ _ _) rfl rfl dX9_fullness_9 ?_
  refine lv_istore_n (lv' := [(1, .int (sT (fN u) 7)), (0, .ref (ad 0))]) hx hb dX9_fullness_10 rfl hl (by decide) rfl (fun ls hl => ?_)
  refine lv_iload_n hx hb dX9_fullness_11 rfl (lv_at hl 0 rfl) ?_
  refine lv_iconst (v := 1) hx hb dX9_fullness_12 rfl ?_
  refine lv_icmp_ge (tgt := 20) hx hb dX9_fullness_13 (by decide) (fun c13 => ?_) (fun c13 => ?_)
  · replace h1 := Ok.pos c13 h1
    refine lv_aload_n hx hb dX9_fullness_20 rfl (lv_at hl 1 rfl) ?_
    refine k_get (v := .ref (hh 0)) (C := RX9) (T := TX9) (N := 9) hx hb hts inX9_fullness_X9 hown hK hP 0 (wF_c0 _ _ _ _ _ _) rfl 0 (by decide) lkX9_fullness_10 (fFs_0 _ _ _ _) dX9_fullness_21 ?_
    refine k_get (v := .ref ((aa 0) 0)) (C := RX8) (T := TX8) (N := 13) hx hb hts inX9_fullness_X8 hown hK hP 5 (wF_c5 _ _ _ _ _ _) rfl 0 (by decide) lkX9_fullness_87 (sFs_0 _ _) dX9_fullness_24 ?_
    refine lv_bipush (v := 7) hx hb dX9_fullness_27 rfl ?_
    refine k_iald (k := 7) hx hb hK hP 6 (wF_c6 _ _ _ _ _ _) rfl rfl dX9_fullness_29 ?_
    refine lv_i2f hx hb dX9_fullness_30 ?_
    refine lv_iload_n hx hb dX9_fullness_31 rfl (lv_at hl 0 rfl) ?_
    refine lv_i2f hx hb dX9_fullness_32 ?_
    have g33 := h1.grd1
    replace h1 := h1.grd2
    refine lv_fdiv hx hb dX9_fullness_33 (fz_n32 g33) ?_
    exact kret_f hx hb hr hlocks hP hD hS h1 dX9_fullness_34
  · replace h1 := Ok.neg c13 h1
    refine lv_fconst0 hx hb dX9_fullness_16 ?_
    refine lv_goto (tgt := 34) hx hb dX9_fullness_17 (by decide) ?_
    exact kret_f hx hb hr hlocks hP hD hS h1 dX9_fullness_34
def fX9_fullness (u : FS) : Option (UInt32) := fX9_fullness_b0 u
set_option maxHeartbeats 4000000 in
set_option maxRecDepth 100000 in
theorem cX9_fullnessM (l : Launch) (D : va_G) (cy : Nat → ClassId) (ad : Nat → Nat) (hh : Nat → Nat) (aa : Nat → Nat → Nat) (pa : Nat → Nat) (sz : Nat) (u : FS) : ∀ (K : UInt32 → Prop), Ok (fX9_fullness u) K → Met l yX9_fullness wsX9_fullness rmX9_fullness (va_Pc [.ref (ad 0)] (kPre D cy sz (wF cy ad hh aa pa u))) (va_Qf (fun r (_ : Unit) => K r) (fun _ => kPost D (va_A (wF cy ad hh aa pa u) sz) (wF cy ad hh aa pa u)) (va_A (wF cy ad hh aa pa u) sz)) 0 0 (va_A (wF cy ad hh aa pa u) sz) := by
  intro K h1
  refine Met.ofW (cc := cX9_fullness) (maxL := 2) (ret := (some .float)) (by decide) rfl ?_
  intro p e s m args below meth c s₁ B hml hv
  obtain ⟨rfl, hsz, hP, hK, hD0⟩ := hv
  subst hsz
  have E : mE D cy RX9 cX9_fullness 2 (some .float) wsX9_fullness (va_A (wF cy ad hh aa pa u) s.heap.size) p s m _ meth c := ⟨B.exec, B.bytes, B.returns, hml, findClass_of_methodNamed B.named, atoms_spec (ws := wsX9_fullness) B.pre, B.notSynchronized, hK, fun q h => Or.inr h⟩
  have hl := lv_entry ([.ref (ad 0)]) (n := 2) (Nat.le_of_ble_eq_true rfl)
  rw [lg_entry_eq]
  generalize (lg_sl ([.ref (ad 0)]) ++ List.replicate (2 - (lg_sl ([.ref (ad 0)])).length) Slot.unset).toArray = ls at hl ⊢
  exact tX9_fullness_b0 K E u _ _ _ hl hP hD0.self va_S.rf h1
theorem hdX9_count : yX9_count.cls = RX9 ∧ yX9_count.cls ≠ "java/lang/invoke/MethodHandle" ∧ yX9_count.cls ≠ "java/lang/invoke/VarHandle" ∧ (parseMethodDescriptor yX9_count.desc).map (fun d => d.parameters.length) = some 1 := by decide +kernel
abbrev rmL_count : Room := { frames := 1, cells := 0, slots := 0, locals := 21 }
def fL_count (p1 : Int32) (u : FS) : Option (Int32) := hX9_count p1 u
set_option maxHeartbeats 4000000 in
set_option maxRecDepth 100000 in
theorem cL_countM (l : Launch) (D : va_G) (cy : Nat → ClassId) (ad hh : Nat → Nat) (aa : Nat → Nat → Nat) (pa : Nat → Nat) (sz : Nat) (u : FS) (p1 : Int32) : ∀ (K : Int32 → Prop), Ok (fL_count p1 u) K → vx_Met l yL_count wsL_count rmL_count (va_Pc [.ref (ad 0), .int p1] (kPre D cy sz (wF cy ad hh aa pa u))) (va_Qi (fun r (_ : Unit) => K r) (fun _ => kPost D (va_A (wF cy ad hh aa pa u) sz) (wF cy ad hh aa pa u)) (va_A (wF cy ad hh aa pa u) sz)) (XF (va_A (wF cy ad hh aa pa u) sz)) 0 0 (va_A (wF cy ad hh aa pa u) sz) := by
  intro K h1
  refine vx_ofWH (cc := cL_count) (maxL := 3) (ret := some .int) (hh := [(0, 5, 6, 50)]) (by decide) rfl ?_
  intro p e s m args below meth c s₁ B hml hv
  obtain ⟨rfl, hsz, hP, hK, hD0⟩ := hv
  subst hsz
  have hts := atoms_spec (ws := wsL_count) B.pre
  have hx := B.exec
  have hb := B.bytes
  have hr := B.returns
  have hown : s.vm.findClass RL = some m.cls := findClass_of_methodNamed B.named
  have hlocks := B.notSynchronized
  have hD := hD0.self (sz := s.heap.size)
  have hA : ∀ q, s.heap.size ≤ q → va_A (wF cy ad hh aa pa u) s.heap.size q := fun q h => Or.inr h
  generalize va_A (wF cy ad hh aa pa u) s.heap.size = A at hD hA ⊢
  have hS : va_S A s.heap s.heap [] := va_S.rf
  have hl := lv_entry ([.ref (ad 0), .int p1]) (n := 3) (Nat.le_of_ble_eq_true rfl)
  rw [lg_entry_eq]
  generalize (lg_sl ([.ref (ad 0), .int p1]) ++ List.replicate (3 - (lg_sl ([.ref (ad 0), .int p1])).length) Slot.unset).toArray = ls at hl ⊢
  have hl : lv_has ls 3 [(0, .ref (ad 0)), (1, .int p1)] := hl
  refine lv_aload_n hx hb dL_count_0 rfl (lv_at hl 0 rfl) ?_
  refine lv_iload_n hx hb dL_count_1 rfl (lv_at hl 1 rfl) ?_
  have h9 : Ok (bnd (hX9_count p1 u) (fun r => some r)) K := by
    obtain ⟨a, e9, k9⟩ := h1
    exact ⟨a, (by rw [show hX9_count p1 u = some a from e9]; rfl), k9⟩
  refine kc_rV0 (b := (ad 0)) (As := [.int p1]) (rest := []) h9 ⟨hx, hb, hml, hown, hts⟩ (cX9_countM l D cy ad hh aa pa s.heap.size u p1) (cwV 1 hts gL_count_X9_count rfl rfl rfl hdX9_count ⟨Nat.le_of_ble_eq_true rfl, Nat.le_of_ble_eq_true rfl⟩) hK hP hD hS hA (q0 := 0) (wF_c0 _ _ _ _ _ _) rfl rfl hl.1 rfl (Nat.le_of_ble_eq_true rfl) dL_count_2 ⟨Nat.zero_le _, Nat.zero_le _⟩ (fun r H locs h9 hP hS => ?_)
  exact kh_ret (K := fun r (_ : Unit) => K r) (mk := fun _ => wF cy ad hh aa pa u) (u := ()) hx hb hr hlocks hP hD hS h9.ret dL_count_5
theorem hdX9_setting : yX9_setting.cls = RX9 ∧ yX9_setting.cls ≠ "java/lang/invoke/MethodHandle" ∧ yX9_setting.cls ≠ "java/lang/invoke/VarHandle" ∧ (parseMethodDescriptor yX9_setting.desc).map (fun d => d.parameters.length) = some 1 := by decide +kernel
abbrev rmL_setting : Room := { frames := 1, cells := 0, slots := 0, locals := 21 }
def fL_setting (p1 : Int32) (u : FS) : Option (Int32) := hX9_setting p1 u
set_option maxHeartbeats 4000000 in
set_option maxRecDepth 100000 in
theorem cL_settingM (l : Launch) (D : va_G) (cy : Nat → ClassId) (ad hh : Nat → Nat) (aa : Nat → Nat → Nat) (pa : Nat → Nat) (sz : Nat) (u : FS) (p1 : Int32) : ∀ (K : Int32 → Prop), Ok (fL_setting p1 u) K → vx_Met l yL_setting wsL_setting rmL_setting (va_Pc [.ref (ad 0), .int p1] (kPre D cy sz (wF cy ad hh aa pa u))) (va_Qi (fun r (_ : Unit) => K r) (fun _ => kPost D (va_A (wF cy ad hh aa pa u) sz) (wF cy ad hh aa pa u)) (va_A (wF cy ad hh aa pa u) sz)) (XF (va_A (wF cy ad hh aa pa u) sz)) 0 0 (va_A (wF cy ad hh aa pa u) sz) := by
  intro K h1
  refine vx_ofWH (cc := cL_setting) (maxL := 3) (ret := some .int) (hh := [(0, 5, 6, 50)]) (by decide) rfl ?_
  intro p e s m args below meth c s₁ B hml hv
  obtain ⟨rfl, hsz, hP, hK, hD0⟩ := hv
  subst hsz
  have hts := atoms_spec (ws := wsL_setting) B.pre
  have hx := B.exec
  have hb := B.bytes
  have hr := B.returns
  have hown : s.vm.findClass RL = some m.cls := findClass_of_methodNamed B.named
  have hlocks := B.notSynchronized
  have hD := hD0.self (sz := s.heap.size)
  have hA : ∀ q, s.heap.size ≤ q → va_A (wF cy ad hh aa pa u) s.heap.size q := fun q h => Or.inr h
  generalize va_A (wF cy ad hh aa pa u) s.heap.size = A at hD hA ⊢
  have hS : va_S A s.heap s.heap [] := va_S.rf
  have hl := lv_entry ([.ref (ad 0), .int p1]) (n := 3) (Nat.le_of_ble_eq_true rfl)
  rw [lg_entry_eq]
  generalize (lg_sl ([.ref (ad 0), .int p1]) ++ List.replicate (3 - (lg_sl ([.ref (ad 0), .int p1])).length) Slot.unset).toArray = ls at hl ⊢
  have hl : lv_has ls 3 [(0, .ref (ad 0)), (1, .int p1)] := hl
  refine lv_aload_n hx hb dL_setting_0 rfl (lv_at hl 0 rfl) ?_
  refine lv_iload_n hx hb dL_setting_1 rfl (lv_at hl 1 rfl) ?_
  have h9 : Ok (bnd (hX9_setting p1 u) (fun r => some r)) K := by
    obtain ⟨a, e9, k9⟩ := h1
    exact ⟨a, (by rw [show hX9_setting p1 u = some a from e9]; rfl), k9⟩
  refine kc_rV0 (b := (ad 0)) (As := [.int p1]) (rest := []) h9 ⟨hx, hb, hml, hown, hts⟩ (cX9_settingM l D cy ad hh aa pa s.heap.size u p1) (cwV 1 hts gL_setting_X9_setting rfl rfl rfl hdX9_setting ⟨Nat.le_of_ble_eq_true rfl, Nat.le_of_ble_eq_true rfl⟩) hK hP hD hS hA (q0 := 0) (wF_c0 _ _ _ _ _ _) rfl rfl hl.1 rfl (Nat.le_of_ble_eq_true rfl) dL_setting_2 ⟨Nat.zero_le _, Nat.zero_le _⟩ (fun r H locs h9 hP hS => ?_)
  exact kh_ret (K := fun r (_ : Unit) => K r) (mk := fun _ => wF cy ad hh aa pa u) (u := ()) hx hb hr hlocks hP hD hS h9.ret dL_setting_5
theorem hdX9_kind : yX9_kind.cls = RX9 ∧ yX9_kind.cls ≠ "java/lang/invoke/MethodHandle" ∧ yX9_kind.cls ≠ "java/lang/invoke/VarHandle" ∧ (parseMethodDescriptor yX9_kind.desc).map (fun d => d.parameters.length) = some 2 := by decide +kernel
abbrev rmL_kind : Room := { frames := 2, cells := 0, slots := 0, locals := 45 }
def fL_kind (p1 : Int32) (p2 : Int32) (u : FS) : Option (Int32) := hX9_kind p1 p2 u
set_option maxHeartbeats 4000000 in
set_option maxRecDepth 100000 in
theorem cL_kindM (l : Launch) (D : va_G) (cy : Nat → ClassId) (ad hh : Nat → Nat) (aa : Nat → Nat → Nat) (pa : Nat → Nat) (sz : Nat) (u : FS) (p1 : Int32) (p2 : Int32) : ∀ (K : Int32 → Prop), Ok (fL_kind p1 p2 u) K → vx_Met l yL_kind wsL_kind rmL_kind (va_Pc [.ref (ad 0), .int p1, .int p2] (kPre D cy sz (wF cy ad hh aa pa u))) (va_Qi (fun r (_ : Unit) => K r) (fun _ => kPost D (va_A (wF cy ad hh aa pa u) sz) (wF cy ad hh aa pa u)) (va_A (wF cy ad hh aa pa u) sz)) (XF (va_A (wF cy ad hh aa pa u) sz)) 0 0 (va_A (wF cy ad hh aa pa u) sz) := by
  intro K h1
  refine vx_ofWH (cc := cL_kind) (maxL := 4) (ret := some .int) (hh := [(0, 6, 7, 58), (0, 6, 11, 50)]) (by decide) rfl ?_
  intro p e s m args below meth c s₁ B hml hv
  obtain ⟨rfl, hsz, hP, hK, hD0⟩ := hv
  subst hsz
  have hts := atoms_spec (ws := wsL_kind) B.pre
  have hx := B.exec
  have hb := B.bytes
  have hr := B.returns
  have hown : s.vm.findClass RL = some m.cls := findClass_of_methodNamed B.named
  have hlocks := B.notSynchronized
  have hD := hD0.self (sz := s.heap.size)
  have hA : ∀ q, s.heap.size ≤ q → va_A (wF cy ad hh aa pa u) s.heap.size q := fun q h => Or.inr h
  generalize va_A (wF cy ad hh aa pa u) s.heap.size = A at hD hA ⊢
  have hS : va_S A s.heap s.heap [] := va_S.rf
  have hl := lv_entry ([.ref (ad 0), .int p1, .int p2]) (n := 4) (Nat.le_of_ble_eq_true rfl)
  rw [lg_entry_eq]
  generalize (lg_sl ([.ref (ad 0), .int p1, .int p2]) ++ List.replicate (4 - (lg_sl ([.ref (ad 0), .int p1, .int p2])).length) Slot.unset).toArray = ls at hl ⊢
  have hl : lv_has ls 4 [(0, .ref (ad 0)), (1, .int p1), (2, .int p2)] := hl
  refine lv_aload_n hx hb dL_kind_0 rfl (lv_at hl 0 rfl) ?_
  refine lv_iload_n hx hb dL_kind_1 rfl (lv_at hl 1 rfl) ?_
  refine lv_iload_n hx hb dL_kind_2 rfl (lv_at hl 2 rfl) ?_
  have h9 : Ok (bnd (hX9_kind p1 p2 u) (fun r => some r)) K := by
    obtain ⟨a, e9, k9⟩ := h1
    exact ⟨a, (by rw [show hX9_kind p1 p2 u = some a from e9]; rfl), k9⟩
  refine kc_rV0 (b := (ad 0)) (As := [.int p1, .int p2]) (rest := []) h9 ⟨hx, hb, hml, hown, hts⟩ (cX9_kindM l D cy ad hh aa pa s.heap.size u p1 p2) (cwV 2 hts gL_kind_X9_kind rfl rfl rfl hdX9_kind ⟨Nat.le_of_ble_eq_true rfl, Nat.le_of_ble_eq_true rfl⟩) hK hP hD hS hA (q0 := 0) (wF_c0 _ _ _ _ _ _) rfl rfl hl.1 rfl (Nat.le_of_ble_eq_true rfl) dL_kind_3 ⟨Nat.zero_le _, Nat.zero_le _⟩ (fun r H locs h9 hP hS => ?_)
  exact kh_ret (K := fun r (_ : Unit) => K r) (mk := fun _ => wF cy ad hh aa pa u) (u := ()) hx hb hr hlocks hP hD hS h9.ret dL_kind_6
theorem hdX9_car : yX9_car.cls = RX9 ∧ yX9_car.cls ≠ "java/lang/invoke/MethodHandle" ∧ yX9_car.cls ≠ "java/lang/invoke/VarHandle" ∧ (parseMethodDescriptor yX9_car.desc).map (fun d => d.parameters.length) = some 2 := by decide +kernel
abbrev rmL_car : Room := { frames := 2, cells := 0, slots := 0, locals := 45 }
def fL_car (p1 : Int32) (p2 : Int32) (u : FS) : Option (Int32) := hX9_car p1 p2 u
set_option maxHeartbeats 4000000 in
set_option maxRecDepth 100000 in
theorem cL_carM (l : Launch) (D : va_G) (cy : Nat → ClassId) (ad hh : Nat → Nat) (aa : Nat → Nat → Nat) (pa : Nat → Nat) (sz : Nat) (u : FS) (p1 : Int32) (p2 : Int32) : ∀ (K : Int32 → Prop), Ok (fL_car p1 p2 u) K → vx_Met l yL_car wsL_car rmL_car (va_Pc [.ref (ad 0), .int p1, .int p2] (kPre D cy sz (wF cy ad hh aa pa u))) (va_Qi (fun r (_ : Unit) => K r) (fun _ => kPost D (va_A (wF cy ad hh aa pa u) sz) (wF cy ad hh aa pa u)) (va_A (wF cy ad hh aa pa u) sz)) (XF (va_A (wF cy ad hh aa pa u) sz)) 0 0 (va_A (wF cy ad hh aa pa u) sz) := by
  intro K h1
  refine vx_ofWH (cc := cL_car) (maxL := 4) (ret := some .int) (hh := [(0, 6, 7, 58), (0, 6, 11, 50)]) (by decide) rfl ?_
  intro p e s m args below meth c s₁ B hml hv
  obtain ⟨rfl, hsz, hP, hK, hD0⟩ := hv
  subst hsz
  have hts := atoms_spec (ws := wsL_car) B.pre
  have hx := B.exec
  have hb := B.bytes
  have hr := B.returns
  have hown : s.vm.findClass RL = some m.cls := findClass_of_methodNamed B.named
  have hlocks := B.notSynchronized
  have hD := hD0.self (sz := s.heap.size)
  have hA : ∀ q, s.heap.size ≤ q → va_A (wF cy ad hh aa pa u) s.heap.size q := fun q h => Or.inr h
  generalize va_A (wF cy ad hh aa pa u) s.heap.size = A at hD hA ⊢
  have hS : va_S A s.heap s.heap [] := va_S.rf
  have hl := lv_entry ([.ref (ad 0), .int p1, .int p2]) (n := 4) (Nat.le_of_ble_eq_true rfl)
  rw [lg_entry_eq]
  generalize (lg_sl ([.ref (ad 0), .int p1, .int p2]) ++ List.replicate (4 - (lg_sl ([.ref (ad 0), .int p1, .int p2])).length) Slot.unset).toArray = ls at hl ⊢
  have hl : lv_has ls 4 [(0, .ref (ad 0)), (1, .int p1), (2, .int p2)] := hl
  refine lv_aload_n hx hb dL_car_0 rfl (lv_at hl 0 rfl) ?_
  refine lv_iload_n hx hb dL_car_1 rfl (lv_at hl 1 rfl) ?_
  refine lv_iload_n hx hb dL_car_2 rfl (lv_at hl 2 rfl) ?_
  have h9 : Ok (bnd (hX9_car p1 p2 u) (fun r => some r)) K := by
    obtain ⟨a, e9, k9⟩ := h1
    exact ⟨a, (by rw [show hX9_car p1 p2 u = some a from e9]; rfl), k9⟩
  refine kc_rV0 (b := (ad 0)) (As := [.int p1, .int p2]) (rest := []) h9 ⟨hx, hb, hml, hown, hts⟩ (cX9_carM l D cy ad hh aa pa s.heap.size u p1 p2) (cwV 2 hts gL_car_X9_car rfl rfl rfl hdX9_car ⟨Nat.le_of_ble_eq_true rfl, Nat.le_of_ble_eq_true rfl⟩) hK hP hD hS hA (q0 := 0) (wF_c0 _ _ _ _ _ _) rfl rfl hl.1 rfl (Nat.le_of_ble_eq_true rfl) dL_car_3 ⟨Nat.zero_le _, Nat.zero_le _⟩ (fun r H locs h9 hP hS => ?_)
  exact kh_ret (K := fun r (_ : Unit) => K r) (mk := fun _ => wF cy ad hh aa pa u) (u := ()) hx hb hr hlocks hP hD hS h9.ret dL_car_6
theorem hdX9_standing : yX9_standing.cls = RX9 ∧ yX9_standing.cls ≠ "java/lang/invoke/MethodHandle" ∧ yX9_standing.cls ≠ "java/lang/invoke/VarHandle" ∧ (parseMethodDescriptor yX9_standing.desc).map (fun d => d.parameters.length) = some 2 := by decide +kernel
abbrev rmL_standing : Room := { frames := 3, cells := 0, slots := 0, locals := 65 }
def fL_standing (p1 : Int32) (p2 : Int32) (u : FS) : Option (Int32) := hX9_standing p1 p2 u
set_option maxHeartbeats 4000000 in
set_option maxRecDepth 100000 in
theorem cL_standingM (l : Launch) (D : va_G) (cy : Nat → ClassId) (ad hh : Nat → Nat) (aa : Nat → Nat → Nat) (pa : Nat → Nat) (sz : Nat) (u : FS) (p1 : Int32) (p2 : Int32) : ∀ (K : Int32 → Prop), Ok (fL_standing p1 p2 u) K → vx_Met l yL_standing wsL_standing rmL_standing (va_Pc [.ref (ad 0), .int p1, .int p2] (kPre D cy sz (wF cy ad hh aa pa u))) (va_Qi (fun r (_ : Unit) => K r) (fun _ => kPost D (va_A (wF cy ad hh aa pa u) sz) (wF cy ad hh aa pa u)) (va_A (wF cy ad hh aa pa u) sz)) (XF (va_A (wF cy ad hh aa pa u) sz)) 0 0 (va_A (wF cy ad hh aa pa u) sz) := by
  intro K h1
  refine vx_ofWH (cc := cL_standing) (maxL := 4) (ret := some .int) (hh := [(0, 6, 7, 58)]) (by decide) rfl ?_
  intro p e s m args below meth c s₁ B hml hv
  obtain ⟨rfl, hsz, hP, hK, hD0⟩ := hv
  subst hsz
  have hts := atoms_spec (ws := wsL_standing) B.pre
  have hx := B.exec
  have hb := B.bytes
  have hr := B.returns
  have hown : s.vm.findClass RL = some m.cls := findClass_of_methodNamed B.named
  have hlocks := B.notSynchronized
  have hD := hD0.self (sz := s.heap.size)
  have hA : ∀ q, s.heap.size ≤ q → va_A (wF cy ad hh aa pa u) s.heap.size q := fun q h => Or.inr h
  generalize va_A (wF cy ad hh aa pa u) s.heap.size = A at hD hA ⊢
  have hS : va_S A s.heap s.heap [] := va_S.rf
  have hl := lv_entry ([.ref (ad 0), .int p1, .int p2]) (n := 4) (Nat.le_of_ble_eq_true rfl)
  rw [lg_entry_eq]
  generalize (lg_sl ([.ref (ad 0), .int p1, .int p2]) ++ List.replicate (4 - (lg_sl ([.ref (ad 0), .int p1, .int p2])).length) Slot.unset).toArray = ls at hl ⊢
  have hl : lv_has ls 4 [(0, .ref (ad 0)), (1, .int p1), (2, .int p2)] := hl
  refine lv_aload_n hx hb dL_standing_0 rfl (lv_at hl 0 rfl) ?_
  refine lv_iload_n hx hb dL_standing_1 rfl (lv_at hl 1 rfl) ?_
  refine lv_iload_n hx hb dL_standing_2 rfl (lv_at hl 2 rfl) ?_
  have h9 : Ok (bnd (hX9_standing p1 p2 u) (fun r => some r)) K := by
    obtain ⟨a, e9, k9⟩ := h1
    exact ⟨a, (by rw [show hX9_standing p1 p2 u = some a from e9]; rfl), k9⟩
  refine kc_rV0 (b := (ad 0)) (As := [.int p1, .int p2]) (rest := []) h9 ⟨hx, hb, hml, hown, hts⟩ (cX9_standingM l D cy ad hh aa pa s.heap.size u p1 p2) (cwV 2 hts gL_standing_X9_standing rfl rfl rfl hdX9_standing ⟨Nat.le_of_ble_eq_true rfl, Nat.le_of_ble_eq_true rfl⟩) hK hP hD hS hA (q0 := 0) (wF_c0 _ _ _ _ _ _) rfl rfl hl.1 rfl (Nat.le_of_ble_eq_true rfl) dL_standing_3 ⟨Nat.zero_le _, Nat.zero_le _⟩ (fun r H locs h9 hP hS => ?_)
  exact kh_ret (K := fun r (_ : Unit) => K r) (mk := fun _ => wF cy ad hh aa pa u) (u := ()) hx hb hr hlocks hP hD hS h9.ret dL_standing_6
theorem hdX9_lane : yX9_lane.cls = RX9 ∧ yX9_lane.cls ≠ "java/lang/invoke/MethodHandle" ∧ yX9_lane.cls ≠ "java/lang/invoke/VarHandle" ∧ (parseMethodDescriptor yX9_lane.desc).map (fun d => d.parameters.length) = some 2 := by decide +kernel
abbrev rmL_lane : Room := { frames := 1, cells := 0, slots := 0, locals := 22 }
def fL_lane (p1 : Int32) (p2 : Int32) (u : FS) : Option (Int32) := hX9_lane p1 p2 u
set_option maxHeartbeats 4000000 in
set_option maxRecDepth 100000 in
theorem cL_laneM (l : Launch) (D : va_G) (cy : Nat → ClassId) (ad hh : Nat → Nat) (aa : Nat → Nat → Nat) (pa : Nat → Nat) (sz : Nat) (u : FS) (p1 : Int32) (p2 : Int32) : ∀ (K : Int32 → Prop), Ok (fL_lane p1 p2 u) K → vx_Met l yL_lane wsL_lane rmL_lane (va_Pc [.ref (ad 0), .int p1, .int p2] (kPre D cy sz (wF cy ad hh aa pa u))) (va_Qi (fun r (_ : Unit) => K r) (fun _ => kPost D (va_A (wF cy ad hh aa pa u) sz) (wF cy ad hh aa pa u)) (va_A (wF cy ad hh aa pa u) sz)) (XF (va_A (wF cy ad hh aa pa u) sz)) 0 0 (va_A (wF cy ad hh aa pa u) sz) := by
  intro K h1
  refine vx_ofWH (cc := cL_lane) (maxL := 4) (ret := some .int) (hh := [(0, 6, 7, 58)]) (by decide) rfl ?_
  intro p e s m args below meth c s₁ B hml hv
  obtain ⟨rfl, hsz, hP, hK, hD0⟩ := hv
  subst hsz
  have hts := atoms_spec (ws := wsL_lane) B.pre
  have hx := B.exec
  have hb := B.bytes
  have hr := B.returns
  have hown : s.vm.findClass RL = some m.cls := findClass_of_methodNamed B.named
  have hlocks := B.notSynchronized
  have hD := hD0.self (sz := s.heap.size)
  have hA : ∀ q, s.heap.size ≤ q → va_A (wF cy ad hh aa pa u) s.heap.size q := fun q h => Or.inr h
  generalize va_A (wF cy ad hh aa pa u) s.heap.size = A at hD hA ⊢
  have hS : va_S A s.heap s.heap [] := va_S.rf
  have hl := lv_entry ([.ref (ad 0), .int p1, .int p2]) (n := 4) (Nat.le_of_ble_eq_true rfl)
  rw [lg_entry_eq]
  generalize (lg_sl ([.ref (ad 0), .int p1, .int p2]) ++ List.replicate (4 - (lg_sl ([.ref (ad 0), .int p1, .int p2])).length) Slot.unset).toArray = ls at hl ⊢
  have hl : lv_has ls 4 [(0, .ref (ad 0)), (1, .int p1), (2, .int p2)] := hl
  refine lv_aload_n hx hb dL_lane_0 rfl (lv_at hl 0 rfl) ?_
  refine lv_iload_n hx hb dL_lane_1 rfl (lv_at hl 1 rfl) ?_
  refine lv_iload_n hx hb dL_lane_2 rfl (lv_at hl 2 rfl) ?_
  have h9 : Ok (bnd (hX9_lane p1 p2 u) (fun r => some r)) K := by
    obtain ⟨a, e9, k9⟩ := h1
    exact ⟨a, (by rw [show hX9_lane p1 p2 u = some a from e9]; rfl), k9⟩
  refine kc_rV0 (b := (ad 0)) (As := [.int p1, .int p2]) (rest := []) h9 ⟨hx, hb, hml, hown, hts⟩ (cX9_laneM l D cy ad hh aa pa s.heap.size u p1 p2) (cwV 2 hts gL_lane_X9_lane rfl rfl rfl hdX9_lane ⟨Nat.le_of_ble_eq_true rfl, Nat.le_of_ble_eq_true rfl⟩) hK hP hD hS hA (q0 := 0) (wF_c0 _ _ _ _ _ _) rfl rfl hl.1 rfl (Nat.le_of_ble_eq_true rfl) dL_lane_3 ⟨Nat.zero_le _, Nat.zero_le _⟩ (fun r H locs h9 hP hS => ?_)
  exact kh_ret (K := fun r (_ : Unit) => K r) (mk := fun _ => wF cy ad hh aa pa u) (u := ()) hx hb hr hlocks hP hD hS h9.ret dL_lane_6
theorem hdX9_call : yX9_call.cls = RX9 ∧ yX9_call.cls ≠ "java/lang/invoke/MethodHandle" ∧ yX9_call.cls ≠ "java/lang/invoke/VarHandle" ∧ (parseMethodDescriptor yX9_call.desc).map (fun d => d.parameters.length) = some 2 := by decide +kernel
abbrev rmL_call : Room := { frames := 2, cells := 0, slots := 0, locals := 44 }
def fL_call (p1 : Int32) (p2 : Int32) (u : FS) : Option (Int32) := hX9_call p1 p2 u
set_option maxHeartbeats 4000000 in
set_option maxRecDepth 100000 in
theorem cL_callM (l : Launch) (D : va_G) (cy : Nat → ClassId) (ad hh : Nat → Nat) (aa : Nat → Nat → Nat) (pa : Nat → Nat) (sz : Nat) (u : FS) (p1 : Int32) (p2 : Int32) : ∀ (K : Int32 → Prop), Ok (fL_call p1 p2 u) K → vx_Met l yL_call wsL_call rmL_call (va_Pc [.ref (ad 0), .int p1, .int p2] (kPre D cy sz (wF cy ad hh aa pa u))) (va_Qi (fun r (_ : Unit) => K r) (fun _ => kPost D (va_A (wF cy ad hh aa pa u) sz) (wF cy ad hh aa pa u)) (va_A (wF cy ad hh aa pa u) sz)) (XF (va_A (wF cy ad hh aa pa u) sz)) 0 0 (va_A (wF cy ad hh aa pa u) sz) := by
  intro K h1
  refine vx_ofWH (cc := cL_call) (maxL := 4) (ret := some .int) (hh := [(0, 6, 7, 58), (0, 6, 11, 50)]) (by decide) rfl ?_
  intro p e s m args below meth c s₁ B hml hv
  obtain ⟨rfl, hsz, hP, hK, hD0⟩ := hv
  subst hsz
  have hts := atoms_spec (ws := wsL_call) B.pre
  have hx := B.exec
  have hb := B.bytes
  have hr := B.returns
  have hown : s.vm.findClass RL = some m.cls := findClass_of_methodNamed B.named
  have hlocks := B.notSynchronized
  have hD := hD0.self (sz := s.heap.size)
  have hA : ∀ q, s.heap.size ≤ q → va_A (wF cy ad hh aa pa u) s.heap.size q := fun q h => Or.inr h
  generalize va_A (wF cy ad hh aa pa u) s.heap.size = A at hD hA ⊢
  have hS : va_S A s.heap s.heap [] := va_S.rf
  have hl := lv_entry ([.ref (ad 0), .int p1, .int p2]) (n := 4) (Nat.le_of_ble_eq_true rfl)
  rw [lg_entry_eq]
  generalize (lg_sl ([.ref (ad 0), .int p1, .int p2]) ++ List.replicate (4 - (lg_sl ([.ref (ad 0), .int p1, .int p2])).length) Slot.unset).toArray = ls at hl ⊢
  have hl : lv_has ls 4 [(0, .ref (ad 0)), (1, .int p1), (2, .int p2)] := hl
  refine lv_aload_n hx hb dL_call_0 rfl (lv_at hl 0 rfl) ?_
  refine lv_iload_n hx hb dL_call_1 rfl (lv_at hl 1 rfl) ?_
  refine lv_iload_n hx hb dL_call_2 rfl (lv_at hl 2 rfl) ?_
  have h9 : Ok (bnd (hX9_call p1 p2 u) (fun r => some r)) K := by
    obtain ⟨a, e9, k9⟩ := h1
    exact ⟨a, (by rw [show hX9_call p1 p2 u = some a from e9]; rfl), k9⟩
  refine kc_rV0 (b := (ad 0)) (As := [.int p1, .int p2]) (rest := []) h9 ⟨hx, hb, hml, hown, hts⟩ (cX9_callM l D cy ad hh aa pa s.heap.size u p1 p2) (cwV 2 hts gL_call_X9_call rfl rfl rfl hdX9_call ⟨Nat.le_of_ble_eq_true rfl, Nat.le_of_ble_eq_true rfl⟩) hK hP hD hS hA (q0 := 0) (wF_c0 _ _ _ _ _ _) rfl rfl hl.1 rfl (Nat.le_of_ble_eq_true rfl) dL_call_3 ⟨Nat.zero_le _, Nat.zero_le _⟩ (fun r H locs h9 hP hS => ?_)
  exact kh_ret (K := fun r (_ : Unit) => K r) (mk := fun _ => wF cy ad hh aa pa u) (u := ()) hx hb hr hlocks hP hD hS h9.ret dL_call_6
theorem hdX9_tide : yX9_tide.cls = RX9 ∧ yX9_tide.cls ≠ "java/lang/invoke/MethodHandle" ∧ yX9_tide.cls ≠ "java/lang/invoke/VarHandle" ∧ (parseMethodDescriptor yX9_tide.desc).map (fun d => d.parameters.length) = some 1 := by decide +kernel
abbrev rmL_tide : Room := { frames := 2, cells := 0, slots := 0, locals := 46 }
def fL_tide (p1 : Int32) (u : FS) : Option (Int32) := hX9_tide p1 u
set_option maxHeartbeats 4000000 in
set_option maxRecDepth 100000 in
theorem cL_tideM (l : Launch) (D : va_G) (cy : Nat → ClassId) (ad hh : Nat → Nat) (aa : Nat → Nat → Nat) (pa : Nat → Nat) (sz : Nat) (u : FS) (p1 : Int32) : ∀ (K : Int32 → Prop), Ok (fL_tide p1 u) K → vx_Met l yL_tide wsL_tide rmL_tide (va_Pc [.ref (ad 0), .int p1] (kPre D cy sz (wF cy ad hh aa pa u))) (va_Qi (fun r (_ : Unit) => K r) (fun _ => kPost D (va_A (wF cy ad hh aa pa u) sz) (wF cy ad hh aa pa u)) (va_A (wF cy ad hh aa pa u) sz)) (XF (va_A (wF cy ad hh aa pa u) sz)) 0 0 (va_A (wF cy ad hh aa pa u) sz) := by
  intro K h1
  refine vx_ofWH (cc := cL_tide) (maxL := 3) (ret := some .int) (hh := [(0, 5, 6, 50)]) (by decide) rfl ?_
  intro p e s m args below meth c s₁ B hml hv
  obtain ⟨rfl, hsz, hP, hK, hD0⟩ := hv
  subst hsz
  have hts := atoms_spec (ws := wsL_tide) B.pre
  have hx := B.exec
  have hb := B.bytes
  have hr := B.returns
  have hown : s.vm.findClass RL = some m.cls := findClass_of_methodNamed B.named
  have hlocks := B.notSynchronized
  have hD := hD0.self (sz := s.heap.size)
  have hA : ∀ q, s.heap.size ≤ q → va_A (wF cy ad hh aa pa u) s.heap.size q := fun q h => Or.inr h
  generalize va_A (wF cy ad hh aa pa u) s.heap.size = A at hD hA ⊢
  have hS : va_S A s.heap s.heap [] := va_S.rf
  have hl := lv_entry ([.ref (ad 0), .int p1]) (n := 3) (Nat.le_of_ble_eq_true rfl)
  rw [lg_entry_eq]
  generalize (lg_sl ([.ref (ad 0), .int p1]) ++ List.replicate (3 - (lg_sl ([.ref (ad 0), .int p1])).length) Slot.unset).toArray = ls at hl ⊢
  have hl : lv_has ls 3 [(0, .ref (ad 0)), (1, .int p1)] := hl
  refine lv_aload_n hx hb dL_tide_0 rfl (lv_at hl 0 rfl) ?_
  refine lv_iload_n hx hb dL_tide_1 rfl (lv_at hl 1 rfl) ?_
  have h9 : Ok (bnd (hX9_tide p1 u) (fun r => some r)) K := by
    obtain ⟨a, e9, k9⟩ := h1
    exact ⟨a, (by rw [show hX9_tide p1 u = some a from e9]; rfl), k9⟩
  refine kc_rV0 (b := (ad 0)) (As := [.int p1]) (rest := []) h9 ⟨hx, hb, hml, hown, hts⟩ (cX9_tideM l D cy ad hh aa pa s.heap.size u p1) (cwV 1 hts gL_tide_X9_tide rfl rfl rfl hdX9_tide ⟨Nat.le_of_ble_eq_true rfl, Nat.le_of_ble_eq_true rfl⟩) hK hP hD hS hA (q0 := 0) (wF_c0 _ _ _ _ _ _) rfl rfl hl.1 rfl (Nat.le_of_ble_eq_true rfl) dL_tide_2 ⟨Nat.zero_le _, Nat.zero_le _⟩ (fun r H locs h9 hP hS => ?_)
  exact kh_ret (K := fun r (_ : Unit) => K r) (mk := fun _ => wF cy ad hh aa pa u) (u := ()) hx hb hr hlocks hP hD hS h9.ret dL_tide_5
theorem hdX9_deck : yX9_deck.cls = RX9 ∧ yX9_deck.cls ≠ "java/lang/invoke/MethodHandle" ∧ yX9_deck.cls ≠ "java/lang/invoke/VarHandle" ∧ (parseMethodDescriptor yX9_deck.desc).map (fun d => d.parameters.length) = some 1 := by decide +kernel
abbrev rmL_deck : Room := { frames := 3, cells := 0, slots := 0, locals := 69 }
def fL_deck (p1 : Int32) (u : FS) : Option (Int32) := hX9_deck p1 u
set_option maxHeartbeats 4000000 in
set_option maxRecDepth 100000 in
theorem cL_deckM (l : Launch) (D : va_G) (cy : Nat → ClassId) (ad hh : Nat → Nat) (aa : Nat → Nat → Nat) (pa : Nat → Nat) (sz : Nat) (u : FS) (p1 : Int32) : ∀ (K : Int32 → Prop), Ok (fL_deck p1 u) K → vx_Met l yL_deck wsL_deck rmL_deck (va_Pc [.ref (ad 0), .int p1] (kPre D cy sz (wF cy ad hh aa pa u))) (va_Qi (fun r (_ : Unit) => K r) (fun _ => kPost D (va_A (wF cy ad hh aa pa u) sz) (wF cy ad hh aa pa u)) (va_A (wF cy ad hh aa pa u) sz)) (XF (va_A (wF cy ad hh aa pa u) sz)) 0 0 (va_A (wF cy ad hh aa pa u) sz) := by
  intro K h1
  refine vx_ofWH (cc := cL_deck) (maxL := 3) (ret := some .int) (hh := [(0, 5, 6, 50)]) (by decide) rfl ?_
  intro p e s m args below meth c s₁ B hml hv
  obtain ⟨rfl, hsz, hP, hK, hD0⟩ := hv
  subst hsz
  have hts := atoms_spec (ws := wsL_deck) B.pre
  have hx := B.exec
  have hb := B.bytes
  have hr := B.returns
  have hown : s.vm.findClass RL = some m.cls := findClass_of_methodNamed B.named
  have hlocks := B.notSynchronized
  have hD := hD0.self (sz := s.heap.size)
  have hA : ∀ q, s.heap.size ≤ q → va_A (wF cy ad hh aa pa u) s.heap.size q := fun q h => Or.inr h
  generalize va_A (wF cy ad hh aa pa u) s.heap.size = A at hD hA ⊢
  have hS : va_S A s.heap s.heap [] := va_S.rf
  have hl := lv_entry ([.ref (ad 0), .int p1]) (n := 3) (Nat.le_of_ble_eq_true rfl)
  rw [lg_entry_eq]
  generalize (lg_sl ([.ref (ad 0), .int p1]) ++ List.replicate (3 - (lg_sl ([.ref (ad 0), .int p1])).length) Slot.unset).toArray = ls at hl ⊢
  have hl : lv_has ls 3 [(0, .ref (ad 0)), (1, .int p1)] := hl
  refine lv_aload_n hx hb dL_deck_0 rfl (lv_at hl 0 rfl) ?_
  refine lv_iload_n hx hb dL_deck_1 rfl (lv_at hl 1 rfl) ?_
  have h9 : Ok (bnd (hX9_deck p1 u) (fun r => some r)) K := by
    obtain ⟨a, e9, k9⟩ := h1
    exact ⟨a, (by rw [show hX9_deck p1 u = some a from e9]; rfl), k9⟩
  refine kc_rV0 (b := (ad 0)) (As := [.int p1]) (rest := []) h9 ⟨hx, hb, hml, hown, hts⟩ (cX9_deckM l D cy ad hh aa pa s.heap.size u p1) (cwV 1 hts gL_deck_X9_deck rfl rfl rfl hdX9_deck ⟨Nat.le_of_ble_eq_true rfl, Nat.le_of_ble_eq_true rfl⟩) hK hP hD hS hA (q0 := 0) (wF_c0 _ _ _ _ _ _) rfl rfl hl.1 rfl (Nat.le_of_ble_eq_true rfl) dL_deck_2 ⟨Nat.zero_le _, Nat.zero_le _⟩ (fun r H locs h9 hP hS => ?_)
  exact kh_ret (K := fun r (_ : Unit) => K r) (mk := fun _ => wF cy ad hh aa pa u) (u := ()) hx hb hr hlocks hP hD hS h9.ret dL_deck_5
theorem hdX9_whyNot : yX9_whyNot.cls = RX9 ∧ yX9_whyNot.cls ≠ "java/lang/invoke/MethodHandle" ∧ yX9_whyNot.cls ≠ "java/lang/invoke/VarHandle" ∧ (parseMethodDescriptor yX9_whyNot.desc).map (fun d => d.parameters.length) = some 1 := by decide +kernel
abbrev rmL_whyNot : Room := { frames := 3, cells := 0, slots := 0, locals := 73 }
def fL_whyNot (p1 : Int32) (u : FS) : Option (Int32) := hX9_whyNot p1 u
set_option maxHeartbeats 4000000 in
set_option maxRecDepth 100000 in
theorem cL_whyNotM (l : Launch) (D : va_G) (cy : Nat → ClassId) (ad hh : Nat → Nat) (aa : Nat → Nat → Nat) (pa : Nat → Nat) (sz : Nat) (u : FS) (p1 : Int32) : ∀ (K : Int32 → Prop), Ok (fL_whyNot p1 u) K → vx_Met l yL_whyNot wsL_whyNot rmL_whyNot (va_Pc [.ref (ad 0), .int p1] (kPre D cy sz (wF cy ad hh aa pa u))) (va_Qi (fun r (_ : Unit) => K r) (fun _ => kPost D (va_A (wF cy ad hh aa pa u) sz) (wF cy ad hh aa pa u)) (va_A (wF cy ad hh aa pa u) sz)) (XF (va_A (wF cy ad hh aa pa u) sz)) 0 0 (va_A (wF cy ad hh aa pa u) sz) := by
  intro K h1
  refine vx_ofWH (cc := cL_whyNot) (maxL := 3) (ret := some .int) (hh := [(0, 5, 6, 58)]) (by decide) rfl ?_
  intro p e s m args below meth c s₁ B hml hv
  obtain ⟨rfl, hsz, hP, hK, hD0⟩ := hv
  subst hsz
  have hts := atoms_spec (ws := wsL_whyNot) B.pre
  have hx := B.exec
  have hb := B.bytes
  have hr := B.returns
  have hown : s.vm.findClass RL = some m.cls := findClass_of_methodNamed B.named
  have hlocks := B.notSynchronized
  have hD := hD0.self (sz := s.heap.size)
  have hA : ∀ q, s.heap.size ≤ q → va_A (wF cy ad hh aa pa u) s.heap.size q := fun q h => Or.inr h
  generalize va_A (wF cy ad hh aa pa u) s.heap.size = A at hD hA ⊢
  have hS : va_S A s.heap s.heap [] := va_S.rf
  have hl := lv_entry ([.ref (ad 0), .int p1]) (n := 3) (Nat.le_of_ble_eq_true rfl)
  rw [lg_entry_eq]
  generalize (lg_sl ([.ref (ad 0), .int p1]) ++ List.replicate (3 - (lg_sl ([.ref (ad 0), .int p1])).length) Slot.unset).toArray = ls at hl ⊢
  have hl : lv_has ls 3 [(0, .ref (ad 0)), (1, .int p1)] := hl
  refine lv_aload_n hx hb dL_whyNot_0 rfl (lv_at hl 0 rfl) ?_
  refine lv_iload_n hx hb dL_whyNot_1 rfl (lv_at hl 1 rfl) ?_
  have h9 : Ok (bnd (hX9_whyNot p1 u) (fun r => some r)) K := by
    obtain ⟨a, e9, k9⟩ := h1
    exact ⟨a, (by rw [show hX9_whyNot p1 u = some a from e9]; rfl), k9⟩
  refine kc_rV0 (b := (ad 0)) (As := [.int p1]) (rest := []) h9 ⟨hx, hb, hml, hown, hts⟩ (cX9_whyNotM l D cy ad hh aa pa s.heap.size u p1) (cwV 1 hts gL_whyNot_X9_whyNot rfl rfl rfl hdX9_whyNot ⟨Nat.le_of_ble_eq_true rfl, Nat.le_of_ble_eq_true rfl⟩) hK hP hD hS hA (q0 := 0) (wF_c0 _ _ _ _ _ _) rfl rfl hl.1 rfl (Nat.le_of_ble_eq_true rfl) dL_whyNot_2 ⟨Nat.zero_le _, Nat.zero_le _⟩ (fun r H locs h9 hP hS => ?_)
  exact kh_ret (K := fun r (_ : Unit) => K r) (mk := fun _ => wF cy ad hh aa pa u) (u := ()) hx hb hr hlocks hP hD hS h9.ret dL_whyNot_5
theorem hdX9_boardIn : yX9_boardIn.cls = RX9 ∧ yX9_boardIn.cls ≠ "java/lang/invoke/MethodHandle" ∧ yX9_boardIn.cls ≠ "java/lang/invoke/VarHandle" ∧ (parseMethodDescriptor yX9_boardIn.desc).map (fun d => d.parameters.length) = some 1 := by decide +kernel
abbrev rmL_boardIn : Room := { frames := 6, cells := 0, slots := 0, locals := 142 }
def fL_boardIn (p1 : Int32) (u : FS) : Option (Int32 × FS) := hX9_boardIn p1 u
set_option maxHeartbeats 4000000 in
set_option maxRecDepth 100000 in
theorem cL_boardInM (l : Launch) (D : va_G) (cy : Nat → ClassId) (ad hh : Nat → Nat) (aa : Nat → Nat → Nat) (pa : Nat → Nat) (sz : Nat) (u : FS) (p1 : Int32) : ∀ (K : Int32 → FS → Prop), Ok (fL_boardIn p1 u) (fun q => K q.1 q.2) → vx_Met l yL_boardIn wsL_boardIn rmL_boardIn (va_Pc [.ref (ad 0), .int p1] (kPre D cy sz (wF cy ad hh aa pa u))) (va_Qi K (fun q => kPost D (va_A (wF cy ad hh aa pa u) sz) (wF cy ad hh aa pa q)) (va_A (wF cy ad hh aa pa u) sz)) (XF (va_A (wF cy ad hh aa pa u) sz)) 0 0 (va_A (wF cy ad hh aa pa u) sz) := by
  intro K h1
  refine vx_ofWH (cc := cL_boardIn) (maxL := 3) (ret := some .int) (hh := [(0, 5, 6, 50)]) (by decide) rfl ?_
  intro p e s m args below meth c s₁ B hml hv
  obtain ⟨rfl, hsz, hP, hK, hD0⟩ := hv
  subst hsz
  have hts := atoms_spec (ws := wsL_boardIn) B.pre
  have hx := B.exec
  have hb := B.bytes
  have hr := B.returns
  have hown : s.vm.findClass RL = some m.cls := findClass_of_methodNamed B.named
  have hlocks := B.notSynchronized
  have hD := hD0.self (sz := s.heap.size)
  have hA : ∀ q, s.heap.size ≤ q → va_A (wF cy ad hh aa pa u) s.heap.size q := fun q h => Or.inr h
  generalize va_A (wF cy ad hh aa pa u) s.heap.size = A at hD hA ⊢
  have hS : va_S A s.heap s.heap [] := va_S.rf
  have hl := lv_entry ([.ref (ad 0), .int p1]) (n := 3) (Nat.le_of_ble_eq_true rfl)
  rw [lg_entry_eq]
  generalize (lg_sl ([.ref (ad 0), .int p1]) ++ List.replicate (3 - (lg_sl ([.ref (ad 0), .int p1])).length) Slot.unset).toArray = ls at hl ⊢
  have hl : lv_has ls 3 [(0, .ref (ad 0)), (1, .int p1)] := hl
  refine lv_aload_n hx hb dL_boardIn_0 rfl (lv_at hl 0 rfl) ?_
  refine lv_iload_n hx hb dL_boardIn_1 rfl (lv_at hl 1 rfl) ?_
  have h9 : Ok (bnd2 (hX9_boardIn p1 u) (fun r q => some (r, q))) (fun q => K q.1 q.2) := by
    obtain ⟨a, e9, k9⟩ := h1
    exact ⟨a, (by rw [show hX9_boardIn p1 u = some a from e9]; rfl), k9⟩
  refine kc_iV0 (mk := wF cy ad hh aa pa) (b := (ad 0)) (As := [.int p1]) (rest := []) h9 ⟨hx, hb, hml, hown, hts⟩ (cX9_boardInM l D cy ad hh aa pa s.heap.size u p1) (cwV 1 hts gL_boardIn_X9_boardIn rfl rfl rfl hdX9_boardIn ⟨Nat.le_of_ble_eq_true rfl, Nat.le_of_ble_eq_true rfl⟩) hK hP hD hS hA (q0 := 0) (wF_c0 _ _ _ _ _ _) rfl rfl hl.1 rfl (Nat.le_of_ble_eq_true rfl) dL_boardIn_2 ⟨Nat.zero_le _, Nat.zero_le _⟩ (fun r v H locs h9 hP hD hS => ?_)
  exact kh_ret (mk := wF cy ad hh aa pa) (u := v) hx hb hr hlocks hP hD hS h9.ret dL_boardIn_5
theorem hdX9_easyIn : yX9_easyIn.cls = RX9 ∧ yX9_easyIn.cls ≠ "java/lang/invoke/MethodHandle" ∧ yX9_easyIn.cls ≠ "java/lang/invoke/VarHandle" ∧ (parseMethodDescriptor yX9_easyIn.desc).map (fun d => d.parameters.length) = some 1 := by decide +kernel
abbrev rmL_easyIn : Room := { frames := 6, cells := 0, slots := 0, locals := 143 }
def fL_easyIn (p1 : Int32) (u : FS) : Option (Int32 × FS) := hX9_easyIn p1 u
set_option maxHeartbeats 4000000 in
set_option maxRecDepth 100000 in
theorem cL_easyInM (l : Launch) (D : va_G) (cy : Nat → ClassId) (ad hh : Nat → Nat) (aa : Nat → Nat → Nat) (pa : Nat → Nat) (sz : Nat) (u : FS) (p1 : Int32) : ∀ (K : Int32 → FS → Prop), Ok (fL_easyIn p1 u) (fun q => K q.1 q.2) → vx_Met l yL_easyIn wsL_easyIn rmL_easyIn (va_Pc [.ref (ad 0), .int p1] (kPre D cy sz (wF cy ad hh aa pa u))) (va_Qi K (fun q => kPost D (va_A (wF cy ad hh aa pa u) sz) (wF cy ad hh aa pa q)) (va_A (wF cy ad hh aa pa u) sz)) (XF (va_A (wF cy ad hh aa pa u) sz)) 0 0 (va_A (wF cy ad hh aa pa u) sz) := by
  intro K h1
  refine vx_ofWH (cc := cL_easyIn) (maxL := 3) (ret := some .int) (hh := [(0, 5, 6, 58)]) (by decide) rfl ?_
  intro p e s m args below meth c s₁ B hml hv
  obtain ⟨rfl, hsz, hP, hK, hD0⟩ := hv
  subst hsz
  have hts := atoms_spec (ws := wsL_easyIn) B.pre
  have hx := B.exec
  have hb := B.bytes
  have hr := B.returns
  have hown : s.vm.findClass RL = some m.cls := findClass_of_methodNamed B.named
  have hlocks := B.notSynchronized
  have hD := hD0.self (sz := s.heap.size)
  have hA : ∀ q, s.heap.size ≤ q → va_A (wF cy ad hh aa pa u) s.heap.size q := fun q h => Or.inr h
  generalize va_A (wF cy ad hh aa pa u) s.heap.size = A at hD hA ⊢
  have hS : va_S A s.heap s.heap [] := va_S.rf
  have hl := lv_entry ([.ref (ad 0), .int p1]) (n := 3) (Nat.le_of_ble_eq_true rfl)
  rw [lg_entry_eq]
  generalize (lg_sl ([.ref (ad 0), .int p1]) ++ List.replicate (3 - (lg_sl ([.ref (ad 0), .int p1])).length) Slot.unset).toArray = ls at hl ⊢
  have hl : lv_has ls 3 [(0, .ref (ad 0)), (1, .int p1)] := hl
  refine lv_aload_n hx hb dL_easyIn_0 rfl (lv_at hl 0 rfl) ?_
  refine lv_iload_n hx hb dL_easyIn_1 rfl (lv_at hl 1 rfl) ?_
  have h9 : Ok (bnd2 (hX9_easyIn p1 u) (fun r q => some (r, q))) (fun q => K q.1 q.2) := by
    obtain ⟨a, e9, k9⟩ := h1
    exact ⟨a, (by rw [show hX9_easyIn p1 u = some a from e9]; rfl), k9⟩
  refine kc_iV0 (mk := wF cy ad hh aa pa) (b := (ad 0)) (As := [.int p1]) (rest := []) h9 ⟨hx, hb, hml, hown, hts⟩ (cX9_easyInM l D cy ad hh aa pa s.heap.size u p1) (cwV 1 hts gL_easyIn_X9_easyIn rfl rfl rfl hdX9_easyIn ⟨Nat.le_of_ble_eq_true rfl, Nat.le_of_ble_eq_true rfl⟩) hK hP hD hS hA (q0 := 0) (wF_c0 _ _ _ _ _ _) rfl rfl hl.1 rfl (Nat.le_of_ble_eq_true rfl) dL_easyIn_2 ⟨Nat.zero_le _, Nat.zero_le _⟩ (fun r v H locs h9 hP hD hS => ?_)
  exact kh_ret (mk := wF cy ad hh aa pa) (u := v) hx hb hr hlocks hP hD hS h9.ret dL_easyIn_5
theorem hdX9_bestFirst : yX9_bestFirst.cls = RX9 ∧ yX9_bestFirst.cls ≠ "java/lang/invoke/MethodHandle" ∧ yX9_bestFirst.cls ≠ "java/lang/invoke/VarHandle" ∧ (parseMethodDescriptor yX9_bestFirst.desc).map (fun d => d.parameters.length) = some 1 := by decide +kernel
abbrev rmL_bestFirst : Room := { frames := 6, cells := 0, slots := 0, locals := 146 }
def fL_bestFirst (p1 : Int32) (u : FS) : Option (Int32 × FS) := hX9_bestFirst p1 u
set_option maxHeartbeats 4000000 in
set_option maxRecDepth 100000 in
theorem cL_bestFirstM (l : Launch) (D : va_G) (cy : Nat → ClassId) (ad hh : Nat → Nat) (aa : Nat → Nat → Nat) (pa : Nat → Nat) (sz : Nat) (u : FS) (p1 : Int32) : ∀ (K : Int32 → FS → Prop), Ok (fL_bestFirst p1 u) (fun q => K q.1 q.2) → vx_Met l yL_bestFirst wsL_bestFirst rmL_bestFirst (va_Pc [.ref (ad 0), .int p1] (kPre D cy sz (wF cy ad hh aa pa u))) (va_Qi K (fun q => kPost D (va_A (wF cy ad hh aa pa u) sz) (wF cy ad hh aa pa q)) (va_A (wF cy ad hh aa pa u) sz)) (XF (va_A (wF cy ad hh aa pa u) sz)) 0 0 (va_A (wF cy ad hh aa pa u) sz) := by
  intro K h1
  refine vx_ofWH (cc := cL_bestFirst) (maxL := 3) (ret := some .int) (hh := [(0, 5, 6, 50)]) (by decide) rfl ?_
  intro p e s m args below meth c s₁ B hml hv
  obtain ⟨rfl, hsz, hP, hK, hD0⟩ := hv
  subst hsz
  have hts := atoms_spec (ws := wsL_bestFirst) B.pre
  have hx := B.exec
  have hb := B.bytes
  have hr := B.returns
  have hown : s.vm.findClass RL = some m.cls := findClass_of_methodNamed B.named
  have hlocks := B.notSynchronized
  have hD := hD0.self (sz := s.heap.size)
  have hA : ∀ q, s.heap.size ≤ q → va_A (wF cy ad hh aa pa u) s.heap.size q := fun q h => Or.inr h
  generalize va_A (wF cy ad hh aa pa u) s.heap.size = A at hD hA ⊢
  have hS : va_S A s.heap s.heap [] := va_S.rf
  have hl := lv_entry ([.ref (ad 0), .int p1]) (n := 3) (Nat.le_of_ble_eq_true rfl)
  rw [lg_entry_eq]
  generalize (lg_sl ([.ref (ad 0), .int p1]) ++ List.replicate (3 - (lg_sl ([.ref (ad 0), .int p1])).length) Slot.unset).toArray = ls at hl ⊢
  have hl : lv_has ls 3 [(0, .ref (ad 0)), (1, .int p1)] := hl
  refine lv_aload_n hx hb dL_bestFirst_0 rfl (lv_at hl 0 rfl) ?_
  refine lv_iload_n hx hb dL_bestFirst_1 rfl (lv_at hl 1 rfl) ?_
  have h9 : Ok (bnd2 (hX9_bestFirst p1 u) (fun r q => some (r, q))) (fun q => K q.1 q.2) := by
    obtain ⟨a, e9, k9⟩ := h1
    exact ⟨a, (by rw [show hX9_bestFirst p1 u = some a from e9]; rfl), k9⟩
  refine kc_iV0 (mk := wF cy ad hh aa pa) (b := (ad 0)) (As := [.int p1]) (rest := []) h9 ⟨hx, hb, hml, hown, hts⟩ (cX9_bestFirstM l D cy ad hh aa pa s.heap.size u p1) (cwV 1 hts gL_bestFirst_X9_bestFirst rfl rfl rfl hdX9_bestFirst ⟨Nat.le_of_ble_eq_true rfl, Nat.le_of_ble_eq_true rfl⟩) hK hP hD hS hA (q0 := 0) (wF_c0 _ _ _ _ _ _) rfl rfl hl.1 rfl (Nat.le_of_ble_eq_true rfl) dL_bestFirst_2 ⟨Nat.zero_le _, Nat.zero_le _⟩ (fun r v H locs h9 hP hD hS => ?_)
  exact kh_ret (mk := wF cy ad hh aa pa) (u := v) hx hb hr hlocks hP hD hS h9.ret dL_bestFirst_5
theorem hdX9_tick : yX9_tick.cls = RX9 ∧ yX9_tick.cls ≠ "java/lang/invoke/MethodHandle" ∧ yX9_tick.cls ≠ "java/lang/invoke/VarHandle" ∧ (parseMethodDescriptor yX9_tick.desc).map (fun d => d.parameters.length) = some 1 := by decide +kernel
abbrev rmL_tick : Room := { frames := 7, cells := 0, slots := 0, locals := 163 }
def fL_tick (p1 : Int32) (u : FS) : Option (Int32 × FS) := hX9_tick p1 u
set_option maxHeartbeats 4000000 in
set_option maxRecDepth 100000 in
theorem cL_tickM (l : Launch) (D : va_G) (cy : Nat → ClassId) (ad hh : Nat → Nat) (aa : Nat → Nat → Nat) (pa : Nat → Nat) (sz : Nat) (u : FS) (p1 : Int32) : ∀ (K : Int32 → FS → Prop), Ok (fL_tick p1 u) (fun q => K q.1 q.2) → vx_Met l yL_tick wsL_tick rmL_tick (va_Pc [.ref (ad 0), .int p1] (kPre D cy sz (wF cy ad hh aa pa u))) (va_Qi K (fun q => kPost D (va_A (wF cy ad hh aa pa u) sz) (wF cy ad hh aa pa q)) (va_A (wF cy ad hh aa pa u) sz)) (XF (va_A (wF cy ad hh aa pa u) sz)) 0 0 (va_A (wF cy ad hh aa pa u) sz) := by
  intro K h1
  refine vx_ofWH (cc := cL_tick) (maxL := 3) (ret := some .int) (hh := [(0, 5, 6, 50)]) (by decide) rfl ?_
  intro p e s m args below meth c s₁ B hml hv
  obtain ⟨rfl, hsz, hP, hK, hD0⟩ := hv
  subst hsz
  have hts := atoms_spec (ws := wsL_tick) B.pre
  have hx := B.exec
  have hb := B.bytes
  have hr := B.returns
  have hown : s.vm.findClass RL = some m.cls := findClass_of_methodNamed B.named
  have hlocks := B.notSynchronized
  have hD := hD0.self (sz := s.heap.size)
  have hA : ∀ q, s.heap.size ≤ q → va_A (wF cy ad hh aa pa u) s.heap.size q := fun q h => Or.inr h
  generalize va_A (wF cy ad hh aa pa u) s.heap.size = A at hD hA ⊢
  have hS : va_S A s.heap s.heap [] := va_S.rf
  have hl := lv_entry ([.ref (ad 0), .int p1]) (n := 3) (Nat.le_of_ble_eq_true rfl)
  rw [lg_entry_eq]
  generalize (lg_sl ([.ref (ad 0), .int p1]) ++ List.replicate (3 - (lg_sl ([.ref (ad 0), .int p1])).length) Slot.unset).toArray = ls at hl ⊢
  have hl : lv_has ls 3 [(0, .ref (ad 0)), (1, .int p1)] := hl
  refine lv_aload_n hx hb dL_tick_0 rfl (lv_at hl 0 rfl) ?_
  refine lv_iload_n hx hb dL_tick_1 rfl (lv_at hl 1 rfl) ?_
  have h9 : Ok (bnd2 (hX9_tick p1 u) (fun r q => some (r, q))) (fun q => K q.1 q.2) := by
    obtain ⟨a, e9, k9⟩ := h1
    exact ⟨a, (by rw [show hX9_tick p1 u = some a from e9]; rfl), k9⟩
  refine kc_iV0 (mk := wF cy ad hh aa pa) (b := (ad 0)) (As := [.int p1]) (rest := []) h9 ⟨hx, hb, hml, hown, hts⟩ (cX9_tickM l D cy ad hh aa pa s.heap.size u p1) (cwV 1 hts gL_tick_X9_tick rfl rfl rfl hdX9_tick ⟨Nat.le_of_ble_eq_true rfl, Nat.le_of_ble_eq_true rfl⟩) hK hP hD hS hA (q0 := 0) (wF_c0 _ _ _ _ _ _) rfl rfl hl.1 rfl (Nat.le_of_ble_eq_true rfl) dL_tick_2 ⟨Nat.zero_le _, Nat.zero_le _⟩ (fun r v H locs h9 hP hD hS => ?_)
  exact kh_ret (mk := wF cy ad hh aa pa) (u := v) hx hb hr hlocks hP hD hS h9.ret dL_tick_5
theorem hdX9_arrive : yX9_arrive.cls = RX9 ∧ yX9_arrive.cls ≠ "java/lang/invoke/MethodHandle" ∧ yX9_arrive.cls ≠ "java/lang/invoke/VarHandle" ∧ (parseMethodDescriptor yX9_arrive.desc).map (fun d => d.parameters.length) = some 2 := by decide +kernel
abbrev rmL_arrive : Room := { frames := 6, cells := 0, slots := 0, locals := 147 }
def fL_arrive (p1 : Int32) (p2 : Int32) (u : FS) : Option (Int32 × FS) := hX9_arrive p1 p2 u
set_option maxHeartbeats 4000000 in
set_option maxRecDepth 100000 in
theorem cL_arriveM (l : Launch) (D : va_G) (cy : Nat → ClassId) (ad hh : Nat → Nat) (aa : Nat → Nat → Nat) (pa : Nat → Nat) (sz : Nat) (u : FS) (p1 : Int32) (p2 : Int32) : ∀ (K : Int32 → FS → Prop), Ok (fL_arrive p1 p2 u) (fun q => K q.1 q.2) → vx_Met l yL_arrive wsL_arrive rmL_arrive (va_Pc [.ref (ad 0), .int p1, .int p2] (kPre D cy sz (wF cy ad hh aa pa u))) (va_Qi K (fun q => kPost D (va_A (wF cy ad hh aa pa u) sz) (wF cy ad hh aa pa q)) (va_A (wF cy ad hh aa pa u) sz)) (XF (va_A (wF cy ad hh aa pa u) sz)) 0 0 (va_A (wF cy ad hh aa pa u) sz) := by
  intro K h1
  refine vx_ofWH (cc := cL_arrive) (maxL := 4) (ret := some .int) (hh := [(0, 6, 7, 58), (0, 6, 11, 50)]) (by decide) rfl ?_
  intro p e s m args below meth c s₁ B hml hv
  obtain ⟨rfl, hsz, hP, hK, hD0⟩ := hv
  subst hsz
  have hts := atoms_spec (ws := wsL_arrive) B.pre
  have hx := B.exec
  have hb := B.bytes
  have hr := B.returns
  have hown : s.vm.findClass RL = some m.cls := findClass_of_methodNamed B.named
  have hlocks := B.notSynchronized
  have hD := hD0.self (sz := s.heap.size)
  have hA : ∀ q, s.heap.size ≤ q → va_A (wF cy ad hh aa pa u) s.heap.size q := fun q h => Or.inr h
  generalize va_A (wF cy ad hh aa pa u) s.heap.size = A at hD hA ⊢
  have hS : va_S A s.heap s.heap [] := va_S.rf
  have hl := lv_entry ([.ref (ad 0), .int p1, .int p2]) (n := 4) (Nat.le_of_ble_eq_true rfl)
  rw [lg_entry_eq]
  generalize (lg_sl ([.ref (ad 0), .int p1, .int p2]) ++ List.replicate (4 - (lg_sl ([.ref (ad 0), .int p1, .int p2])).length) Slot.unset).toArray = ls at hl ⊢
  have hl : lv_has ls 4 [(0, .ref (ad 0)), (1, .int p1), (2, .int p2)] := hl
  refine lv_aload_n hx hb dL_arrive_0 rfl (lv_at hl 0 rfl) ?_
  refine lv_iload_n hx hb dL_arrive_1 rfl (lv_at hl 1 rfl) ?_
  refine lv_iload_n hx hb dL_arrive_2 rfl (lv_at hl 2 rfl) ?_
  have h9 : Ok (bnd2 (hX9_arrive p1 p2 u) (fun r q => some (r, q))) (fun q => K q.1 q.2) := by
    obtain ⟨a, e9, k9⟩ := h1
    exact ⟨a, (by rw [show hX9_arrive p1 p2 u = some a from e9]; rfl), k9⟩
  refine kc_iV0 (mk := wF cy ad hh aa pa) (b := (ad 0)) (As := [.int p1, .int p2]) (rest := []) h9 ⟨hx, hb, hml, hown, hts⟩ (cX9_arriveM l D cy ad hh aa pa s.heap.size u p1 p2) (cwV 2 hts gL_arrive_X9_arrive rfl rfl rfl hdX9_arrive ⟨Nat.le_of_ble_eq_true rfl, Nat.le_of_ble_eq_true rfl⟩) hK hP hD hS hA (q0 := 0) (wF_c0 _ _ _ _ _ _) rfl rfl hl.1 rfl (Nat.le_of_ble_eq_true rfl) dL_arrive_3 ⟨Nat.zero_le _, Nat.zero_le _⟩ (fun r v H locs h9 hP hD hS => ?_)
  exact kh_ret (mk := wF cy ad hh aa pa) (u := v) hx hb hr hlocks hP hD hS h9.ret dL_arrive_6
theorem hdX9_wave : yX9_wave.cls = RX9 ∧ yX9_wave.cls ≠ "java/lang/invoke/MethodHandle" ∧ yX9_wave.cls ≠ "java/lang/invoke/VarHandle" ∧ (parseMethodDescriptor yX9_wave.desc).map (fun d => d.parameters.length) = some 1 := by decide +kernel
abbrev rmL_wave : Room := { frames := 6, cells := 0, slots := 0, locals := 146 }
def fL_wave (p1 : Int32) (u : FS) : Option (Int32 × FS) := hX9_wave p1 u
set_option maxHeartbeats 4000000 in
set_option maxRecDepth 100000 in
theorem cL_waveM (l : Launch) (D : va_G) (cy : Nat → ClassId) (ad hh : Nat → Nat) (aa : Nat → Nat → Nat) (pa : Nat → Nat) (sz : Nat) (u : FS) (p1 : Int32) : ∀ (K : Int32 → FS → Prop), Ok (fL_wave p1 u) (fun q => K q.1 q.2) → vx_Met l yL_wave wsL_wave rmL_wave (va_Pc [.ref (ad 0), .int p1] (kPre D cy sz (wF cy ad hh aa pa u))) (va_Qi K (fun q => kPost D (va_A (wF cy ad hh aa pa u) sz) (wF cy ad hh aa pa q)) (va_A (wF cy ad hh aa pa u) sz)) (XF (va_A (wF cy ad hh aa pa u) sz)) 0 0 (va_A (wF cy ad hh aa pa u) sz) := by
  intro K h1
  refine vx_ofWH (cc := cL_wave) (maxL := 3) (ret := some .int) (hh := [(0, 5, 6, 58)]) (by decide) rfl ?_
  intro p e s m args below meth c s₁ B hml hv
  obtain ⟨rfl, hsz, hP, hK, hD0⟩ := hv
  subst hsz
  have hts := atoms_spec (ws := wsL_wave) B.pre
  have hx := B.exec
  have hb := B.bytes
  have hr := B.returns
  have hown : s.vm.findClass RL = some m.cls := findClass_of_methodNamed B.named
  have hlocks := B.notSynchronized
  have hD := hD0.self (sz := s.heap.size)
  have hA : ∀ q, s.heap.size ≤ q → va_A (wF cy ad hh aa pa u) s.heap.size q := fun q h => Or.inr h
  generalize va_A (wF cy ad hh aa pa u) s.heap.size = A at hD hA ⊢
  have hS : va_S A s.heap s.heap [] := va_S.rf
  have hl := lv_entry ([.ref (ad 0), .int p1]) (n := 3) (Nat.le_of_ble_eq_true rfl)
  rw [lg_entry_eq]
  generalize (lg_sl ([.ref (ad 0), .int p1]) ++ List.replicate (3 - (lg_sl ([.ref (ad 0), .int p1])).length) Slot.unset).toArray = ls at hl ⊢
  have hl : lv_has ls 3 [(0, .ref (ad 0)), (1, .int p1)] := hl
  refine lv_aload_n hx hb dL_wave_0 rfl (lv_at hl 0 rfl) ?_
  refine lv_iload_n hx hb dL_wave_1 rfl (lv_at hl 1 rfl) ?_
  have h9 : Ok (bnd2 (hX9_wave p1 u) (fun r q => some (r, q))) (fun q => K q.1 q.2) := by
    obtain ⟨a, e9, k9⟩ := h1
    exact ⟨a, (by rw [show hX9_wave p1 u = some a from e9]; rfl), k9⟩
  refine kc_iV0 (mk := wF cy ad hh aa pa) (b := (ad 0)) (As := [.int p1]) (rest := []) h9 ⟨hx, hb, hml, hown, hts⟩ (cX9_waveM l D cy ad hh aa pa s.heap.size u p1) (cwV 1 hts gL_wave_X9_wave rfl rfl rfl hdX9_wave ⟨Nat.le_of_ble_eq_true rfl, Nat.le_of_ble_eq_true rfl⟩) hK hP hD hS hA (q0 := 0) (wF_c0 _ _ _ _ _ _) rfl rfl hl.1 rfl (Nat.le_of_ble_eq_true rfl) dL_wave_2 ⟨Nat.zero_le _, Nat.zero_le _⟩ (fun r v H locs h9 hP hD hS => ?_)
  exact kh_ret (mk := wF cy ad hh aa pa) (u := v) hx hb hr hlocks hP hD hS h9.ret dL_wave_5
theorem hdX9_dismiss : yX9_dismiss.cls = RX9 ∧ yX9_dismiss.cls ≠ "java/lang/invoke/MethodHandle" ∧ yX9_dismiss.cls ≠ "java/lang/invoke/VarHandle" ∧ (parseMethodDescriptor yX9_dismiss.desc).map (fun d => d.parameters.length) = some 1 := by decide +kernel
abbrev rmL_dismiss : Room := { frames := 6, cells := 0, slots := 0, locals := 146 }
def fL_dismiss (p1 : Int32) (u : FS) : Option (Int32 × FS) := hX9_dismiss p1 u
set_option maxHeartbeats 4000000 in
set_option maxRecDepth 100000 in
theorem cL_dismissM (l : Launch) (D : va_G) (cy : Nat → ClassId) (ad hh : Nat → Nat) (aa : Nat → Nat → Nat) (pa : Nat → Nat) (sz : Nat) (u : FS) (p1 : Int32) : ∀ (K : Int32 → FS → Prop), Ok (fL_dismiss p1 u) (fun q => K q.1 q.2) → vx_Met l yL_dismiss wsL_dismiss rmL_dismiss (va_Pc [.ref (ad 0), .int p1] (kPre D cy sz (wF cy ad hh aa pa u))) (va_Qi K (fun q => kPost D (va_A (wF cy ad hh aa pa u) sz) (wF cy ad hh aa pa q)) (va_A (wF cy ad hh aa pa u) sz)) (XF (va_A (wF cy ad hh aa pa u) sz)) 0 0 (va_A (wF cy ad hh aa pa u) sz) := by
  intro K h1
  refine vx_ofWH (cc := cL_dismiss) (maxL := 3) (ret := some .int) (hh := [(0, 5, 6, 58)]) (by decide) rfl ?_
  intro p e s m args below meth c s₁ B hml hv
  obtain ⟨rfl, hsz, hP, hK, hD0⟩ := hv
  subst hsz
  have hts := atoms_spec (ws := wsL_dismiss) B.pre
  have hx := B.exec
  have hb := B.bytes
  have hr := B.returns
  have hown : s.vm.findClass RL = some m.cls := findClass_of_methodNamed B.named
  have hlocks := B.notSynchronized
  have hD := hD0.self (sz := s.heap.size)
  have hA : ∀ q, s.heap.size ≤ q → va_A (wF cy ad hh aa pa u) s.heap.size q := fun q h => Or.inr h
  generalize va_A (wF cy ad hh aa pa u) s.heap.size = A at hD hA ⊢
  have hS : va_S A s.heap s.heap [] := va_S.rf
  have hl := lv_entry ([.ref (ad 0), .int p1]) (n := 3) (Nat.le_of_ble_eq_true rfl)
  rw [lg_entry_eq]
  generalize (lg_sl ([.ref (ad 0), .int p1]) ++ List.replicate (3 - (lg_sl ([.ref (ad 0), .int p1])).length) Slot.unset).toArray = ls at hl ⊢
  have hl : lv_has ls 3 [(0, .ref (ad 0)), (1, .int p1)] := hl
  refine lv_aload_n hx hb dL_dismiss_0 rfl (lv_at hl 0 rfl) ?_
  refine lv_iload_n hx hb dL_dismiss_1 rfl (lv_at hl 1 rfl) ?_
  have h9 : Ok (bnd2 (hX9_dismiss p1 u) (fun r q => some (r, q))) (fun q => K q.1 q.2) := by
    obtain ⟨a, e9, k9⟩ := h1
    exact ⟨a, (by rw [show hX9_dismiss p1 u = some a from e9]; rfl), k9⟩
  refine kc_iV0 (mk := wF cy ad hh aa pa) (b := (ad 0)) (As := [.int p1]) (rest := []) h9 ⟨hx, hb, hml, hown, hts⟩ (cX9_dismissM l D cy ad hh aa pa s.heap.size u p1) (cwV 1 hts gL_dismiss_X9_dismiss rfl rfl rfl hdX9_dismiss ⟨Nat.le_of_ble_eq_true rfl, Nat.le_of_ble_eq_true rfl⟩) hK hP hD hS hA (q0 := 0) (wF_c0 _ _ _ _ _ _) rfl rfl hl.1 rfl (Nat.le_of_ble_eq_true rfl) dL_dismiss_2 ⟨Nat.zero_le _, Nat.zero_le _⟩ (fun r v H locs h9 hP hD hS => ?_)
  exact kh_ret (mk := wF cy ad hh aa pa) (u := v) hx hb hr hlocks hP hD hS h9.ret dL_dismiss_5
theorem hdX9_unload : yX9_unload.cls = RX9 ∧ yX9_unload.cls ≠ "java/lang/invoke/MethodHandle" ∧ yX9_unload.cls ≠ "java/lang/invoke/VarHandle" ∧ (parseMethodDescriptor yX9_unload.desc).map (fun d => d.parameters.length) = some 1 := by decide +kernel
abbrev rmL_unload : Room := { frames := 6, cells := 0, slots := 0, locals := 146 }
def fL_unload (p1 : Int32) (u : FS) : Option (Int32 × FS) := hX9_unload p1 u
set_option maxHeartbeats 4000000 in
set_option maxRecDepth 100000 in
theorem cL_unloadM (l : Launch) (D : va_G) (cy : Nat → ClassId) (ad hh : Nat → Nat) (aa : Nat → Nat → Nat) (pa : Nat → Nat) (sz : Nat) (u : FS) (p1 : Int32) : ∀ (K : Int32 → FS → Prop), Ok (fL_unload p1 u) (fun q => K q.1 q.2) → vx_Met l yL_unload wsL_unload rmL_unload (va_Pc [.ref (ad 0), .int p1] (kPre D cy sz (wF cy ad hh aa pa u))) (va_Qi K (fun q => kPost D (va_A (wF cy ad hh aa pa u) sz) (wF cy ad hh aa pa q)) (va_A (wF cy ad hh aa pa u) sz)) (XF (va_A (wF cy ad hh aa pa u) sz)) 0 0 (va_A (wF cy ad hh aa pa u) sz) := by
  intro K h1
  refine vx_ofWH (cc := cL_unload) (maxL := 3) (ret := some .int) (hh := [(0, 5, 6, 58)]) (by decide) rfl ?_
  intro p e s m args below meth c s₁ B hml hv
  obtain ⟨rfl, hsz, hP, hK, hD0⟩ := hv
  subst hsz
  have hts := atoms_spec (ws := wsL_unload) B.pre
  have hx := B.exec
  have hb := B.bytes
  have hr := B.returns
  have hown : s.vm.findClass RL = some m.cls := findClass_of_methodNamed B.named
  have hlocks := B.notSynchronized
  have hD := hD0.self (sz := s.heap.size)
  have hA : ∀ q, s.heap.size ≤ q → va_A (wF cy ad hh aa pa u) s.heap.size q := fun q h => Or.inr h
  generalize va_A (wF cy ad hh aa pa u) s.heap.size = A at hD hA ⊢
  have hS : va_S A s.heap s.heap [] := va_S.rf
  have hl := lv_entry ([.ref (ad 0), .int p1]) (n := 3) (Nat.le_of_ble_eq_true rfl)
  rw [lg_entry_eq]
  generalize (lg_sl ([.ref (ad 0), .int p1]) ++ List.replicate (3 - (lg_sl ([.ref (ad 0), .int p1])).length) Slot.unset).toArray = ls at hl ⊢
  have hl : lv_has ls 3 [(0, .ref (ad 0)), (1, .int p1)] := hl
  refine lv_aload_n hx hb dL_unload_0 rfl (lv_at hl 0 rfl) ?_
  refine lv_iload_n hx hb dL_unload_1 rfl (lv_at hl 1 rfl) ?_
  have h9 : Ok (bnd2 (hX9_unload p1 u) (fun r q => some (r, q))) (fun q => K q.1 q.2) := by
    obtain ⟨a, e9, k9⟩ := h1
    exact ⟨a, (by rw [show hX9_unload p1 u = some a from e9]; rfl), k9⟩
  refine kc_iV0 (mk := wF cy ad hh aa pa) (b := (ad 0)) (As := [.int p1]) (rest := []) h9 ⟨hx, hb, hml, hown, hts⟩ (cX9_unloadM l D cy ad hh aa pa s.heap.size u p1) (cwV 1 hts gL_unload_X9_unload rfl rfl rfl hdX9_unload ⟨Nat.le_of_ble_eq_true rfl, Nat.le_of_ble_eq_true rfl⟩) hK hP hD hS hA (q0 := 0) (wF_c0 _ _ _ _ _ _) rfl rfl hl.1 rfl (Nat.le_of_ble_eq_true rfl) dL_unload_2 ⟨Nat.zero_le _, Nat.zero_le _⟩ (fun r v H locs h9 hP hD hS => ?_)
  exact kh_ret (mk := wF cy ad hh aa pa) (u := v) hx hb hr hlocks hP hD hS h9.ret dL_unload_5
theorem hdX9_crank : yX9_crank.cls = RX9 ∧ yX9_crank.cls ≠ "java/lang/invoke/MethodHandle" ∧ yX9_crank.cls ≠ "java/lang/invoke/VarHandle" ∧ (parseMethodDescriptor yX9_crank.desc).map (fun d => d.parameters.length) = some 1 := by decide +kernel
abbrev rmL_crank : Room := { frames := 6, cells := 0, slots := 0, locals := 145 }
def fL_crank (p1 : Int32) (u : FS) : Option (Int32 × FS) := hX9_crank p1 u
set_option maxHeartbeats 4000000 in
set_option maxRecDepth 100000 in
theorem cL_crankM (l : Launch) (D : va_G) (cy : Nat → ClassId) (ad hh : Nat → Nat) (aa : Nat → Nat → Nat) (pa : Nat → Nat) (sz : Nat) (u : FS) (p1 : Int32) : ∀ (K : Int32 → FS → Prop), Ok (fL_crank p1 u) (fun q => K q.1 q.2) → vx_Met l yL_crank wsL_crank rmL_crank (va_Pc [.ref (ad 0), .int p1] (kPre D cy sz (wF cy ad hh aa pa u))) (va_Qi K (fun q => kPost D (va_A (wF cy ad hh aa pa u) sz) (wF cy ad hh aa pa q)) (va_A (wF cy ad hh aa pa u) sz)) (XF (va_A (wF cy ad hh aa pa u) sz)) 0 0 (va_A (wF cy ad hh aa pa u) sz) := by
  intro K h1
  refine vx_ofWH (cc := cL_crank) (maxL := 3) (ret := some .int) (hh := [(0, 5, 6, 50)]) (by decide) rfl ?_
  intro p e s m args below meth c s₁ B hml hv
  obtain ⟨rfl, hsz, hP, hK, hD0⟩ := hv
  subst hsz
  have hts := atoms_spec (ws := wsL_crank) B.pre
  have hx := B.exec
  have hb := B.bytes
  have hr := B.returns
  have hown : s.vm.findClass RL = some m.cls := findClass_of_methodNamed B.named
  have hlocks := B.notSynchronized
  have hD := hD0.self (sz := s.heap.size)
  have hA : ∀ q, s.heap.size ≤ q → va_A (wF cy ad hh aa pa u) s.heap.size q := fun q h => Or.inr h
  generalize va_A (wF cy ad hh aa pa u) s.heap.size = A at hD hA ⊢
  have hS : va_S A s.heap s.heap [] := va_S.rf
  have hl := lv_entry ([.ref (ad 0), .int p1]) (n := 3) (Nat.le_of_ble_eq_true rfl)
  rw [lg_entry_eq]
  generalize (lg_sl ([.ref (ad 0), .int p1]) ++ List.replicate (3 - (lg_sl ([.ref (ad 0), .int p1])).length) Slot.unset).toArray = ls at hl ⊢
  have hl : lv_has ls 3 [(0, .ref (ad 0)), (1, .int p1)] := hl
  refine lv_aload_n hx hb dL_crank_0 rfl (lv_at hl 0 rfl) ?_
  refine lv_iload_n hx hb dL_crank_1 rfl (lv_at hl 1 rfl) ?_
  have h9 : Ok (bnd2 (hX9_crank p1 u) (fun r q => some (r, q))) (fun q => K q.1 q.2) := by
    obtain ⟨a, e9, k9⟩ := h1
    exact ⟨a, (by rw [show hX9_crank p1 u = some a from e9]; rfl), k9⟩
  refine kc_iV0 (mk := wF cy ad hh aa pa) (b := (ad 0)) (As := [.int p1]) (rest := []) h9 ⟨hx, hb, hml, hown, hts⟩ (cX9_crankM l D cy ad hh aa pa s.heap.size u p1) (cwV 1 hts gL_crank_X9_crank rfl rfl rfl hdX9_crank ⟨Nat.le_of_ble_eq_true rfl, Nat.le_of_ble_eq_true rfl⟩) hK hP hD hS hA (q0 := 0) (wF_c0 _ _ _ _ _ _) rfl rfl hl.1 rfl (Nat.le_of_ble_eq_true rfl) dL_crank_2 ⟨Nat.zero_le _, Nat.zero_le _⟩ (fun r v H locs h9 hP hD hS => ?_)
  exact kh_ret (mk := wF cy ad hh aa pa) (u := v) hx hb hr hlocks hP hD hS h9.ret dL_crank_5
theorem hdX9_save : yX9_save.cls = RX9 ∧ yX9_save.cls ≠ "java/lang/invoke/MethodHandle" ∧ yX9_save.cls ≠ "java/lang/invoke/VarHandle" ∧ (parseMethodDescriptor yX9_save.desc).map (fun d => d.parameters.length) = some 1 := by decide +kernel
abbrev rmL_save : Room := { frames := 3, cells := 0, slots := 0, locals := 83 }
def fL_save (p1 : Int32) (u : FS) : Option (Int32 × FS) := bnd (hX9_save p1 u) (fun q => some ((0 : Int32), q))
set_option maxHeartbeats 4000000 in
set_option maxRecDepth 100000 in
theorem cL_saveM (l : Launch) (D : va_G) (cy : Nat → ClassId) (ad hh : Nat → Nat) (aa : Nat → Nat → Nat) (pa : Nat → Nat) (sz : Nat) (u : FS) (p1 : Int32) : ∀ (K : Int32 → FS → Prop), Ok (fL_save p1 u) (fun q => K q.1 q.2) → vx_Met l yL_save wsL_save rmL_save (va_Pc [.ref (ad 0), .int p1] (kPre D cy sz (wF cy ad hh aa pa u))) (va_Qi K (fun q => kPost D (va_A (wF cy ad hh aa pa u) sz) (wF cy ad hh aa pa q)) (va_A (wF cy ad hh aa pa u) sz)) (XF (va_A (wF cy ad hh aa pa u) sz)) 0 0 (va_A (wF cy ad hh aa pa u) sz) := by
  intro K h1
  refine vx_ofWH (cc := cL_save) (maxL := 3) (ret := some .int) (hh := [(0, 6, 7, 50)]) (by decide) rfl ?_
  intro p e s m args below meth c s₁ B hml hv
  obtain ⟨rfl, hsz, hP, hK, hD0⟩ := hv
  subst hsz
  have hts := atoms_spec (ws := wsL_save) B.pre
  have hx := B.exec
  have hb := B.bytes
  have hr := B.returns
  have hown : s.vm.findClass RL = some m.cls := findClass_of_methodNamed B.named
  have hlocks := B.notSynchronized
  have hD := hD0.self (sz := s.heap.size)
  have hA : ∀ q, s.heap.size ≤ q → va_A (wF cy ad hh aa pa u) s.heap.size q := fun q h => Or.inr h
  generalize va_A (wF cy ad hh aa pa u) s.heap.size = A at hD hA ⊢
  have hS : va_S A s.heap s.heap [] := va_S.rf
  have hl := lv_entry ([.ref (ad 0), .int p1]) (n := 3) (Nat.le_of_ble_eq_true rfl)
  rw [lg_entry_eq]
  generalize (lg_sl ([.ref (ad 0), .int p1]) ++ List.replicate (3 - (lg_sl ([.ref (ad 0), .int p1])).length) Slot.unset).toArray = ls at hl ⊢
  have hl : lv_has ls 3 [(0, .ref (ad 0)), (1, .int p1)] := hl
  refine lv_aload_n hx hb dL_save_0 rfl (lv_at hl 0 rfl) ?_
  refine lv_iload_n hx hb dL_save_1 rfl (lv_at hl 1 rfl) ?_
  have h9 : Ok (bnd (hX9_save p1 u) (fun q => some ((0 : Int32), q))) (fun q => K q.1 q.2) := h1
  refine kc_vV0 (mk := wF cy ad hh aa pa) (b := (ad 0)) (As := [.int p1]) (rest := []) h9 ⟨hx, hb, hml, hown, hts⟩ (cX9_saveM l D cy ad hh aa pa s.heap.size u p1) (cwV 1 hts gL_save_X9_save rfl rfl rfl hdX9_save ⟨Nat.le_of_ble_eq_true rfl, Nat.le_of_ble_eq_true rfl⟩) hK hP hD hS hA (q0 := 0) (wF_c0 _ _ _ _ _ _) rfl rfl hl.1 rfl (Nat.le_of_ble_eq_true rfl) dL_save_2 ⟨Nat.zero_le _, Nat.zero_le _⟩ (fun v H locs h9 hP hD hS => ?_)
  refine lv_iconst (v := 0) hx hb dL_save_5 rfl ?_
  exact kh_ret (mk := wF cy ad hh aa pa) (u := v) hx hb hr hlocks hP hD hS h9.ret dL_save_6
theorem hdX9_restore : yX9_restore.cls = RX9 ∧ yX9_restore.cls ≠ "java/lang/invoke/MethodHandle" ∧ yX9_restore.cls ≠ "java/lang/invoke/VarHandle" ∧ (parseMethodDescriptor yX9_restore.desc).map (fun d => d.parameters.length) = some 1 := by decide +kernel
abbrev rmL_restore : Room := { frames := 3, cells := 0, slots := 0, locals := 83 }
def fL_restore (p1 : Int32) (u : FS) : Option (Int32 × FS) := bnd (hX9_restore p1 u) (fun q => some ((0 : Int32), q))
set_option maxHeartbeats 4000000 in
set_option maxRecDepth 100000 in
theorem cL_restoreM (l : Launch) (D : va_G) (cy : Nat → ClassId) (ad hh : Nat → Nat) (aa : Nat → Nat → Nat) (pa : Nat → Nat) (sz : Nat) (u : FS) (p1 : Int32) : ∀ (K : Int32 → FS → Prop), Ok (fL_restore p1 u) (fun q => K q.1 q.2) → vx_Met l yL_restore wsL_restore rmL_restore (va_Pc [.ref (ad 0), .int p1] (kPre D cy sz (wF cy ad hh aa pa u))) (va_Qi K (fun q => kPost D (va_A (wF cy ad hh aa pa u) sz) (wF cy ad hh aa pa q)) (va_A (wF cy ad hh aa pa u) sz)) (XF (va_A (wF cy ad hh aa pa u) sz)) 0 0 (va_A (wF cy ad hh aa pa u) sz) := by
  intro K h1
  refine vx_ofWH (cc := cL_restore) (maxL := 3) (ret := some .int) (hh := [(0, 6, 7, 50), (0, 6, 11, 116)]) (by decide) rfl ?_
  intro p e s m args below meth c s₁ B hml hv
  obtain ⟨rfl, hsz, hP, hK, hD0⟩ := hv
  subst hsz
  have hts := atoms_spec (ws := wsL_restore) B.pre
  have hx := B.exec
  have hb := B.bytes
  have hr := B.returns
  have hown : s.vm.findClass RL = some m.cls := findClass_of_methodNamed B.named
  have hlocks := B.notSynchronized
  have hD := hD0.self (sz := s.heap.size)
  have hA : ∀ q, s.heap.size ≤ q → va_A (wF cy ad hh aa pa u) s.heap.size q := fun q h => Or.inr h
  generalize va_A (wF cy ad hh aa pa u) s.heap.size = A at hD hA ⊢
  have hS : va_S A s.heap s.heap [] := va_S.rf
  have hl := lv_entry ([.ref (ad 0), .int p1]) (n := 3) (Nat.le_of_ble_eq_true rfl)
  rw [lg_entry_eq]
  generalize (lg_sl ([.ref (ad 0), .int p1]) ++ List.replicate (3 - (lg_sl ([.ref (ad 0), .int p1])).length) Slot.unset).toArray = ls at hl ⊢
  have hl : lv_has ls 3 [(0, .ref (ad 0)), (1, .int p1)] := hl
  refine lv_aload_n hx hb dL_restore_0 rfl (lv_at hl 0 rfl) ?_
  refine lv_iload_n hx hb dL_restore_1 rfl (lv_at hl 1 rfl) ?_
  have h9 : Ok (bnd (hX9_restore p1 u) (fun q => some ((0 : Int32), q))) (fun q => K q.1 q.2) := h1
  refine kc_vV0 (mk := wF cy ad hh aa pa) (b := (ad 0)) (As := [.int p1]) (rest := []) h9 ⟨hx, hb, hml, hown, hts⟩ (cX9_restoreM l D cy ad hh aa pa s.heap.size u p1) (cwV 1 hts gL_restore_X9_restore rfl rfl rfl hdX9_restore ⟨Nat.le_of_ble_eq_true rfl, Nat.le_of_ble_eq_true rfl⟩) hK hP hD hS hA (q0 := 0) (wF_c0 _ _ _ _ _ _) rfl rfl hl.1 rfl (Nat.le_of_ble_eq_true rfl) dL_restore_2 ⟨Nat.zero_le _, Nat.zero_le _⟩ (fun v H locs h9 hP hD hS => ?_)
  refine lv_iconst (v := 0) hx hb dL_restore_5 rfl ?_
  exact kh_ret (mk := wF cy ad hh aa pa) (u := v) hx hb hr hlocks hP hD hS h9.ret dL_restore_6
theorem hdX9_appendText : yX9_appendText.cls = RX9 ∧ yX9_appendText.cls ≠ "java/lang/invoke/MethodHandle" ∧ yX9_appendText.cls ≠ "java/lang/invoke/VarHandle" ∧ (parseMethodDescriptor yX9_appendText.desc).map (fun d => d.parameters.length) = some 1 := by decide +kernel
abbrev rmL_appendText : Room := { frames := 2, cells := 0, slots := 0, locals := 43 }
def fL_appendText (p1 : Int32) (u : FS) : Option (Int32 × FS) := hX9_appendText p1 u
set_option maxHeartbeats 4000000 in
set_option maxRecDepth 100000 in
theorem cL_appendTextM (l : Launch) (D : va_G) (cy : Nat → ClassId) (ad hh : Nat → Nat) (aa : Nat → Nat → Nat) (pa : Nat → Nat) (sz : Nat) (u : FS) (p1 : Int32) : ∀ (K : Int32 → FS → Prop), Ok (fL_appendText p1 u) (fun q => K q.1 q.2) → vx_Met l yL_appendText wsL_appendText rmL_appendText (va_Pc [.ref (ad 0), .int p1] (kPre D cy sz (wF cy ad hh aa pa u))) (va_Qi K (fun q => kPost D (va_A (wF cy ad hh aa pa u) sz) (wF cy ad hh aa pa q)) (va_A (wF cy ad hh aa pa u) sz)) (XF (va_A (wF cy ad hh aa pa u) sz)) 0 0 (va_A (wF cy ad hh aa pa u) sz) := by
  intro K h1
  refine vx_ofWH (cc := cL_appendText) (maxL := 3) (ret := some .int) (hh := [(0, 5, 6, 116)]) (by decide) rfl ?_
  intro p e s m args below meth c s₁ B hml hv
  obtain ⟨rfl, hsz, hP, hK, hD0⟩ := hv
  subst hsz
  have hts := atoms_spec (ws := wsL_appendText) B.pre
  have hx := B.exec
  have hb := B.bytes
  have hr := B.returns
  have hown : s.vm.findClass RL = some m.cls := findClass_of_methodNamed B.named
  have hlocks := B.notSynchronized
  have hD := hD0.self (sz := s.heap.size)
  have hA : ∀ q, s.heap.size ≤ q → va_A (wF cy ad hh aa pa u) s.heap.size q := fun q h => Or.inr h
  generalize va_A (wF cy ad hh aa pa u) s.heap.size = A at hD hA ⊢
  have hS : va_S A s.heap s.heap [] := va_S.rf
  have hl := lv_entry ([.ref (ad 0), .int p1]) (n := 3) (Nat.le_of_ble_eq_true rfl)
  rw [lg_entry_eq]
  generalize (lg_sl ([.ref (ad 0), .int p1]) ++ List.replicate (3 - (lg_sl ([.ref (ad 0), .int p1])).length) Slot.unset).toArray = ls at hl ⊢
  have hl : lv_has ls 3 [(0, .ref (ad 0)), (1, .int p1)] := hl
  refine lv_aload_n hx hb dL_appendText_0 rfl (lv_at hl 0 rfl) ?_
  refine lv_iload_n hx hb dL_appendText_1 rfl (lv_at hl 1 rfl) ?_
  have h9 : Ok (bnd2 (hX9_appendText p1 u) (fun r q => some (r, q))) (fun q => K q.1 q.2) := by
    obtain ⟨a, e9, k9⟩ := h1
    exact ⟨a, (by rw [show hX9_appendText p1 u = some a from e9]; rfl), k9⟩
  refine kc_iV0 (mk := wF cy ad hh aa pa) (b := (ad 0)) (As := [.int p1]) (rest := []) h9 ⟨hx, hb, hml, hown, hts⟩ (cX9_appendTextM l D cy ad hh aa pa s.heap.size u p1) (cwV 1 hts gL_appendText_X9_appendText rfl rfl rfl hdX9_appendText ⟨Nat.le_of_ble_eq_true rfl, Nat.le_of_ble_eq_true rfl⟩) hK hP hD hS hA (q0 := 0) (wF_c0 _ _ _ _ _ _) rfl rfl hl.1 rfl (Nat.le_of_ble_eq_true rfl) dL_appendText_2 ⟨Nat.zero_le _, Nat.zero_le _⟩ (fun r v H locs h9 hP hD hS => ?_)
  exact kh_ret (mk := wF cy ad hh aa pa) (u := v) hx hb hr hlocks hP hD hS h9.ret dL_appendText_5
theorem hdX9_truncateText : yX9_truncateText.cls = RX9 ∧ yX9_truncateText.cls ≠ "java/lang/invoke/MethodHandle" ∧ yX9_truncateText.cls ≠ "java/lang/invoke/VarHandle" ∧ (parseMethodDescriptor yX9_truncateText.desc).map (fun d => d.parameters.length) = some 1 := by decide +kernel
abbrev rmL_truncateText : Room := { frames := 1, cells := 0, slots := 0, locals := 21 }
def fL_truncateText (p1 : Int32) (u : FS) : Option (Int32 × FS) := hX9_truncateText p1 u
set_option maxHeartbeats 4000000 in
set_option maxRecDepth 100000 in
theorem cL_truncateTextM (l : Launch) (D : va_G) (cy : Nat → ClassId) (ad hh : Nat → Nat) (aa : Nat → Nat → Nat) (pa : Nat → Nat) (sz : Nat) (u : FS) (p1 : Int32) : ∀ (K : Int32 → FS → Prop), Ok (fL_truncateText p1 u) (fun q => K q.1 q.2) → vx_Met l yL_truncateText wsL_truncateText rmL_truncateText (va_Pc [.ref (ad 0), .int p1] (kPre D cy sz (wF cy ad hh aa pa u))) (va_Qi K (fun q => kPost D (va_A (wF cy ad hh aa pa u) sz) (wF cy ad hh aa pa q)) (va_A (wF cy ad hh aa pa u) sz)) (XF (va_A (wF cy ad hh aa pa u) sz)) 0 0 (va_A (wF cy ad hh aa pa u) sz) := by
  intro K h1
  refine vx_ofWH (cc := cL_truncateText) (maxL := 3) (ret := some .int) (hh := [(0, 5, 6, 50)]) (by decide) rfl ?_
  intro p e s m args below meth c s₁ B hml hv
  obtain ⟨rfl, hsz, hP, hK, hD0⟩ := hv
  subst hsz
  have hts := atoms_spec (ws := wsL_truncateText) B.pre
  have hx := B.exec
  have hb := B.bytes
  have hr := B.returns
  have hown : s.vm.findClass RL = some m.cls := findClass_of_methodNamed B.named
  have hlocks := B.notSynchronized
  have hD := hD0.self (sz := s.heap.size)
  have hA : ∀ q, s.heap.size ≤ q → va_A (wF cy ad hh aa pa u) s.heap.size q := fun q h => Or.inr h
  generalize va_A (wF cy ad hh aa pa u) s.heap.size = A at hD hA ⊢
  have hS : va_S A s.heap s.heap [] := va_S.rf
  have hl := lv_entry ([.ref (ad 0), .int p1]) (n := 3) (Nat.le_of_ble_eq_true rfl)
  rw [lg_entry_eq]
  generalize (lg_sl ([.ref (ad 0), .int p1]) ++ List.replicate (3 - (lg_sl ([.ref (ad 0), .int p1])).length) Slot.unset).toArray = ls at hl ⊢
  have hl : lv_has ls 3 [(0, .ref (ad 0)), (1, .int p1)] := hl
  refine lv_aload_n hx hb dL_truncateText_0 rfl (lv_at hl 0 rfl) ?_
  refine lv_iload_n hx hb dL_truncateText_1 rfl (lv_at hl 1 rfl) ?_
  have h9 : Ok (bnd2 (hX9_truncateText p1 u) (fun r q => some (r, q))) (fun q => K q.1 q.2) := by
    obtain ⟨a, e9, k9⟩ := h1
    exact ⟨a, (by rw [show hX9_truncateText p1 u = some a from e9]; rfl), k9⟩
  refine kc_iV0 (mk := wF cy ad hh aa pa) (b := (ad 0)) (As := [.int p1]) (rest := []) h9 ⟨hx, hb, hml, hown, hts⟩ (cX9_truncateTextM l D cy ad hh aa pa s.heap.size u p1) (cwV 1 hts gL_truncateText_X9_truncateText rfl rfl rfl hdX9_truncateText ⟨Nat.le_of_ble_eq_true rfl, Nat.le_of_ble_eq_true rfl⟩) hK hP hD hS hA (q0 := 0) (wF_c0 _ _ _ _ _ _) rfl rfl hl.1 rfl (Nat.le_of_ble_eq_true rfl) dL_truncateText_2 ⟨Nat.zero_le _, Nat.zero_le _⟩ (fun r v H locs h9 hP hD hS => ?_)
  exact kh_ret (mk := wF cy ad hh aa pa) (u := v) hx hb hr hlocks hP hD hS h9.ret dL_truncateText_5
