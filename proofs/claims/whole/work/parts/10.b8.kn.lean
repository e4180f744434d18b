/-! THE START: rows for the three makings -/
section KN3
variable {p : Program} {l : Launch} {e : Env} {R : Room} {s : State} {m : MethodId} {args : Array Value} {below : List Frame} {meth : Method} {c : Code} {H H0 : Heap} {locs : List Loc} {cells slots : Nat} {Q : State → Prop}
variable {Ts wy : List Cond} {cc bytes : ByteArray} {nL maxL index n q0 ci N mc ms pc : Nat} {own C host : String} {T : u_T} {y : MethodName} {ret : Option FieldType} {rm : Room} {b : Addr} {As rest st : List Value} {fs : List Value} {ls : Array Slot}
variable {D : va_G} {cy : Nat → ClassId} {ws wc wr : va_W} {A : Nat → Prop} {S γ : Type} {mk : S → va_W} {K0 : γ → Prop}
theorem k_newl (hx : p.tables.exec = Jvm.exec) (hb : c.code = cc) (harr : (Cond.arrayClass .long).before args s = true) (hK : mK D cy s) (hP : va_P D vwCl ws H) (hD : va_D A ws) (hS : va_S A H0 H locs) (hA : ∀ q, H0.size ≤ q → A q) {i : Int32} {k : Nat} (hn : ¬ i < 0) (hN : i.toNatClampNeg = k) (hbytes : k * 8 ≤ 536870912) (hc : cells + 1 ≤ R.cells) (hs : slots + k ≤ R.slots) (hdg : decode cc pc = .ok (.newarray .long, 2))
    (kk : ∀ (q : Nat) (H1 : Heap), va_P D vwCl (ws ++ [(q, .inl (cy 3, k, .inr (.inl (fun _ => 0))))]) H1 → va_D A (ws ++ [(q, .inl (cy 3, k, .inr (.inl (fun _ => 0))))]) → va_S A H0 H1 locs → W p l e R s m args below meth c H1 locs (cells + 1) (slots + k) Q (F0 m (pc + 2) ls (.ref q :: rest))) : W p l e R s m args below meth c H locs cells slots Q (F0 m pc ls (.int i :: rest)) := by
  refine va_newaK (atype := .long) hx hb harr rfl hdg rfl hn hN hbytes hc hs rfl (fun H' cA h1 h2 h3 _ h5 => ?_)
  have e : cA = cy 3 := Option.some.inj (h5.symm.trans (hK.1.2 3 _ rfl).2)
  subst e
  have hk : ∀ q, q < H.size → H'[q]? = H[q]? := h3
  refine kk H.size H' ?_ ?_ ⟨Nat.le_trans hS.1 (by omega), fun q g1 g2 => (hk q (Nat.lt_of_lt_of_le g1 hS.1)).trans (hS.2.1 q g1 g2), hS.2.2⟩
  · refine kP_app.mpr ⟨fun j q hq => (hP j q hq).kept (hk _ (hP j q hq).lt), fun j q hq => ?_⟩
    cases j with
    | zero =>
      cases hq
      exact h1
    | succ j => simp at hq
  · exact hD.push hP rfl (hA _ hS.1)
theorem kc_cP {K : S → Prop} {E : va_E} (CF : CallFix p m c cc nL s args Ts own)
    (hM : Met l y wy rm (va_Pc [.ref b] (kPre D cy H.size [(b, E)])) (va_Qv K (fun u => kPost D (va_A [(b, E)] H.size) (mk u)) (va_A [(b, E)] H.size)) mc ms (va_A [(b, E)] H.size))
    (cw : CallB R s args own index y bytes maxL none wy rm mc ms 0 ∧ y.name = "<init>" ∧ (Cond.instanceMethod y).before args s = true) (hK : mK D cy s)
    (hP : va_P D vwCl (ws ++ [(b, E)]) H) (hD : va_D A (ws ++ [(b, E)])) (hS : va_S A H0 H locs) (hA : ∀ q, H0.size ≤ q → A q)
    (hl : ls.size = nL) (hw : (rest.map fun v => v.category).sum ≤ 8) (hdg : decode cc pc = .ok (.invokespecial index, 3)) (hf : cells + mc ≤ R.cells ∧ slots + ms ≤ R.slots)
    (kk : ∀ (u : S) (H1 : Heap) (locs1 : List Loc), K u → va_P D vwCl (ws ++ mk u) H1 → va_D A (ws ++ mk u) → va_S A H0 H1 locs1 → W p l e R s m args below meth c H1 locs1 (cells + mc) (slots + ms) Q (F0 m (pc + 3) ls rest)) :
    W p l e R s m args below meth c H locs cells slots Q (F0 m pc ls (.ref b :: rest)) :=
  kj_c (As := [.ref b]) (va_runI (As := []) CF hM cw (k_preS hK (kP_app.mp hP).2 (kD_app (kD_perm List.perm_append_comm hD)).1) rfl rfl hl rfl (lv_room hw) hdg hf) hP hD hS hA kk
end KN3
theorem heX9_init : yX9_init.cls ≠ "java/lang/invoke/MethodHandle" ∧ yX9_init.cls ≠ "java/lang/invoke/VarHandle" ∧ (parseMethodDescriptor yX9_init.desc).map (fun d => d.parameters.length) = some 0 := by decide +kernel
theorem heX10_init : yX10_init.cls ≠ "java/lang/invoke/MethodHandle" ∧ yX10_init.cls ≠ "java/lang/invoke/VarHandle" ∧ (parseMethodDescriptor yX10_init.desc).map (fun d => d.parameters.length) = some 0 := by decide +kernel
theorem dvX9 : ∀ j, j < 9 → defaultValue (tyX9 j) = vp_V [.null, .null, .null, .null, .null, .null, .null, .null, .int 0] j := by decide +kernel
theorem dvX10 : ∀ j, j < 23 → defaultValue (tyX10 j) = vp_V [.null, .null, .null, .null, .null, .null, .null, .int 0, .int 0, .null, .null, .int 0, .int 0, .int 0, .int 0, .int 0, .int 0, .int 0, .int 0, .int 0, .int 0, .null, .int 0] j := by decide +kernel
