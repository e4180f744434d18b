-- X9_save
theorem k_fm {α : Type} {l : List α} {k : Nat} {B : α} : ∀ js : List Nat, k ∉ js → js.filterMap (fun i => (l.set k B)[i]?) = js.filterMap (fun i => l[i]?)
  | [], _ => rfl
  | j :: js, h => by
    have h1 : k ≠ j := fun e => h (e ▸ List.mem_cons_self)
    have h2 : k ∉ js := fun e => h (List.mem_cons_of_mem _ e)
    rw [List.filterMap_cons, List.filterMap_cons, List.getElem?_set_ne h1, k_fm js h2]
theorem k_selset {l : List va_W} {k : Nat} {B : va_W} (is js : List Nat) {cs : List va_W} {n : Nat} (h : is.map (fun i => (l.set k B)[i]?) = cs.map some) (hl : l.length = n) (hp : (is ++ js).Perm (List.range n)) (hk : k ∉ js) : (l.set k B).flatten.Perm (cs.flatten ++ (js.filterMap (fun i => l[i]?)).flatten) := by
  rw [← k_fm (B := B) js hk]
  exact k_seln is js h (by rw [List.length_set]; exact hl) hp
theorem inX9_save_X9 : ∀ w ∈ u_ws RX9 TX9 9, w ∈ wsX9_save := k_lays 28 rfl
theorem lkX9_save_26 : Cond.fieldLink RX9 26 "FerryRamp" "saved" "[LFerryRamp$State;" ∈ wsX9_save := List.mem_of_getElem? (i := 3) rfl
theorem wF_c1 (cy : Nat → ClassId) (ad : Nat → Nat) (hh : Nat → Nat) (aa : Nat → Nat → Nat) (pa : Nat → Nat) (u : FS) : (wF cy ad hh aa pa u)[1]? = some ((ad 1), .inl (cy 2, 2, .inr (.inr (.inr (.inr (fun i => some (hh (2 + i)))))))) := fl_atj (l := wFl cy ad hh aa pa u) (j := 0) (q := 1) rfl rfl rfl
theorem lkX9_save_10 : Cond.fieldLink RX9 10 "FerryRamp" "now" "LFerryRamp$State;" ∈ wsX9_save := List.mem_of_getElem? (i := 4) rfl
def wF_r13_1 (cy : Nat → ClassId) (ad : Nat → Nat) (hh : Nat → Nat) (aa : Nat → Nat → Nat) (pa : Nat → Nat) (u : FS) : va_W := (([0, 2, 3, 4, 5, 6, 7, 8, 9, 10, 11, 12, 14] : List Nat).filterMap (fun i => (wFl cy ad hh aa pa u)[i]?)).flatten
theorem wF_sel13_1 (cy : Nat → ClassId) (ad : Nat → Nat) (hh : Nat → Nat) (aa : Nat → Nat → Nat) (pa : Nat → Nat) (u : FS) : (wF cy ad hh aa pa u).Perm (([wS cy (hh 2) (aa 2) (fA u), wS cy (hh 0) (aa 0) (fN u)] : List va_W).flatten ++ wF_r13_1 cy ad hh aa pa u) := k_seln (l := wFl cy ad hh aa pa u) (n := 15) [13, 1] [0, 2, 3, 4, 5, 6, 7, 8, 9, 10, 11, 12, 14] rfl rfl (by decide)
theorem wF_uns13_1_0 (cy : Nat → ClassId) (ad : Nat → Nat) (hh : Nat → Nat) (aa : Nat → Nat → Nat) (pa : Nat → Nat) (u : FS) (x : KS) : (wF cy ad hh aa pa (gA u x)).Perm (([wS cy (hh 2) (aa 2) x, wS cy (hh 0) (aa 0) (fN u)] : List va_W).flatten ++ wF_r13_1 cy ad hh aa pa u) := by
  have e : wFl cy ad hh aa pa (gA u x) = (wFl cy ad hh aa pa u).set 13 (wS cy (hh 2) (aa 2) x) := rfl
  unfold wF
  rw [e]
  exact k_selset (l := wFl cy ad hh aa pa u) (n := 15) [13, 1] [0, 2, 3, 4, 5, 6, 7, 8, 9, 10, 11, 12, 14] rfl rfl (by decide) (by decide)
theorem lkX9_save_30 : Cond.fieldLink RX9 30 "FerryRamp" "isSaved" "[Z" ∈ wsX9_save := List.mem_of_getElem? (i := 5) rfl
theorem wF_c2 (cy : Nat → ClassId) (ad : Nat → Nat) (hh : Nat → Nat) (aa : Nat → Nat → Nat) (pa : Nat → Nat) (u : FS) : (wF cy ad hh aa pa u)[2]? = some ((ad 2), .inl (cy 1, 2, .inl (fI u))) := fl_atj (l := wFl cy ad hh aa pa u) (j := 0) (q := 2) rfl rfl rfl
theorem wF_s2 (cy : Nat → ClassId) (ad : Nat → Nat) (hh : Nat → Nat) (aa : Nat → Nat → Nat) (pa : Nat → Nat) (u : FS) (i : Nat) (x : Int32) : (wF cy ad hh aa pa u).set 2 ((ad 2), .inl (cy 1, 2, .inl (upd (fI u) i x))) = wF cy ad hh aa pa (gI u i x) := (fl_setj (l := wFl cy ad hh aa pa u) (j := 0) (q := 2) (Bn := (wFl cy ad hh aa pa (gI u i x)).getD 0 []) rfl rfl (Nat.le_of_ble_eq_true rfl) rfl).trans rfl
def wF_r14_1 (cy : Nat → ClassId) (ad : Nat → Nat) (hh : Nat → Nat) (aa : Nat → Nat → Nat) (pa : Nat → Nat) (u : FS) : va_W := (([0, 2, 3, 4, 5, 6, 7, 8, 9, 10, 11, 12, 13] : List Nat).filterMap (fun i => (wFl cy ad hh aa pa u)[i]?)).flatten
theorem wF_sel14_1 (cy : Nat → ClassId) (ad : Nat → Nat) (hh : Nat → Nat) (aa : Nat → Nat → Nat) (pa : Nat → Nat) (u : FS) : (wF cy ad hh aa pa u).Perm (([wS cy (hh 3) (aa 3) (fB u), wS cy (hh 0) (aa 0) (fN u)] : List va_W).flatten ++ wF_r14_1 cy ad hh aa pa u) := k_seln (l := wFl cy ad hh aa pa u) (n := 15) [14, 1] [0, 2, 3, 4, 5, 6, 7, 8, 9, 10, 11, 12, 13] rfl rfl (by decide)
theorem wF_uns14_1_0 (cy : Nat → ClassId) (ad : Nat → Nat) (hh : Nat → Nat) (aa : Nat → Nat → Nat) (pa : Nat → Nat) (u : FS) (x : KS) : (wF cy ad hh aa pa (gB u x)).Perm (([wS cy (hh 3) (aa 3) x, wS cy (hh 0) (aa 0) (fN u)] : List va_W).flatten ++ wF_r14_1 cy ad hh aa pa u) := by
  have e : wFl cy ad hh aa pa (gB u x) = (wFl cy ad hh aa pa u).set 14 (wS cy (hh 3) (aa 3) x) := rfl
  unfold wF
  rw [e]
  exact k_selset (l := wFl cy ad hh aa pa u) (n := 15) [14, 1] [0, 2, 3, 4, 5, 6, 7, 8, 9, 10, 11, 12, 13] rfl rfl (by decide) (by decide)
-- X9_restore
theorem inX9_restore_X9 : ∀ w ∈ u_ws RX9 TX9 9, w ∈ wsX9_restore := k_lays 37 rfl
theorem lkX9_restore_26 : Cond.fieldLink RX9 26 "FerryRamp" "saved" "[LFerryRamp$State;" ∈ wsX9_restore := List.mem_of_getElem? (i := 5) rfl
theorem lkX9_restore_30 : Cond.fieldLink RX9 30 "FerryRamp" "isSaved" "[Z" ∈ wsX9_restore := List.mem_of_getElem? (i := 6) rfl
theorem lkX9_restore_10 : Cond.fieldLink RX9 10 "FerryRamp" "now" "LFerryRamp$State;" ∈ wsX9_restore := List.mem_of_getElem? (i := 7) rfl
def wF_r1_13 (cy : Nat → ClassId) (ad : Nat → Nat) (hh : Nat → Nat) (aa : Nat → Nat → Nat) (pa : Nat → Nat) (u : FS) : va_W := (([0, 2, 3, 4, 5, 6, 7, 8, 9, 10, 11, 12, 14] : List Nat).filterMap (fun i => (wFl cy ad hh aa pa u)[i]?)).flatten
theorem wF_sel1_13 (cy : Nat → ClassId) (ad : Nat → Nat) (hh : Nat → Nat) (aa : Nat → Nat → Nat) (pa : Nat → Nat) (u : FS) : (wF cy ad hh aa pa u).Perm (([wS cy (hh 0) (aa 0) (fN u), wS cy (hh 2) (aa 2) (fA u)] : List va_W).flatten ++ wF_r1_13 cy ad hh aa pa u) := k_seln (l := wFl cy ad hh aa pa u) (n := 15) [1, 13] [0, 2, 3, 4, 5, 6, 7, 8, 9, 10, 11, 12, 14] rfl rfl (by decide)
theorem wF_uns1_13_0 (cy : Nat → ClassId) (ad : Nat → Nat) (hh : Nat → Nat) (aa : Nat → Nat → Nat) (pa : Nat → Nat) (u : FS) (x : KS) : (wF cy ad hh aa pa (gN u x)).Perm (([wS cy (hh 0) (aa 0) x, wS cy (hh 2) (aa 2) (fA u)] : List va_W).flatten ++ wF_r1_13 cy ad hh aa pa u) := by
  have e : wFl cy ad hh aa pa (gN u x) = (wFl cy ad hh aa pa u).set 1 (wS cy (hh 0) (aa 0) x) := rfl
  unfold wF
  rw [e]
  exact k_selset (l := wFl cy ad hh aa pa u) (n := 15) [1, 13] [0, 2, 3, 4, 5, 6, 7, 8, 9, 10, 11, 12, 14] rfl rfl (by decide) (by decide)
theorem lkX9_restore_22 : Cond.fieldLink RX9 22 "FerryRamp" "history" "LFerryRamp$History;" ∈ wsX9_restore := List.mem_of_getElem? (i := 8) rfl
def wF_r1_14 (cy : Nat → ClassId) (ad : Nat → Nat) (hh : Nat → Nat) (aa : Nat → Nat → Nat) (pa : Nat → Nat) (u : FS) : va_W := (([0, 2, 3, 4, 5, 6, 7, 8, 9, 10, 11, 12, 13] : List Nat).filterMap (fun i => (wFl cy ad hh aa pa u)[i]?)).flatten
theorem wF_sel1_14 (cy : Nat → ClassId) (ad : Nat → Nat) (hh : Nat → Nat) (aa : Nat → Nat → Nat) (pa : Nat → Nat) (u : FS) : (wF cy ad hh aa pa u).Perm (([wS cy (hh 0) (aa 0) (fN u), wS cy (hh 3) (aa 3) (fB u)] : List va_W).flatten ++ wF_r1_14 cy ad hh aa pa u) := k_seln (l := wFl cy ad hh aa pa u) (n := 15) [1, 14] [0, 2, 3, 4, 5, 6, 7, 8, 9, 10, 11, 12, 13] rfl rfl (by decide)
theorem wF_uns1_14_0 (cy : Nat → ClassId) (ad : Nat → Nat) (hh : Nat → Nat) (aa : Nat → Nat → Nat) (pa : Nat → Nat) (u : FS) (x : KS) : (wF cy ad hh aa pa (gN u x)).Perm (([wS cy (hh 0) (aa 0) x, wS cy (hh 3) (aa 3) (fB u)] : List va_W).flatten ++ wF_r1_14 cy ad hh aa pa u) := by
  have e : wFl cy ad hh aa pa (gN u x) = (wFl cy ad hh aa pa u).set 1 (wS cy (hh 0) (aa 0) x) := rfl
  unfold wF
  rw [e]
  exact k_selset (l := wFl cy ad hh aa pa u) (n := 15) [1, 14] [0, 2, 3, 4, 5, 6, 7, 8, 9, 10, 11, 12, 13] rfl rfl (by decide) (by decide)
