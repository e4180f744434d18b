/-! p48: the law's pieces put together, but for loads -/
/-- what holds between the law's turns -/
def lawInv (n : Nat) (F : FS) : Prop := ∃ g, FG (61000 + 2000 * (n : Int)) F g ∧ PX g
theorem lawInv.up {n : Nat} {F : FS} {g : Nat → Int32} {B : Int} (h : FG B F g) (P : PX g) (hn : n ≤ 60) (hB : B ≤ 61000 + 2000 * (n : Int)) : lawInv n F := ⟨g, h.mono hB (by omega), P⟩
theorem lawOk_of {Y : YB} (hN : Y.2.2.1 < 2147483648) {InvL : FS → Prop} (hL : ∀ n u, n ≤ 60 → lawInv n u → InvL u) (hl : ∀ (k : Nat) (u : FS), k < 100000 → InvL u → Ok (fL_loads Y k u) (fun q => q.1 = 1 ∧ lawInv 0 q.2)) : LawOk Y lawInv InvL := by
  refine ⟨hL, hl, fun n k u hn hk ⟨g, h, P⟩ => ⟨1, au_G h P Y (nI k), rfl⟩, fun n k u hn hk ⟨g, h, P⟩ => ?_, fun n k u hn hk ⟨g, h, P⟩ => ?_, fun n k u hn hk ⟨g, h, P⟩ => ?_, fun n k u hn hk ⟨g, h, P⟩ => ?_, fun n u hn ⟨g, h, P⟩ => lawInv.up h P (by omega) (by omega)⟩
  · obtain ⟨F', e, h', P', -⟩ := ti_L h P (by omega) Y (nI k)
    exact ⟨(1, F'), e, rfl, lawInv.up h' P' (by omega) (by omega)⟩
  · obtain ⟨F', k1, g', e, hk1, h', P'⟩ := co_L h P (by omega) hN (k := k) (by omega)
    exact ⟨(1, nI k1, F'), e, rfl, ⟨k1, hk1, rfl⟩, lawInv.up h' P' (by omega) (by omega)⟩
  · obtain ⟨F', k1, e, hk1, h'⟩ := be_L h P (by omega) hN (k := k) (by omega)
    exact ⟨(1, nI k1, F'), e, rfl, ⟨k1, hk1, rfl⟩, lawInv.up h' P (by omega) (by omega)⟩
  · obtain ⟨F', k1, g', e, hk1, h', P'⟩ := ot_L h P (by omega) hN (k := k) (by omega)
    exact ⟨(1, nI k1, F'), e, rfl, ⟨k1, hk1, rfl⟩, lawInv.up h' P' (by omega) (by omega)⟩
