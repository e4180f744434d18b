/-! what a change of some numbers leaves as it was -/
theorem eRA_0 {u : KS} {g : Nat → Int32} (R : eRA u g) (x : Int32) : eRA (wC u 0 x) (upd g 0 x) := by
  obtain ⟨⟨h0, h1, h2, h3, h4, h5, h6, h7, h8, h9, h10, h11, h12, h13, h14⟩, k1, k2, k3, k4, k5⟩ := R
  exact ⟨⟨rfl, h1, h2, h3, h4, h5, h6, h7, h8, h9, h10, h11, h12, h13, h14⟩, fun i hi => by rw [pk_un (by omega)]; exact k1 i hi, fun i hi => by rw [pk_un (by omega)]; exact k2 i hi, fun i hi => by rw [pk_un (by omega)]; exact k3 i hi,
    fun i hi => by rw [pk_un (by omega)]; exact k4 i hi, fun i hi hj => by rw [pk_un (by omega)]; exact k5 i hi hj⟩
theorem eRA_4 {u : KS} {g : Nat → Int32} (R : eRA u g) (x : Int32) : eRA (wC u 4 x) (upd g 1 x) := by
  obtain ⟨⟨h0, h1, h2, h3, h4, h5, h6, h7, h8, h9, h10, h11, h12, h13, h14⟩, k1, k2, k3, k4, k5⟩ := R
  exact ⟨⟨h0, h1, h2, rfl, h4, h5, h6, h7, h8, h9, h10, h11, h12, h13, h14⟩, fun i hi => by rw [pk_un (by omega)]; exact k1 i hi, fun i hi => by rw [pk_un (by omega)]; exact k2 i hi, fun i hi => by rw [pk_un (by omega)]; exact k3 i hi,
    fun i hi => by rw [pk_un (by omega)]; exact k4 i hi, fun i hi hj => by rw [pk_un (by omega)]; exact k5 i hi hj⟩
theorem eRA_5 {u : KS} {g : Nat → Int32} (R : eRA u g) (x : Int32) : eRA (wC u 5 x) (upd g 2 x) := by
  obtain ⟨⟨h0, h1, h2, h3, h4, h5, h6, h7, h8, h9, h10, h11, h12, h13, h14⟩, k1, k2, k3, k4, k5⟩ := R
  exact ⟨⟨h0, h1, h2, h3, rfl, h5, h6, h7, h8, h9, h10, h11, h12, h13, h14⟩, fun i hi => by rw [pk_un (by omega)]; exact k1 i hi, fun i hi => by rw [pk_un (by omega)]; exact k2 i hi, fun i hi => by rw [pk_un (by omega)]; exact k3 i hi,
    fun i hi => by rw [pk_un (by omega)]; exact k4 i hi, fun i hi hj => by rw [pk_un (by omega)]; exact k5 i hi hj⟩
theorem eRA_6 {u : KS} {g : Nat → Int32} (R : eRA u g) (x : Int32) : eRA (wC u 6 x) (upd g 3 x) := by
  obtain ⟨⟨h0, h1, h2, h3, h4, h5, h6, h7, h8, h9, h10, h11, h12, h13, h14⟩, k1, k2, k3, k4, k5⟩ := R
  exact ⟨⟨h0, h1, h2, h3, h4, rfl, h6, h7, h8, h9, h10, h11, h12, h13, h14⟩, fun i hi => by rw [pk_un (by omega)]; exact k1 i hi, fun i hi => by rw [pk_un (by omega)]; exact k2 i hi, fun i hi => by rw [pk_un (by omega)]; exact k3 i hi,
    fun i hi => by rw [pk_un (by omega)]; exact k4 i hi, fun i hi hj => by rw [pk_un (by omega)]; exact k5 i hi hj⟩
theorem eRA_8 {u : KS} {g : Nat → Int32} (R : eRA u g) (x : Int32) : eRA (wC u 8 x) (upd g 4 x) := by
  obtain ⟨⟨h0, h1, h2, h3, h4, h5, h6, h7, h8, h9, h10, h11, h12, h13, h14⟩, k1, k2, k3, k4, k5⟩ := R
  exact ⟨⟨h0, h1, h2, h3, h4, h5, rfl, h7, h8, h9, h10, h11, h12, h13, h14⟩, fun i hi => by rw [pk_un (by omega)]; exact k1 i hi, fun i hi => by rw [pk_un (by omega)]; exact k2 i hi, fun i hi => by rw [pk_un (by omega)]; exact k3 i hi,
    fun i hi => by rw [pk_un (by omega)]; exact k4 i hi, fun i hi hj => by rw [pk_un (by omega)]; exact k5 i hi hj⟩
theorem eRA_9 {u : KS} {g : Nat → Int32} (R : eRA u g) (x : Int32) : eRA (wC u 9 x) (upd g 5 x) := by
  obtain ⟨⟨h0, h1, h2, h3, h4, h5, h6, h7, h8, h9, h10, h11, h12, h13, h14⟩, k1, k2, k3, k4, k5⟩ := R
  exact ⟨⟨h0, h1, h2, h3, h4, h5, h6, rfl, h8, h9, h10, h11, h12, h13, h14⟩, fun i hi => by rw [pk_un (by omega)]; exact k1 i hi, fun i hi => by rw [pk_un (by omega)]; exact k2 i hi, fun i hi => by rw [pk_un (by omega)]; exact k3 i hi,
    fun i hi => by rw [pk_un (by omega)]; exact k4 i hi, fun i hi hj => by rw [pk_un (by omega)]; exact k5 i hi hj⟩
theorem eRA_10 {u : KS} {g : Nat → Int32} (R : eRA u g) (x : Int32) : eRA (wC u 10 x) (upd g 6 x) := by
  obtain ⟨⟨h0, h1, h2, h3, h4, h5, h6, h7, h8, h9, h10, h11, h12, h13, h14⟩, k1, k2, k3, k4, k5⟩ := R
  exact ⟨⟨h0, h1, h2, h3, h4, h5, h6, h7, rfl, h9, h10, h11, h12, h13, h14⟩, fun i hi => by rw [pk_un (by omega)]; exact k1 i hi, fun i hi => by rw [pk_un (by omega)]; exact k2 i hi, fun i hi => by rw [pk_un (by omega)]; exact k3 i hi,
    fun i hi => by rw [pk_un (by omega)]; exact k4 i hi, fun i hi hj => by rw [pk_un (by omega)]; exact k5 i hi hj⟩
theorem eRA_11 {u : KS} {g : Nat → Int32} (R : eRA u g) (x : Int32) : eRA (wC u 11 x) (upd g 7 x) := by
  obtain ⟨⟨h0, h1, h2, h3, h4, h5, h6, h7, h8, h9, h10, h11, h12, h13, h14⟩, k1, k2, k3, k4, k5⟩ := R
  exact ⟨⟨h0, h1, h2, h3, h4, h5, h6, h7, h8, rfl, h10, h11, h12, h13, h14⟩, fun i hi => by rw [pk_un (by omega)]; exact k1 i hi, fun i hi => by rw [pk_un (by omega)]; exact k2 i hi, fun i hi => by rw [pk_un (by omega)]; exact k3 i hi,
    fun i hi => by rw [pk_un (by omega)]; exact k4 i hi, fun i hi hj => by rw [pk_un (by omega)]; exact k5 i hi hj⟩
theorem eRA_13 {u : KS} {g : Nat → Int32} (R : eRA u g) (x : Int32) : eRA (wC u 13 x) (upd g 9 x) := by
  obtain ⟨⟨h0, h1, h2, h3, h4, h5, h6, h7, h8, h9, h10, h11, h12, h13, h14⟩, k1, k2, k3, k4, k5⟩ := R
  exact ⟨⟨h0, h1, h2, h3, h4, h5, h6, h7, h8, h9, h10, rfl, h12, h13, h14⟩, fun i hi => by rw [pk_un (by omega)]; exact k1 i hi, fun i hi => by rw [pk_un (by omega)]; exact k2 i hi, fun i hi => by rw [pk_un (by omega)]; exact k3 i hi,
    fun i hi => by rw [pk_un (by omega)]; exact k4 i hi, fun i hi hj => by rw [pk_un (by omega)]; exact k5 i hi hj⟩
theorem eRA_14 {u : KS} {g : Nat → Int32} (R : eRA u g) (x : Int32) : eRA (wC u 14 x) (upd g 10 x) := by
  obtain ⟨⟨h0, h1, h2, h3, h4, h5, h6, h7, h8, h9, h10, h11, h12, h13, h14⟩, k1, k2, k3, k4, k5⟩ := R
  exact ⟨⟨h0, h1, h2, h3, h4, h5, h6, h7, h8, h9, h10, h11, rfl, h13, h14⟩, fun i hi => by rw [pk_un (by omega)]; exact k1 i hi, fun i hi => by rw [pk_un (by omega)]; exact k2 i hi, fun i hi => by rw [pk_un (by omega)]; exact k3 i hi,
    fun i hi => by rw [pk_un (by omega)]; exact k4 i hi, fun i hi hj => by rw [pk_un (by omega)]; exact k5 i hi hj⟩
theorem eRA_15 {u : KS} {g : Nat → Int32} (R : eRA u g) (x : Int32) : eRA (wC u 15 x) (upd g 11 x) := by
  obtain ⟨⟨h0, h1, h2, h3, h4, h5, h6, h7, h8, h9, h10, h11, h12, h13, h14⟩, k1, k2, k3, k4, k5⟩ := R
  exact ⟨⟨h0, h1, h2, h3, h4, h5, h6, h7, h8, h9, h10, h11, h12, rfl, h14⟩, fun i hi => by rw [pk_un (by omega)]; exact k1 i hi, fun i hi => by rw [pk_un (by omega)]; exact k2 i hi, fun i hi => by rw [pk_un (by omega)]; exact k3 i hi,
    fun i hi => by rw [pk_un (by omega)]; exact k4 i hi, fun i hi hj => by rw [pk_un (by omega)]; exact k5 i hi hj⟩
theorem eRA_16 {u : KS} {g : Nat → Int32} (R : eRA u g) (x : Int32) : eRA (wC u 16 x) (upd g 12 x) := by
  obtain ⟨⟨h0, h1, h2, h3, h4, h5, h6, h7, h8, h9, h10, h11, h12, h13, h14⟩, k1, k2, k3, k4, k5⟩ := R
  exact ⟨⟨h0, h1, h2, h3, h4, h5, h6, h7, h8, h9, h10, h11, h12, h13, rfl⟩, fun i hi => by rw [pk_un (by omega)]; exact k1 i hi, fun i hi => by rw [pk_un (by omega)]; exact k2 i hi, fun i hi => by rw [pk_un (by omega)]; exact k3 i hi,
    fun i hi => by rw [pk_un (by omega)]; exact k4 i hi, fun i hi hj => by rw [pk_un (by omega)]; exact k5 i hi hj⟩
/-- from the cars' number on alike -/
def eF (g g' : Nat → Int32) : Prop := ∀ i, 13 ≤ i → g' i = g i
theorem eF.C {g g' : Nat → Int32} (h : eF g g') : eC g' = eC g := funext fun c => funext fun k => h _ (by omega)
theorem eF.K {g g' : Nat → Int32} (h : eF g g') : eK g' = eK g := funext fun c => funext fun k => h _ (by omega)
theorem eF.O {g g' : Nat → Int32} (h : eF g g') : eO g' = eO g := by
  funext c k
  unfold eO
  rw [h.C, h.K]
theorem eF.N {g g' : Nat → Int32} (h : eF g g') : eN g' = eN g := by
  unfold eN
  rw [h 13 (by omega)]
theorem eF.Q {g g' : Nat → Int32} (h : eF g g') : eQ g' = eQ g := by
  unfold eQ
  rw [h 14 (by omega)]
theorem eF.W {g g' : Nat → Int32} (h : eF g g') : eW g' = eW g := by
  funext l
  unfold eW
  rw [h.N]
  exact sI_congr fun j _ => by
    unfold eWf eFr
    rw [h.C]
theorem eF.L {g g' : Nat → Int32} (h : eF g g') : eL g' = eL g := by
  funext l
  unfold eL
  rw [h.N]
  exact sI_congr fun j _ => by
    unfold eLf eFr
    rw [h.C, h.O]
theorem eF.Ld {g g' : Nat → Int32} (h : eF g g') : eLd g' = eLd g := by
  unfold eLd
  rw [h.N]
  exact sI_congr fun j _ => by
    unfold eWd
    rw [h.C]
theorem eF.D {g g' : Nat → Int32} (h : eF g g') : eD g' = eD g := by
  unfold eD
  rw [h.N]
  exact sI_congr fun j _ => by
    unfold eDf
    rw [h.C]
theorem eF.M {g g' : Nat → Int32} (h : eF g g') : eM g' = eM g := by
  funext l
  unfold eM
  rw [h.N]
  exact sI_congr fun j _ => by
    unfold eMf eAt
    rw [h.C]
theorem eF.A {g g' : Nat → Int32} (h : eF g g') : eAf g' = eAf g := by
  funext l b c
  unfold eAf eAt
  rw [h.C]
theorem eF.B {g g' : Nat → Int32} (h : eF g g') : eBf g' = eBf g := by
  funext c
  unfold eBf
  rw [h.C]
theorem eF.T {g g' : Nat → Int32} (h : eF g g') : eT g' = eT g := by
  funext t
  unfold eT eTr eTp
  rw [h 15 (by omega), h 16 (by omega), h 17 (by omega)]
theorem eF.V {g g' : Nat → Int32} (h : eF g g') : eV g' = eV g := by
  funext t
  unfold eV
  rw [h.T, h.Ld, h 19 (by omega), h 20 (by omega)]
theorem eF.H {g g' : Nat → Int32} (h : eF g g') (H : eH g) : eH g' := by
  unfold eH
  rw [h.N, h.C, h 13 (by omega)]
  exact H
theorem eF.S {g g' : Nat → Int32} (h : eF g g') (S : eS g) : eS g' := by
  unfold eS
  rw [h.K, h 15 (by omega), h 16 (by omega), h 17 (by omega), h 18 (by omega), h 19 (by omega), h 20 (by omega), h 21 (by omega), h 22 (by omega), h 23 (by omega), h 24 (by omega), h 25 (by omega), h 26 (by omega), h 27 (by omega), h 28 (by omega)]
  exact S
theorem eF.G {g g' : Nat → Int32} (h : eF g g') (h4 : g' 4 = g 4) (h0 : (g 0).toInt ≤ (g' 0).toInt) (G : eG g) : eG g' := by
  obtain ⟨g1, g2, g3, g4, g5, g6, g7, g8⟩ := G
  unfold eG
  rw [h.N, h.C, h.Q, h.L, h4, h 14 (by omega), h 21 (by omega)]
  refine ⟨h.H g1, fun c hc => ?_, g3, g4, fun i hi => ?_, fun i j hi hj => ?_, fun c hc e => ?_, g8⟩
  · obtain ⟨a1, a2, a3, a4, a5, a6, a7, a8⟩ := g2 c hc
    exact ⟨a1, a2, a3, a4, a5, by omega, by omega, a8⟩
  · rw [h (41 + i) (by omega)]
    exact g5 i hi
  · rw [h (41 + i) (by omega), h (41 + j) (by omega)]
    exact g6 i j hi hj
  · obtain ⟨i, hi, e⟩ := g7 c hc e
    exact ⟨i, hi, by rw [h (41 + i) (by omega)]; exact e⟩
theorem eF.RB {u u' : KS} {g g' : Nat → Int32} (h : eF g g') (B : eRB u g) (h2 : sC u' 2 = sC u 2) (h7 : sC u' 7 = sC u 7) (hW : sW u' = sW u) (hN : sN u' = sN u) : eRB u' g' := by
  unfold eRB
  rw [h.D, h.Ld, h.W, h.L, h2, h7, hW, hN]
  exact B
theorem eF.RL {u u' : KS} {g g' : Nat → Int32} (h : eF g g') (L : eRL u g) (hD : sD u' = sD u) (hO : sO u' = sO u) : eRL u' g' := by
  have e : eX u' = eX u := by
    funext l i
    unfold eX
    rw [hO]
  unfold eRL eAt
  rw [h.M, h.N, h.C, h.A, hD, hO, e]
  exact L
theorem eF_upd (g : Nat → Int32) {k : Nat} (hk : k < 13) (x : Int32) : eF g (upd g k x) := fun i hi => pk_un (by omega)
theorem eF.trans {a b c : Nat → Int32} (h : eF a b) (h' : eF b c) : eF a c := fun i hi => (h' i hi).trans (h i hi)
theorem eF.refl (g : Nat → Int32) : eF g g := fun _ _ => rfl
def eRel (u : KS) (g : Nat → Int32) : Prop := eRA u g ∧ eRB u g ∧ eRL u g ∧ eRH u g
def eInv (B : Int) (g : Nat → Int32) : Prop := eS g ∧ eG g ∧ eZ B g
