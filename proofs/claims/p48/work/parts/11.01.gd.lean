/-! GHOST: the pure programs of the reference (defs alone: no contract stands on them here), and of methods that this law does not call -/
def fX10_isBetween_b0 (x0 : Int32) (x1 : Int32) (x2 : Int32) : Option (Int32) :=
  (if x0 < x1 then some 0 else (if x2 < x0 then some 0 else some 1))
def fX10_isBetween (p0 : Int32) (p1 : Int32) (p2 : Int32) : Option (Int32) := fX10_isBetween_b0 p0 p1 p2
def fX10_isKind_b0 (x0 : Int32) : Option (Int32) :=
  bnd (fX10_isBetween x0 0 3) (fun r3 => grd (decide (r3 &&& 1 = r3)) (some r3))
def fX10_isKind (p0 : Int32) : Option (Int32) := fX10_isKind_b0 p0
def fX10_isLane_b0 (x0 : Int32) : Option (Int32) :=
  bnd (fX10_isBetween x0 0 2) (fun r3 => grd (decide (r3 &&& 1 = r3)) (some r3))
def fX10_isLane (p0 : Int32) : Option (Int32) := fX10_isLane_b0 p0
def fX10_isLetter_b0 (x0 : Int32) : Option (Int32) :=
  (if x0 < 97 then some 0 else (if 122 < x0 then some 0 else some 1))
def fX10_isLetter (p0 : Int32) : Option (Int32) := fX10_isLetter_b0 p0
def fX10_isDigit_b0 (x0 : Int32) : Option (Int32) :=
  (if x0 < 48 then some 0 else (if 57 < x0 then some 0 else some 1))
def fX10_isDigit (p0 : Int32) : Option (Int32) := fX10_isDigit_b0 p0
def fX10_copy_b3 (k3 : Int32 × Int32 × Int32 × (Nat → Int32) → Option ((Nat → Int32))) (x1 : Int32) (x3 : Int32) (x4 : Int32) (n1 : Nat) (f1 : Nat → Int32) (n2 : Nat) (u2 : Nat → Int32) : Option ((Nat → Int32)) :=
  (if 561 ≤ x4 then some u2 else grd (inb (x1 + x4) n1) (grd (inb (x3 + x4) n2) (k3 (x1, x3, x4 + 1, upd u2 (ix (x3 + x4)) (f1 (ix (x1 + x4)))))))
def fX10_copy_b0 (x1 : Int32) (x3 : Int32) (n1 : Nat) (f1 : Nat → Int32) (n2 : Nat) (u2 : Nat → Int32) : Option ((Nat → Int32)) :=
  lop (fun y z => fX10_copy_b3 y z.1 z.2.1 z.2.2.1 n1 f1 n2 z.2.2.2) LF (x1, x3, 0, u2)
def fX10_copy (p1 : Int32) (p3 : Int32) (n1 : Nat) (f1 : Nat → Int32) (n2 : Nat) (u2 : Nat → Int32) : Option ((Nat → Int32)) := fX10_copy_b0 p1 p3 n1 f1 n2 u2
def fX10_ofKind_b0 (x1 : Int32) (x2 : Int32) (u : Nat → Int32) : Option (Int32) :=
  grd (inb ((29 + (3 * x1)) + x2) 561) (some (u (ix ((29 + (3 * x1)) + x2))))
def fX10_ofKind (p1 : Int32) (p2 : Int32) (u : Nat → Int32) : Option (Int32) := fX10_ofKind_b0 p1 p2 u
def fX10_layKind_b0 (x1 : Int32) (x2 : Int32) (x3 : Int32) (x4 : Int32) (u : Nat → Int32) : Option ((Nat → Int32)) :=
  grd (inb (29 + (3 * x1)) 561) (grd (inb ((29 + (3 * x1)) + 1) 561) (grd (inb ((29 + (3 * x1)) + 2) 561) (some (upd (upd (upd u (ix (29 + (3 * x1))) x2) (ix ((29 + (3 * x1)) + 1)) x3) (ix ((29 + (3 * x1)) + 2)) x4))))
def fX10_layKind (p1 : Int32) (p2 : Int32) (p3 : Int32) (p4 : Int32) (u : Nat → Int32) : Option ((Nat → Int32)) := fX10_layKind_b0 p1 p2 p3 p4 u
def fX10_begin_b126 (k126 : Int32 × (Nat → Int32) → Option ((Nat → Int32))) (x1 : Int32) (u : Nat → Int32) : Option ((Nat → Int32)) :=
  (if 4 ≤ x1 then some u else bnd (fX10_layKind x1 100 10 (x1 + 1) u) (fun u140 => k126 (x1 + 1, u140)))
def fX10_begin_b2 (k2 : Int32 × (Nat → Int32) → Option ((Nat → Int32))) (x1 : Int32) (u : Nat → Int32) : Option ((Nat → Int32)) :=
  (if 561 ≤ x1 then lop (fun y z => fX10_begin_b126 y z.1 z.2) LF (0, upd (upd (upd (upd (upd (upd (upd (upd (upd (upd (upd (upd u 4 (-1)) 12 1) 17 10) 20 100) 21 10) 22 1000) 23 1000) 24 2) 25 5) 26 2) 27 3) 28 5) else grd (inb x1 561) (k2 (x1 + 1, upd u (ix x1) 0)))
def fX10_begin_b0 (u : Nat → Int32) : Option ((Nat → Int32)) :=
  lop (fun y z => fX10_begin_b2 y z.1 z.2) LF (0, u)
def fX10_begin (u : Nat → Int32) : Option ((Nat → Int32)) := fX10_begin_b0 u
def fX10_ofCar_b0 (x1 : Int32) (x2 : Int32) (u : Nat → Int32) : Option (Int32) :=
  grd (inb ((61 + (7 * x1)) + x2) 561) (some (u (ix ((61 + (7 * x1)) + x2))))
def fX10_ofCar (p1 : Int32) (p2 : Int32) (u : Nat → Int32) : Option (Int32) := fX10_ofCar_b0 p1 p2 u
def fX10_layCar_b0 (x1 : Int32) (x2 : Int32) (x3 : Int32) (u : Nat → Int32) : Option ((Nat → Int32)) :=
  grd (inb ((61 + (7 * x1)) + x2) 561) (some (upd u (ix ((61 + (7 * x1)) + x2)) x3))
def fX10_layCar (p1 : Int32) (p2 : Int32) (p3 : Int32) (u : Nat → Int32) : Option ((Nat → Int32)) := fX10_layCar_b0 p1 p2 p3 u
def fX10_kindOf_b0 (x1 : Int32) (x2 : Int32) (u : Nat → Int32) : Option (Int32) :=
  bnd (fX10_ofCar x1 0 u) (fun r4 => bnd (fX10_ofKind r4 x2 u) (fun r8 => some r8))
def fX10_kindOf (p1 : Int32) (p2 : Int32) (u : Nat → Int32) : Option (Int32) := fX10_kindOf_b0 p1 p2 u
def fX10_isCar_b0 (x1 : Int32) (u : Nat → Int32) : Option (Int32) :=
  bnd (fX10_isBetween x1 0 ((u 13) - 1)) (fun r11 => grd (decide (r11 &&& 1 = r11)) (some r11))
def fX10_isCar (p1 : Int32) (u : Nat → Int32) : Option (Int32) := fX10_isCar_b0 p1 u
def fX10_isQueued_b0 (x1 : Int32) (u : Nat → Int32) : Option (Int32) :=
  bnd (fX10_isCar x1 u) (fun r2 => (if r2 = 0 then some 0 else bnd (fX10_ofCar x1 2 u) (fun r11 => (if r11 = 0 then some 1 else some 0))))
def fX10_isQueued (p1 : Int32) (u : Nat → Int32) : Option (Int32) := fX10_isQueued_b0 p1 u
def fX10_tideAt_b28 (x2 : Int32) (s0 : Int32) (u : Nat → Int32) : Option (Int32) :=
  grd (nz x2) (some ((u 15) + ((((u 16) - (u 15)) * s0) / x2)))
def fX10_tideAt_b0 (x1 : Int32) (u : Nat → Int32) : Option (Int32) :=
  grd (nz (2 * (u 17))) ((if (u 17) < (x1 - x1 / (2 * (u 17)) * (2 * (u 17))) then fX10_tideAt_b28 (u 17) ((2 * (u 17)) - (x1 - x1 / (2 * (u 17)) * (2 * (u 17)))) u else fX10_tideAt_b28 (u 17) (x1 - x1 / (2 * (u 17)) * (2 * (u 17))) u))
def fX10_tideAt (p1 : Int32) (u : Nat → Int32) : Option (Int32) := fX10_tideAt_b0 p1 u
def fX10_weightOnDeck_b36 (k4 : Int32 × Int32 → Option (Int32)) (x2 : Int32) (s0 : Int32) (s1 : Int32) (u : Nat → Int32) : Option (Int32) :=
  k4 (s0 + s1, x2 + 1)
def fX10_weightOnDeck_b4 (k4 : Int32 × Int32 → Option (Int32)) (x1 : Int32) (x2 : Int32) (u : Nat → Int32) : Option (Int32) :=
  (if (u 13) ≤ x2 then some x1 else bnd (fX10_ofCar x2 2 u) (fun r19 => (if r19 = 2 then bnd (fX10_ofCar x2 1 u) (fun r29 => fX10_weightOnDeck_b36 k4 x2 x1 r29 u) else fX10_weightOnDeck_b36 k4 x2 x1 0 u)))
def fX10_weightOnDeck_b0 (u : Nat → Int32) : Option (Int32) :=
  lop (fun y z => fX10_weightOnDeck_b4 y z.1 z.2 u) LF (0, 0)
def fX10_weightOnDeck (u : Nat → Int32) : Option (Int32) := fX10_weightOnDeck_b0 u
def fX10_deckAt_b0 (x1 : Int32) (u : Nat → Int32) : Option (Int32) :=
  bnd (fX10_tideAt x1 u) (fun r2 => bnd (fX10_weightOnDeck u) (fun r14 => grd (nz (u 20)) (some ((r2 + (u 19)) - (r14 / (u 20))))))
def fX10_deckAt (p1 : Int32) (u : Nat → Int32) : Option (Int32) := fX10_deckAt_b0 p1 u
def fX10_lipNow_b0 (u : Nat → Int32) : Option (Int32) :=
  bnd (fX10_deckAt (u 0) u) (fun r13 => some (if 0 ≤ ((u 1) - r13) then ((u 1) - r13) else 0 - ((u 1) - r13)))
def fX10_lipNow (u : Nat → Int32) : Option (Int32) := fX10_lipNow_b0 u
def fX10_slopeNow_b0 (u : Nat → Int32) : Option (Int32) :=
  some (if 0 ≤ ((u 1) - (u 18)) then ((u 1) - (u 18)) else 0 - ((u 1) - (u 18)))
def fX10_slopeNow (u : Nat → Int32) : Option (Int32) := fX10_slopeNow_b0 u
def fX10_isFor_b17 (x1 : Int32) (x2 : Int32) (u : Nat → Int32) : Option (Int32) :=
  bnd (fX10_ofCar x1 3 u) (fun r20 => (if r20 = x2 then some 1 else some 0))
def fX10_isFor_b0 (x1 : Int32) (x2 : Int32) (u : Nat → Int32) : Option (Int32) :=
  bnd (fX10_ofCar x1 2 u) (fun r3 => (if r3 = 2 then fX10_isFor_b17 x1 x2 u else (if r3 = 1 then fX10_isFor_b17 x1 x2 u else some 0)))
def fX10_isFor (p1 : Int32) (p2 : Int32) (u : Nat → Int32) : Option (Int32) := fX10_isFor_b0 p1 p2 u
def fX10_weightOf_b35 (k4 : Int32 × Int32 × Int32 → Option (Int32)) (x1 : Int32) (x3 : Int32) (s0 : Int32) (s1 : Int32) (u : Nat → Int32) : Option (Int32) :=
  k4 (x1, s0 + s1, x3 + 1)
def fX10_weightOf_b4 (k4 : Int32 × Int32 × Int32 → Option (Int32)) (x1 : Int32) (x2 : Int32) (x3 : Int32) (u : Nat → Int32) : Option (Int32) :=
  (if (u 13) ≤ x3 then some x2 else bnd (fX10_isFor x3 x1 u) (fun r19 => (if r19 = 0 then fX10_weightOf_b35 k4 x1 x3 x2 0 u else bnd (fX10_ofCar x3 1 u) (fun r28 => fX10_weightOf_b35 k4 x1 x3 x2 r28 u))))
def fX10_weightOf_b0 (x1 : Int32) (u : Nat → Int32) : Option (Int32) :=
  lop (fun y z => fX10_weightOf_b4 y z.1 z.2.1 z.2.2 u) LF (x1, 0, 0)
def fX10_weightOf (p1 : Int32) (u : Nat → Int32) : Option (Int32) := fX10_weightOf_b0 p1 u
def fX10_freeOf_b41 (k10 : Int32 × Int32 × Int32 → Option (Int32)) (x1 : Int32) (x3 : Int32) (s0 : Int32) (s1 : Int32) (u : Nat → Int32) : Option (Int32) :=
  k10 (x1, s0 - s1, x3 + 1)
def fX10_freeOf_b10 (k10 : Int32 × Int32 × Int32 → Option (Int32)) (x1 : Int32) (x2 : Int32) (x3 : Int32) (u : Nat → Int32) : Option (Int32) :=
  (if (u 13) ≤ x3 then some x2 else bnd (fX10_isFor x3 x1 u) (fun r25 => (if r25 = 0 then fX10_freeOf_b41 k10 x1 x3 x2 0 u else bnd (fX10_kindOf x3 2 u) (fun r34 => fX10_freeOf_b41 k10 x1 x3 x2 r34 u))))
def fX10_freeOf_b0 (x1 : Int32) (u : Nat → Int32) : Option (Int32) :=
  lop (fun y z => fX10_freeOf_b10 y z.1 z.2.1 z.2.2 u) LF (x1, u 21, 0)
def fX10_freeOf (p1 : Int32) (u : Nat → Int32) : Option (Int32) := fX10_freeOf_b0 p1 u
def fX10_listNow_b0 (u : Nat → Int32) : Option (Int32) :=
  bnd (fX10_weightOf 0 u) (fun r2 => bnd (fX10_weightOf 2 u) (fun r7 => some (r2 - r7)))
def fX10_listNow (u : Nat → Int32) : Option (Int32) := fX10_listNow_b0 u
def fX10_hasFree_b0 (x1 : Int32) (x2 : Int32) (u : Nat → Int32) : Option (Int32) :=
  bnd (fX10_freeOf x1 u) (fun r2 => bnd (fX10_kindOf x2 2 u) (fun r8 => (if r2 < r8 then some 0 else some 1)))
def fX10_hasFree (p1 : Int32) (p2 : Int32) (u : Nat → Int32) : Option (Int32) := fX10_hasFree_b0 p1 p2 u
def fX10_suits_b30 (x1 : Int32) (x2 : Int32) (s0 : Int32) (s1 : Int32) (u : Nat → Int32) : Option (Int32) :=
  bnd (fX10_hasFree x1 x2 u) (fun r36 => (if r36 = 0 then some 0 else (if (u 23) < (if 0 ≤ (s0 + s1) then (s0 + s1) else 0 - (s0 + s1)) then some 0 else some 1)))
def fX10_suits_b0 (x1 : Int32) (x2 : Int32) (u : Nat → Int32) : Option (Int32) :=
  bnd (fX10_ofCar x2 1 u) (fun r3 => bnd (fX10_listNow u) (fun r8 => (if x1 = 0 then fX10_suits_b30 x1 x2 r8 r3 u else (if x1 = 2 then fX10_suits_b30 x1 x2 r8 (-r3) u else fX10_suits_b30 x1 x2 r8 0 u))))
def fX10_suits (p1 : Int32) (p2 : Int32) (u : Nat → Int32) : Option (Int32) := fX10_suits_b0 p1 p2 u
def fX10_laneOf_b42 (k4 : Int32 × Int32 × Int32 → Option (Int32)) (x1 : Int32) (x2 : Int32) (x3 : Int32) (u : Nat → Int32) : Option (Int32) :=
  k4 (x1, x2, x3 + 1)
def fX10_laneOf_b41 (k4 : Int32 × Int32 × Int32 → Option (Int32)) (x1 : Int32) (x3 : Int32) (s0 : Int32) (u : Nat → Int32) : Option (Int32) :=
  fX10_laneOf_b42 k4 x1 s0 x3 u
def fX10_laneOf_b36 (k4 : Int32 × Int32 × Int32 → Option (Int32)) (x1 : Int32) (x3 : Int32) (u : Nat → Int32) : Option (Int32) :=
  fX10_laneOf_b41 k4 x1 x3 x3 u
def fX10_laneOf_b4 (k4 : Int32 × Int32 × Int32 → Option (Int32)) (x1 : Int32) (x2 : Int32) (x3 : Int32) (u : Nat → Int32) : Option (Int32) :=
  (if 3 ≤ x3 then some x2 else bnd (fX10_suits x3 x1 u) (fun r12 => (if r12 = 0 then fX10_laneOf_b42 k4 x1 x2 x3 u else (if x2 = (-1) then fX10_laneOf_b36 k4 x1 x3 u else bnd (fX10_weightOf x3 u) (fun r25 => bnd (fX10_weightOf x2 u) (fun r30 => (if r30 ≤ r25 then fX10_laneOf_b41 k4 x1 x3 x2 u else fX10_laneOf_b36 k4 x1 x3 u)))))))
def fX10_laneOf_b0 (x1 : Int32) (u : Nat → Int32) : Option (Int32) :=
  lop (fun y z => fX10_laneOf_b4 y z.1 z.2.1 z.2.2 u) LF (x1, (-1), 0)
def fX10_laneOf (p1 : Int32) (u : Nat → Int32) : Option (Int32) := fX10_laneOf_b0 p1 u
def fX10_whyNotNow_b53 (x1 : Int32) (u : Nat → Int32) : Option (Int32) :=
  bnd (fX10_weightOnDeck u) (fun r54 => bnd (fX10_ofCar x1 1 u) (fun r60 => (if (r54 + r60) ≤ (u 22) then bnd (fX10_laneOf x1 u) (fun r78 => (if r78 = (-1) then some 5 else bnd (fX10_slopeNow u) (fun r88 => bnd (fX10_kindOf x1 0 u) (fun r94 => (if r88 ≤ r94 then bnd (fX10_lipNow u) (fun r104 => bnd (fX10_kindOf x1 1 u) (fun r110 => (if r104 ≤ r110 then some 0 else some 7))) else some 6))))) else some 4)))
def fX10_whyNotNow_b0 (x1 : Int32) (u : Nat → Int32) : Option (Int32) :=
  (if (u 12) = 0 then some 1 else (if (u 4) = (-1) then bnd (fX10_hasFree 0 x1 u) (fun r27 => (if r27 = 0 then bnd (fX10_hasFree 1 x1 u) (fun r36 => (if r36 = 0 then bnd (fX10_hasFree 2 x1 u) (fun r45 => (if r45 = 0 then some 3 else fX10_whyNotNow_b53 x1 u)) else fX10_whyNotNow_b53 x1 u)) else fX10_whyNotNow_b53 x1 u)) else some 2))
def fX10_whyNotNow (p1 : Int32) (u : Nat → Int32) : Option (Int32) := fX10_whyNotNow_b0 p1 u
def fX10_placeOf_b2 (k2 : Int32 × Int32 → Option (Int32)) (x1 : Int32) (x2 : Int32) (u : Nat → Int32) : Option (Int32) :=
  grd (inb (41 + x2) 561) ((if (u (ix (41 + x2))) = x1 then some x2 else k2 (x1, x2 + 1)))
def fX10_placeOf_b0 (x1 : Int32) (u : Nat → Int32) : Option (Int32) :=
  lop (fun y z => fX10_placeOf_b2 y z.1 z.2 u) LF (x1, 0)
def fX10_placeOf (p1 : Int32) (u : Nat → Int32) : Option (Int32) := fX10_placeOf_b0 p1 u
def fX10_leaveQueue_b17 (k17 : Int32 × (Nat → Int32) → Option ((Nat → Int32))) (x2 : Int32) (u : Nat → Int32) : Option ((Nat → Int32)) :=
  (if (u 14) ≤ x2 then grd (inb (41 + (u 14)) 561) (some (upd u (ix (41 + (u 14))) 0)) else grd (inb ((41 + x2) + 1) 561) (grd (inb (41 + x2) 561) (k17 (x2 + 1, upd u (ix (41 + x2)) (u (ix ((41 + x2) + 1)))))))
def fX10_leaveQueue_b0 (x1 : Int32) (u : Nat → Int32) : Option ((Nat → Int32)) :=
  bnd (fX10_placeOf x1 (upd u 14 ((u 14) - 1))) (fun r13 => lop (fun y z => fX10_leaveQueue_b17 y z.1 z.2) LF (r13, upd u 14 ((u 14) - 1)))
def fX10_leaveQueue (p1 : Int32) (u : Nat → Int32) : Option ((Nat → Int32)) := fX10_leaveQueue_b0 p1 u
def fX10_beginToDrive_b0 (x1 : Int32) (u : Nat → Int32) : Option ((Nat → Int32)) :=
  bnd (fX10_laneOf x1 u) (fun r2 => bnd (fX10_leaveQueue x1 u) (fun u8 => bnd (fX10_layCar x1 2 1 u8) (fun u15 => bnd (fX10_layCar x1 3 r2 u15) (fun u22 => bnd (fX10_layCar x1 5 (u22 0) u22) (fun u34 => some (upd (upd (upd u34 4 x1) 5 0) 7 0))))))
def fX10_beginToDrive (p1 : Int32) (u : Nat → Int32) : Option ((Nat → Int32)) := fX10_beginToDrive_b0 p1 u
def fX10_pull_b51 (x2 : Int32) (x3 : Int32) (s1 : Int32) (s2 : Int32) (s3 : Int32) (u : Nat → Int32) : Option ((Nat → Int32)) :=
  grd (inb s1 561) ((if x2 = x3 then some (upd (upd u (ix s1) (s2 + s3)) 2 0) else some (upd u (ix s1) (s2 + s3))))
def fX10_pull_b0 (u : Nat → Int32) : Option ((Nat → Int32)) :=
  bnd (fX10_deckAt (u 0) u) (fun r7 => bnd (fX10_lipNow u) (fun r12 => (if r7 ≤ (u 1) then fX10_pull_b51 r12 (if r12 < (u 24) then r12 else (u 24)) 1 (u 1) (-(if r12 < (u 24) then r12 else (u 24))) u else fX10_pull_b51 r12 (if r12 < (u 24) then r12 else (u 24)) 1 (u 1) (if r12 < (u 24) then r12 else (u 24)) u)))
def fX10_pull (u : Nat → Int32) : Option ((Nat → Int32)) := fX10_pull_b0 u
def fX10_winch_b92 (u : Nat → Int32) : Option ((Nat → Int32)) :=
  (if (u 2) = 2 then bnd (fX10_pull u) (fun u103 => some u103) else some u)
def fX10_winch_b66 (u : Nat → Int32) : Option ((Nat → Int32)) :=
  (if (u 2) = 1 then (if (u 3) = 0 then fX10_winch_b92 (upd u 2 2) else fX10_winch_b92 u) else fX10_winch_b92 u)
def fX10_winch_b0 (u : Nat → Int32) : Option ((Nat → Int32)) :=
  (if (u 2) = 0 then bnd (fX10_lipNow u) (fun r10 => (if r10 ≤ (u 25) then fX10_winch_b66 u else fX10_winch_b66 (upd (upd u 2 1) 3 ((upd u 2 1) 26)))) else (if (u 2) = 1 then fX10_winch_b66 (upd u 3 ((u 3) - 1)) else fX10_winch_b66 u))
def fX10_winch (u : Nat → Int32) : Option ((Nat → Int32)) := fX10_winch_b0 u
def fX10_drive_b33 (u : Nat → Int32) : Option ((Nat → Int32)) :=
  some (upd u 6 ((u 6) + 1))
def fX10_drive_b0 (u : Nat → Int32) : Option ((Nat → Int32)) :=
  bnd (fX10_slopeNow u) (fun r8 => bnd (fX10_kindOf (u 4) 0 u) (fun r14 => (if r14 < r8 then fX10_drive_b33 u else bnd (fX10_lipNow u) (fun r21 => bnd (fX10_kindOf (u 4) 1 u) (fun r27 => (if r21 ≤ r27 then bnd (fX10_slopeNow (upd u 5 ((u 5) + 1))) (fun r69 => (if ((upd (upd u 5 ((u 5) + 1)) 11 (if ((upd u 5 ((u 5) + 1)) 11) < r69 then r69 else ((upd u 5 ((u 5) + 1)) 11))) 5) < ((upd (upd u 5 ((u 5) + 1)) 11 (if ((upd u 5 ((u 5) + 1)) 11) < r69 then r69 else ((upd u 5 ((u 5) + 1)) 11))) 27) then some (upd (upd u 5 ((u 5) + 1)) 11 (if ((upd u 5 ((u 5) + 1)) 11) < r69 then r69 else ((upd u 5 ((u 5) + 1)) 11))) else bnd (fX10_layCar (u 4) 2 2 (upd (upd u 5 ((u 5) + 1)) 11 (if ((upd u 5 ((u 5) + 1)) 11) < r69 then r69 else ((upd u 5 ((u 5) + 1)) 11)))) (fun u96 => bnd (fX10_layCar (u 4) 6 (u96 0) u96) (fun u109 => some (upd (upd (upd u109 4 (-1)) 5 0) 9 (((upd (upd u109 4 (-1)) 5 0) 9) + 1)))))) else fX10_drive_b33 u))))))
def fX10_drive (u : Nat → Int32) : Option ((Nat → Int32)) := fX10_drive_b0 u
def fX10_callCrew_b68 (x1 : Int32) (x2 : Int32) (x3 : Int32) (u : Nat → Int32) : Option ((Nat → Int32)) :=
  grd (inb (481 + (4 * ((u 8) - (u 8) / 20 * 20))) 561) (grd (inb ((481 + (4 * ((u 8) - (u 8) / 20 * 20))) + 1) 561) (grd (inb ((481 + (4 * ((u 8) - (u 8) / 20 * 20))) + 2) 561) (grd (inb ((481 + (4 * ((u 8) - (u 8) / 20 * 20))) + 3) 561) ((if x3 = (-1) then some (upd (upd (upd (upd (upd (upd u (ix (481 + (4 * ((u 8) - (u 8) / 20 * 20)))) (u 0)) (ix ((481 + (4 * ((u 8) - (u 8) / 20 * 20))) + 1)) x2) (ix ((481 + (4 * ((u 8) - (u 8) / 20 * 20))) + 2)) x1) (ix ((481 + (4 * ((u 8) - (u 8) / 20 * 20))) + 3)) x3) 8 (((upd (upd (upd (upd u (ix (481 + (4 * ((u 8) - (u 8) / 20 * 20)))) (u 0)) (ix ((481 + (4 * ((u 8) - (u 8) / 20 * 20))) + 1)) x2) (ix ((481 + (4 * ((u 8) - (u 8) / 20 * 20))) + 2)) x1) (ix ((481 + (4 * ((u 8) - (u 8) / 20 * 20))) + 3)) x3) 8) + 1)) 7 0) else bnd (fX10_beginToDrive x3 (upd (upd (upd (upd (upd (upd u (ix (481 + (4 * ((u 8) - (u 8) / 20 * 20)))) (u 0)) (ix ((481 + (4 * ((u 8) - (u 8) / 20 * 20))) + 1)) x2) (ix ((481 + (4 * ((u 8) - (u 8) / 20 * 20))) + 2)) x1) (ix ((481 + (4 * ((u 8) - (u 8) / 20 * 20))) + 3)) x3) 8 (((upd (upd (upd (upd u (ix (481 + (4 * ((u 8) - (u 8) / 20 * 20)))) (u 0)) (ix ((481 + (4 * ((u 8) - (u 8) / 20 * 20))) + 1)) x2) (ix ((481 + (4 * ((u 8) - (u 8) / 20 * 20))) + 2)) x1) (ix ((481 + (4 * ((u 8) - (u 8) / 20 * 20))) + 3)) x3) 8) + 1)) 7 0)) (fun u155 => some u155))))))
def fX10_callCrew_b61 (k13 : Int32 × Int32 × Int32 × Int32 × (Nat → Int32) → Option ((Nat → Int32))) (x1 : Int32) (x2 : Int32) (x4 : Int32) (s0 : Int32) (u : Nat → Int32) : Option ((Nat → Int32)) :=
  k13 (x1, x2, s0, x4 + 1, u)
def fX10_callCrew_b13 (k13 : Int32 × Int32 × Int32 × Int32 × (Nat → Int32) → Option ((Nat → Int32))) (x1 : Int32) (x2 : Int32) (x3 : Int32) (x4 : Int32) (u : Nat → Int32) : Option ((Nat → Int32)) :=
  (if (u 14) ≤ x4 then fX10_callCrew_b68 x1 x2 x3 u else (if x3 = (-1) then grd (inb (41 + x4) 561) (bnd (fX10_whyNotNow (u (ix (41 + x4))) u) (fun r41 => (if r41 = 0 then grd (inb (41 + x4) 561) (fX10_callCrew_b61 k13 x1 x2 x4 (u (ix (41 + x4))) u) else fX10_callCrew_b61 k13 x1 x2 x4 (-1) u))) else fX10_callCrew_b68 x1 x2 x3 u))
def fX10_callCrew_b0 (x1 : Int32) (u : Nat → Int32) : Option ((Nat → Int32)) :=
  lop (fun y z => fX10_callCrew_b13 y z.1 z.2.1 z.2.2.1 z.2.2.2.1 z.2.2.2.2) LF (x1, u 41, (-1), 1, u)
def fX10_callCrew (p1 : Int32) (u : Nat → Int32) : Option ((Nat → Int32)) := fX10_callCrew_b0 p1 u
def fX10_admit_b0 (u : Nat → Int32) : Option ((Nat → Int32)) :=
  bnd (fX10_whyNotNow (u 41) u) (fun r8 => (if r8 = 0 then bnd (fX10_beginToDrive (u 41) u) (fun u24 => some u24) else (if r8 = 1 then some u else (if ((upd u 7 ((u 7) + 1)) 7) < ((upd u 7 ((u 7) + 1)) 28) then some (upd u 7 ((u 7) + 1)) else bnd (fX10_callCrew r8 (upd u 7 ((u 7) + 1))) (fun u65 => some u65)))))
def fX10_admit (u : Nat → Int32) : Option ((Nat → Int32)) := fX10_admit_b0 u
def fX10_tickOnce_b28 (u : Nat → Int32) : Option ((Nat → Int32)) :=
  (if (u 4) = (-1) then (if (u 14) ≤ 0 then some u else bnd (fX10_admit u) (fun u49 => some u49)) else some u)
def fX10_tickOnce_b0 (u : Nat → Int32) : Option ((Nat → Int32)) :=
  bnd (fX10_winch (upd u 0 ((u 0) + 1))) (fun u11 => (if (u11 4) = (-1) then fX10_tickOnce_b28 u11 else bnd (fX10_drive u11) (fun u25 => fX10_tickOnce_b28 u25)))
def fX10_tickOnce (u : Nat → Int32) : Option ((Nat → Int32)) := fX10_tickOnce_b0 u
def fX10_tickMany_b10 (k10 : Int32 × Int32 × Int32 × (Nat → Int32) → Option (Int32 × (Nat → Int32))) (x1 : Int32) (x2 : Int32) (x3 : Int32) (u : Nat → Int32) : Option (Int32 × (Nat → Int32)) :=
  (if x1 ≤ x3 then some ((u 9) - x2, u) else bnd (fX10_tickOnce u) (fun u16 => k10 (x1, x2, x3 + 1, u16)))
def fX10_tickMany_b0 (x1 : Int32) (u : Nat → Int32) : Option (Int32 × (Nat → Int32)) :=
  lop (fun y z => fX10_tickMany_b10 y z.1 z.2.1 z.2.2.1 z.2.2.2) LF (x1, u 9, 0, u)
def fX10_tickMany (p1 : Int32) (u : Nat → Int32) : Option (Int32 × (Nat → Int32)) := fX10_tickMany_b0 p1 u
def fX10_addCar_b0 (x1 : Int32) (x2 : Int32) (u : Nat → Int32) : Option (Int32 × (Nat → Int32)) :=
  bnd (fX10_layCar (u 13) 0 x1 (upd u 13 ((u 13) + 1))) (fun u23 => bnd (fX10_layCar (u 13) 1 x2 u23) (fun u30 => bnd (fX10_layCar (u 13) 2 0 u30) (fun u37 => bnd (fX10_layCar (u 13) 3 (-1) u37) (fun u44 => bnd (fX10_layCar (u 13) 4 (u44 0) u44) (fun u56 => bnd (fX10_layCar (u 13) 5 (-1) u56) (fun u63 => bnd (fX10_layCar (u 13) 6 (-1) u63) (fun u71 => grd (inb (41 + (u71 14)) 561) (some (u 13, upd (upd u71 (ix (41 + (u71 14))) (u 13)) 14 (((upd u71 (ix (41 + (u71 14))) (u 13)) 14) + 1))))))))))
def fX10_addCar (p1 : Int32) (p2 : Int32) (u : Nat → Int32) : Option (Int32 × (Nat → Int32)) := fX10_addCar_b0 p1 p2 u
def fX10_onDeck_b31 (k4 : Int32 × Int32 → Option (Int32)) (x2 : Int32) (s0 : Int32) (s1 : Int32) (u : Nat → Int32) : Option (Int32) :=
  k4 (s0 + s1, x2 + 1)
def fX10_onDeck_b4 (k4 : Int32 × Int32 → Option (Int32)) (x1 : Int32) (x2 : Int32) (u : Nat → Int32) : Option (Int32) :=
  (if (u 13) ≤ x2 then some x1 else bnd (fX10_ofCar x2 2 u) (fun r19 => (if r19 = 2 then fX10_onDeck_b31 k4 x2 x1 1 u else fX10_onDeck_b31 k4 x2 x1 0 u)))
def fX10_onDeck_b0 (u : Nat → Int32) : Option (Int32) :=
  lop (fun y z => fX10_onDeck_b4 y z.1 z.2 u) LF (0, 0)
def fX10_onDeck (u : Nat → Int32) : Option (Int32) := fX10_onDeck_b0 u
def fX10_aheadOf_b73 (k5 : Int32 × Int32 × Int32 × Int32 → Option (Int32)) (x1 : Int32) (x2 : Int32) (x4 : Int32) (s0 : Int32) (s1 : Int32) (u : Nat → Int32) : Option (Int32) :=
  k5 (x1, x2, s0 + s1, x4 + 1)
def fX10_aheadOf_b72 (k5 : Int32 × Int32 × Int32 × Int32 → Option (Int32)) (x1 : Int32) (x2 : Int32) (x4 : Int32) (s0 : Int32) (u : Nat → Int32) : Option (Int32) :=
  fX10_aheadOf_b73 k5 x1 x2 x4 s0 0 u
def fX10_aheadOf_b44 (k5 : Int32 × Int32 × Int32 × Int32 → Option (Int32)) (x1 : Int32) (x2 : Int32) (x3 : Int32) (x4 : Int32) (s0 : Int32) (u : Nat → Int32) : Option (Int32) :=
  (if s0 = 0 then fX10_aheadOf_b72 k5 x1 x2 x4 x3 u else bnd (fX10_ofCar x4 5 u) (fun r56 => bnd (fX10_ofCar x1 5 u) (fun r62 => (if r62 ≤ r56 then fX10_aheadOf_b72 k5 x1 x2 x4 x3 u else fX10_aheadOf_b73 k5 x1 x2 x4 x3 1 u))))
def fX10_aheadOf_b43 (k5 : Int32 × Int32 × Int32 × Int32 → Option (Int32)) (x1 : Int32) (x2 : Int32) (x3 : Int32) (x4 : Int32) (u : Nat → Int32) : Option (Int32) :=
  fX10_aheadOf_b44 k5 x1 x2 x3 x4 0 u
def fX10_aheadOf_b5 (k5 : Int32 × Int32 × Int32 × Int32 → Option (Int32)) (x1 : Int32) (x2 : Int32) (x3 : Int32) (x4 : Int32) (u : Nat → Int32) : Option (Int32) :=
  (if (u 13) ≤ x4 then some x3 else bnd (fX10_ofCar x4 2 u) (fun r21 => (if r21 = 2 then bnd (fX10_ofCar x4 3 u) (fun r32 => (if r32 = x2 then fX10_aheadOf_b44 k5 x1 x2 x3 x4 1 u else fX10_aheadOf_b43 k5 x1 x2 x3 x4 u)) else fX10_aheadOf_b43 k5 x1 x2 x3 x4 u)))
def fX10_aheadOf_b0 (x1 : Int32) (x2 : Int32) (u : Nat → Int32) : Option (Int32) :=
  lop (fun y z => fX10_aheadOf_b5 y z.1 z.2.1 z.2.2.1 z.2.2.2 u) LF (x1, x2, 0, 0)
def fX10_aheadOf (p1 : Int32) (p2 : Int32) (u : Nat → Int32) : Option (Int32) := fX10_aheadOf_b0 p1 p2 u
def fX10_standingAt_b57 (k2 : Int32 × Int32 × Int32 → Option (Int32)) (x1 : Int32) (x2 : Int32) (x3 : Int32) (u : Nat → Int32) : Option (Int32) :=
  k2 (x1, x2, x3 + 1)
def fX10_standingAt_b38 (k2 : Int32 × Int32 × Int32 → Option (Int32)) (x1 : Int32) (x2 : Int32) (x3 : Int32) (s0 : Int32) (u : Nat → Int32) : Option (Int32) :=
  (if s0 = 0 then fX10_standingAt_b57 k2 x1 x2 x3 u else bnd (fX10_aheadOf x3 x1 u) (fun r48 => (if r48 = x2 then some x3 else fX10_standingAt_b57 k2 x1 x2 x3 u)))
def fX10_standingAt_b37 (k2 : Int32 × Int32 × Int32 → Option (Int32)) (x1 : Int32) (x2 : Int32) (x3 : Int32) (u : Nat → Int32) : Option (Int32) :=
  fX10_standingAt_b38 k2 x1 x2 x3 0 u
def fX10_standingAt_b2 (k2 : Int32 × Int32 × Int32 → Option (Int32)) (x1 : Int32) (x2 : Int32) (x3 : Int32) (u : Nat → Int32) : Option (Int32) :=
  (if (u 13) ≤ x3 then some (-1) else bnd (fX10_ofCar x3 2 u) (fun r16 => (if r16 = 2 then bnd (fX10_ofCar x3 3 u) (fun r26 => (if r26 = x1 then fX10_standingAt_b38 k2 x1 x2 x3 1 u else fX10_standingAt_b37 k2 x1 x2 x3 u)) else fX10_standingAt_b37 k2 x1 x2 x3 u)))
def fX10_standingAt_b0 (x1 : Int32) (x2 : Int32) (u : Nat → Int32) : Option (Int32) :=
  lop (fun y z => fX10_standingAt_b2 y z.1 z.2.1 z.2.2 u) LF (x1, x2, 0)
def fX10_standingAt (p1 : Int32) (p2 : Int32) (u : Nat → Int32) : Option (Int32) := fX10_standingAt_b0 p1 p2 u
def fX10_standingMany_b41 (k4 : Int32 × Int32 × Int32 → Option (Int32)) (x1 : Int32) (x3 : Int32) (s0 : Int32) (s1 : Int32) (u : Nat → Int32) : Option (Int32) :=
  k4 (x1, s0 + s1, x3 + 1)
def fX10_standingMany_b40 (k4 : Int32 × Int32 × Int32 → Option (Int32)) (x1 : Int32) (x3 : Int32) (s0 : Int32) (u : Nat → Int32) : Option (Int32) :=
  fX10_standingMany_b41 k4 x1 x3 s0 0 u
def fX10_standingMany_b4 (k4 : Int32 × Int32 × Int32 → Option (Int32)) (x1 : Int32) (x2 : Int32) (x3 : Int32) (u : Nat → Int32) : Option (Int32) :=
  (if (u 13) ≤ x3 then some x2 else bnd (fX10_ofCar x3 2 u) (fun r19 => (if r19 = 2 then bnd (fX10_ofCar x3 3 u) (fun r29 => (if r29 = x1 then fX10_standingMany_b41 k4 x1 x3 x2 1 u else fX10_standingMany_b40 k4 x1 x3 x2 u)) else fX10_standingMany_b40 k4 x1 x3 x2 u)))
def fX10_standingMany_b0 (x1 : Int32) (u : Nat → Int32) : Option (Int32) :=
  lop (fun y z => fX10_standingMany_b4 y z.1 z.2.1 z.2.2 u) LF (x1, 0, 0)
def fX10_standingMany (p1 : Int32) (u : Nat → Int32) : Option (Int32) := fX10_standingMany_b0 p1 u
def fX10_begun_b31 (k4 : Int32 × Int32 → Option (Int32)) (x2 : Int32) (s0 : Int32) (s1 : Int32) (u : Nat → Int32) : Option (Int32) :=
  k4 (s0 + s1, x2 + 1)
def fX10_begun_b4 (k4 : Int32 × Int32 → Option (Int32)) (x1 : Int32) (x2 : Int32) (u : Nat → Int32) : Option (Int32) :=
  (if (u 13) ≤ x2 then some x1 else bnd (fX10_ofCar x2 5 u) (fun r19 => (if r19 = (-1) then fX10_begun_b31 k4 x2 x1 0 u else fX10_begun_b31 k4 x2 x1 1 u)))
def fX10_begun_b0 (u : Nat → Int32) : Option (Int32) :=
  lop (fun y z => fX10_begun_b4 y z.1 z.2 u) LF (0, 0)
def fX10_begun (u : Nat → Int32) : Option (Int32) := fX10_begun_b0 u
def fX10_isEasy_b0 (x1 : Int32) (u : Nat → Int32) : Option (Int32) :=
  bnd (fX10_slopeNow u) (fun r1 => bnd (fX10_ofKind x1 0 u) (fun r7 => (if r7 < r1 then some 0 else bnd (fX10_lipNow u) (fun r14 => bnd (fX10_ofKind x1 1 u) (fun r20 => (if r20 < r14 then some 0 else some 1))))))
def fX10_isEasy (p1 : Int32) (u : Nat → Int32) : Option (Int32) := fX10_isEasy_b0 p1 u
def fX10_moveToFront_b8 (k8 : Int32 × Int32 × Int32 × (Nat → Int32) → Option (Int32 × (Nat → Int32))) (x1 : Int32) (x2 : Int32) (x3 : Int32) (u : Nat → Int32) : Option (Int32 × (Nat → Int32)) :=
  (if x3 ≤ 0 then some (x2, upd u 41 x1) else grd (inb ((41 + x3) - 1) 561) (grd (inb (41 + x3) 561) (k8 (x1, x2, x3 + (-1), upd u (ix (41 + x3)) (u (ix ((41 + x3) - 1)))))))
def fX10_moveToFront_b0 (x1 : Int32) (u : Nat → Int32) : Option (Int32 × (Nat → Int32)) :=
  bnd (fX10_placeOf x1 u) (fun r2 => lop (fun y z => fX10_moveToFront_b8 y z.1 z.2.1 z.2.2.1 z.2.2.2) LF (x1, r2, r2, u))
def fX10_moveToFront (p1 : Int32) (u : Nat → Int32) : Option (Int32 × (Nat → Int32)) := fX10_moveToFront_b0 p1 u
def fX10_thrown_b0 (u : RS) : Option (Int32) :=
  some (mTh u)
def fX10_thrown (u : RS) : Option (Int32) := fX10_thrown_b0 u
def fX10_fail_b0 (x1 : Int32) (u : RS) : Option (Int32 × RS) :=
  some (0, nTh u x1)
def fX10_fail (p1 : Int32) (u : RS) : Option (Int32 × RS) := fX10_fail_b0 p1 u
def fX10_refuse_b0 (x1 : Int32) (u : RS) : Option (Int32 × RS) :=
  grd (inb x1 5) (grd (inb x1 5) (some (-x1, nAo u (ix x1) ((mAo u (ix x1)) + 1))))
def fX10_refuse (p1 : Int32) (u : RS) : Option (Int32 × RS) := fX10_refuse_b0 p1 u
def fX10_forgetEldest_b2 (k2 : Int32 × RS → Option (RS)) (x1 : Int32) (u : RS) : Option (RS) :=
  (if 3927 ≤ x1 then some (nAc u ((mAc u) - 1)) else grd (inb (x1 + 561) 4488) (grd (inb x1 4488) (k2 (x1 + 1, nPa u (ix x1) (mPa u (ix (x1 + 561)))))))
def fX10_forgetEldest_b0 (u : RS) : Option (RS) :=
  lop (fun y z => fX10_forgetEldest_b2 y z.1 z.2) LF (0, u)
def fX10_forgetEldest (u : RS) : Option (RS) := fX10_forgetEldest_b0 u
def fX10_remember_b13 (u : RS) : Option (RS) :=
  bnd (fX10_copy 0 (561 * (mAc u)) 561 (mSt u) 4488 (mPa u)) (fun u30 => some (nAo (nAc (nPaA u u30) ((mAc (nPaA u u30)) + 1)) 0 ((mAo (nAc (nPaA u u30) ((mAc (nPaA u u30)) + 1)) 0) + 1)))
def fX10_remember_b0 (u : RS) : Option (RS) :=
  (if (mAc u) = 8 then bnd (fX10_forgetEldest u) (fun u10 => fX10_remember_b13 u10) else fX10_remember_b13 u)
def fX10_remember (u : RS) : Option (RS) := fX10_remember_b0 u
def fX10_tickIt_b0 (x1 : Int32) (u : RS) : Option (Int32 × RS) :=
  bnd (fX10_remember u) (fun u1 => bnd2 (fX10_tickMany x1 (mSt u1)) (fun r6 u6 => some (r6, nStA u1 u6)))
def fX10_tickIt (p1 : Int32) (u : RS) : Option (Int32 × RS) := fX10_tickIt_b0 p1 u
def fX10_tick_b0 (x1 : Int32) (u : RS) : Option (Int32 × RS) :=
  bnd (fX10_isBetween x1 1 50) (fun r9 => (if r9 = 0 then bnd2 (fX10_fail 1 (nTh u 0)) (fun r25 u25 => some (r25, u25)) else bnd2 (fX10_tickIt x1 (nTh u 0)) (fun r17 u17 => some (r17, u17))))
def fX10_tick (p1 : Int32) (u : RS) : Option (Int32 × RS) := fX10_tick_b0 p1 u
def fX10_arriveIt_b0 (x1 : Int32) (x2 : Int32) (u : RS) : Option (Int32 × RS) :=
  (if (mSt u 13) = 60 then bnd2 (fX10_refuse 1 u) (fun r14 u14 => some (r14, u14)) else (if (mSt u 14) = 20 then bnd2 (fX10_refuse 2 u) (fun r32 u32 => some (r32, u32)) else bnd (fX10_remember u) (fun u37 => bnd2 (fX10_addCar x1 x2 (mSt u37)) (fun r43 u43 => some (r43, nStA u37 u43)))))
def fX10_arriveIt (p1 : Int32) (p2 : Int32) (u : RS) : Option (Int32 × RS) := fX10_arriveIt_b0 p1 p2 u
def fX10_arrive_b0 (x1 : Int32) (x2 : Int32) (u : RS) : Option (Int32 × RS) :=
  bnd (fX10_isKind x1) (fun r6 => (if r6 = 0 then bnd2 (fX10_fail 1 (nTh u 0)) (fun r14 u14 => some (r14, u14)) else bnd (fX10_isBetween x2 1 999) (fun r23 => (if r23 = 0 then bnd2 (fX10_fail 2 (nTh u 0)) (fun r40 u40 => some (r40, u40)) else bnd2 (fX10_arriveIt x1 x2 (nTh u 0)) (fun r32 u32 => some (r32, u32))))))
def fX10_arrive (p1 : Int32) (p2 : Int32) (u : RS) : Option (Int32 × RS) := fX10_arrive_b0 p1 p2 u
def fX10_waveIt_b0 (x1 : Int32) (u : RS) : Option (Int32 × RS) :=
  bnd (fX10_isQueued x1 (mSt u)) (fun r2 => (if r2 = 0 then bnd2 (fX10_refuse 1 u) (fun r10 u10 => some (r10, u10)) else (if (mSt u 41) = x1 then bnd2 (fX10_refuse 2 u) (fun r27 u27 => some (r27, u27)) else bnd (fX10_remember u) (fun u32 => bnd2 (fX10_moveToFront x1 (mSt u32)) (fun r37 u37 => some (r37, nStA u32 u37))))))
def fX10_waveIt (p1 : Int32) (u : RS) : Option (Int32 × RS) := fX10_waveIt_b0 p1 u
def fX10_wave_b0 (x1 : Int32) (u : RS) : Option (Int32 × RS) :=
  bnd (fX10_isBetween x1 0 59) (fun r9 => (if r9 = 0 then bnd2 (fX10_fail 1 (nTh u 0)) (fun r25 u25 => some (r25, u25)) else bnd2 (fX10_waveIt x1 (nTh u 0)) (fun r17 u17 => some (r17, u17))))
def fX10_wave (p1 : Int32) (u : RS) : Option (Int32 × RS) := fX10_wave_b0 p1 u
def fX10_dismissIt_b0 (x1 : Int32) (u : RS) : Option (Int32 × RS) :=
  bnd (fX10_isQueued x1 (mSt u)) (fun r2 => (if r2 = 0 then bnd2 (fX10_refuse 1 u) (fun r10 u10 => some (r10, u10)) else bnd (fX10_remember u) (fun u15 => bnd (fX10_leaveQueue x1 (mSt u15)) (fun u20 => bnd (fX10_layCar x1 2 4 (mSt (nStA u15 u20))) (fun u27 => some (mSt (nStA (nStA u15 u20) u27) 14, nStA (nStA u15 u20) u27))))))
def fX10_dismissIt (p1 : Int32) (u : RS) : Option (Int32 × RS) := fX10_dismissIt_b0 p1 u
def fX10_dismiss_b0 (x1 : Int32) (u : RS) : Option (Int32 × RS) :=
  bnd (fX10_isBetween x1 0 59) (fun r9 => (if r9 = 0 then bnd2 (fX10_fail 1 (nTh u 0)) (fun r25 u25 => some (r25, u25)) else bnd2 (fX10_dismissIt x1 (nTh u 0)) (fun r17 u17 => some (r17, u17))))
def fX10_dismiss (p1 : Int32) (u : RS) : Option (Int32 × RS) := fX10_dismiss_b0 p1 u
def fX10_unloadIt_b0 (x1 : Int32) (u : RS) : Option (Int32 × RS) :=
  bnd (fX10_standingMany x1 (mSt u)) (fun r4 => bnd (fX10_standingAt x1 (r4 - 1) (mSt u)) (fun r9 => (if r9 = (-1) then bnd2 (fX10_refuse 1 u) (fun r20 u20 => some (r20, u20)) else (if (mSt u 4) = (-1) then bnd (fX10_slopeNow (mSt u)) (fun r41 => bnd (fX10_kindOf r9 0 (mSt u)) (fun r47 => (if r41 ≤ r47 then bnd (fX10_lipNow (mSt u)) (fun r60 => bnd (fX10_kindOf r9 1 (mSt u)) (fun r66 => (if r60 ≤ r66 then bnd (fX10_remember u) (fun u79 => bnd (fX10_layCar r9 2 3 (mSt u79)) (fun u86 => some (r9, nSt (nStA u79 u86) 10 ((mSt (nStA u79 u86) 10) + 1)))) else bnd2 (fX10_refuse 4 u) (fun r74 u74 => some (r74, u74))))) else bnd2 (fX10_refuse 3 u) (fun r55 u55 => some (r55, u55))))) else bnd2 (fX10_refuse 2 u) (fun r36 u36 => some (r36, u36))))))
def fX10_unloadIt (p1 : Int32) (u : RS) : Option (Int32 × RS) := fX10_unloadIt_b0 p1 u
def fX10_unload_b0 (x1 : Int32) (u : RS) : Option (Int32 × RS) :=
  bnd (fX10_isLane x1) (fun r6 => (if r6 = 0 then bnd2 (fX10_fail 1 (nTh u 0)) (fun r22 u22 => some (r22, u22)) else bnd2 (fX10_unloadIt x1 (nTh u 0)) (fun r14 u14 => some (r14, u14))))
def fX10_unload (p1 : Int32) (u : RS) : Option (Int32 × RS) := fX10_unload_b0 p1 u
def fX10_gateIt_b16 (x1 : Int32) (s0 : Int32) (u : RS) : Option (Int32 × RS) :=
  (if s0 = x1 then bnd2 (fX10_refuse 1 u) (fun r22 u22 => some (r22, u22)) else bnd (fX10_remember u) (fun u27 => (if x1 = 0 then some (0, nSt u27 12 0) else some (0, nSt u27 12 1))))
def fX10_gateIt_b0 (x1 : Int32) (u : RS) : Option (Int32 × RS) :=
  (if (mSt u 12) = 1 then fX10_gateIt_b16 x1 1 u else fX10_gateIt_b16 x1 0 u)
def fX10_gateIt (p1 : Int32) (u : RS) : Option (Int32 × RS) := fX10_gateIt_b0 p1 u
def fX10_setGate_b0 (x1 : Int32) (u : RS) : Option (Int32 × RS) :=
  bnd2 (fX10_gateIt x1 (nTh u 0)) (fun r7 u7 => some (r7, u7))
def fX10_setGate (p1 : Int32) (u : RS) : Option (Int32 × RS) := fX10_setGate_b0 p1 u
def fX10_crankIt_b0 (x1 : Int32) (u : RS) : Option (Int32 × RS) :=
  (if x1 = 0 then bnd2 (fX10_refuse 1 u) (fun r6 u6 => some (r6, u6)) else (if (mSt u 4) = (-1) then bnd (fX10_remember u) (fun u27 => bnd (fX10_lipNow (mSt (nSt u27 1 ((mSt u27 1) + x1)))) (fun r41 => some (r41, nSt u27 1 ((mSt u27 1) + x1)))) else bnd2 (fX10_refuse 2 u) (fun r22 u22 => some (r22, u22))))
def fX10_crankIt (p1 : Int32) (u : RS) : Option (Int32 × RS) := fX10_crankIt_b0 p1 u
def fX10_crank_b0 (x1 : Int32) (u : RS) : Option (Int32 × RS) :=
  bnd (fX10_isBetween x1 (-20) 20) (fun r10 => (if r10 = 0 then bnd2 (fX10_fail 1 (nTh u 0)) (fun r26 u26 => some (r26, u26)) else bnd2 (fX10_crankIt x1 (nTh u 0)) (fun r18 u18 => some (r18, u18))))
def fX10_crank (p1 : Int32) (u : RS) : Option (Int32 × RS) := fX10_crank_b0 p1 u
def fX10_winchIt_b0 (x1 : Int32) (x2 : Int32) (x3 : Int32) (u : RS) : Option (Int32 × RS) :=
  bnd (fX10_remember u) (fun u1 => some (0, nSt (nSt (nSt u1 24 x1) 25 x2) 26 x3))
def fX10_winchIt (p1 : Int32) (p2 : Int32) (p3 : Int32) (u : RS) : Option (Int32 × RS) := fX10_winchIt_b0 p1 p2 p3 u
def fX10_setWinch_b40 (x1 : Int32) (x2 : Int32) (x3 : Int32) (s0 : Int32) (u : RS) : Option (Int32 × RS) :=
  (if s0 = 0 then bnd2 (fX10_fail 1 u) (fun r59 u59 => some (r59, u59)) else bnd2 (fX10_winchIt x1 x2 x3 u) (fun r51 u51 => some (r51, u51)))
def fX10_setWinch_b39 (x1 : Int32) (x2 : Int32) (x3 : Int32) (u : RS) : Option (Int32 × RS) :=
  fX10_setWinch_b40 x1 x2 x3 0 u
def fX10_setWinch_b0 (x1 : Int32) (x2 : Int32) (x3 : Int32) (u : RS) : Option (Int32 × RS) :=
  bnd (fX10_isBetween x1 1 20) (fun r9 => (if r9 = 0 then fX10_setWinch_b39 x1 x2 x3 (nTh u 0) else bnd (fX10_isBetween x2 0 50) (fun r19 => (if r19 = 0 then fX10_setWinch_b39 x1 x2 x3 (nTh u 0) else bnd (fX10_isBetween x3 0 20) (fun r29 => (if r29 = 0 then fX10_setWinch_b39 x1 x2 x3 (nTh u 0) else fX10_setWinch_b40 x1 x2 x3 1 (nTh u 0)))))))
def fX10_setWinch (p1 : Int32) (p2 : Int32) (p3 : Int32) (u : RS) : Option (Int32 × RS) := fX10_setWinch_b0 p1 p2 p3 u
def fX10_crossIt_b0 (x1 : Int32) (x2 : Int32) (u : RS) : Option (Int32 × RS) :=
  bnd (fX10_remember u) (fun u1 => some (0, nSt (nSt u1 27 x1) 28 x2))
def fX10_crossIt (p1 : Int32) (p2 : Int32) (u : RS) : Option (Int32 × RS) := fX10_crossIt_b0 p1 p2 u
def fX10_setCross_b34 (u : RS) : Option (Int32 × RS) :=
  bnd2 (fX10_fail 1 u) (fun r36 u36 => some (r36, u36))
def fX10_setCross_b0 (x1 : Int32) (x2 : Int32) (u : RS) : Option (Int32 × RS) :=
  bnd (fX10_isBetween x1 1 20) (fun r9 => (if r9 = 0 then fX10_setCross_b34 (nTh u 0) else bnd (fX10_isBetween x2 1 50) (fun r19 => (if r19 = 0 then fX10_setCross_b34 (nTh u 0) else bnd2 (fX10_crossIt x1 x2 (nTh u 0)) (fun r28 u28 => some (r28, u28))))))
def fX10_setCross (p1 : Int32) (p2 : Int32) (u : RS) : Option (Int32 × RS) := fX10_setCross_b0 p1 p2 u
def fX10_emit_b0 (x1 : Int32) (u : RS) : Option (RS) :=
  grd (inb (mOl u) 300) (some (nOl (nOu u (ix (mOl u)) x1) ((mOl (nOu u (ix (mOl u)) x1)) + 1)))
def fX10_emit (p1 : Int32) (u : RS) : Option (RS) := fX10_emit_b0 p1 u
def fX10_emitNumber_b17 (x1 : Int32) (u : RS) : Option (RS) :=
  bnd (fX10_emit (48 + (x1 - x1 / 10 * 10)) u) (fun u25 => some u25)
def fX10_emitNumber_b0 (x1 : Int32) (u : RS) : Option (RS) :=
  (if x1 < 10 then fX10_emitNumber_b17 x1 u else bnd (fX10_emit (48 + (x1 / 10)) u) (fun u14 => fX10_emitNumber_b17 x1 u14))
def fX10_emitNumber (p1 : Int32) (u : RS) : Option (RS) := fX10_emitNumber_b0 p1 u
def fX10_writeLanes_b38 (k12 : Int32 × RS → Option (Int32 × RS)) (k19 : Int32 × Int32 × RS → Option (Int32 × RS)) (x1 : Int32) (x2 : Int32) (u : RS) : Option (Int32 × RS) :=
  bnd (fX10_standingAt x1 x2 (mSt u)) (fun r42 => bnd (fX10_emitNumber r42 u) (fun u45 => k19 (x1, x2 + 1, u45)))
def fX10_writeLanes_b19 (k12 : Int32 × RS → Option (Int32 × RS)) (k19 : Int32 × Int32 × RS → Option (Int32 × RS)) (x1 : Int32) (x2 : Int32) (u : RS) : Option (Int32 × RS) :=
  bnd (fX10_standingMany x1 (mSt u)) (fun r22 => (if r22 ≤ x2 then bnd (fX10_emit 47 u) (fun u57 => bnd (fX10_freeOf x1 (mSt u57)) (fun r63 => bnd (fX10_emitNumber r63 u57) (fun u66 => bnd (fX10_emit 59 u66) (fun u72 => k12 (x1 + 1, u72))))) else (if x2 ≤ 0 then fX10_writeLanes_b38 k12 k19 x1 x2 u else bnd (fX10_emit 44 u) (fun u35 => fX10_writeLanes_b38 k12 k19 x1 x2 u35))))
def fX10_writeLanes_b12 (k12 : Int32 × RS → Option (Int32 × RS)) (x1 : Int32) (u : RS) : Option (Int32 × RS) :=
  (if 3 ≤ x1 then some (mOl u, u) else lop (fun y z => fX10_writeLanes_b19 k12 y z.1 z.2.1 z.2.2) LF (x1, 0, u))
def fX10_writeLanes_b0 (u : RS) : Option (Int32 × RS) :=
  lop (fun y z => fX10_writeLanes_b12 y z.1 z.2) LF (0, nOl (nTh u 0) 0)
def fX10_writeLanes (u : RS) : Option (Int32 × RS) := fX10_writeLanes_b0 u
def fX10_output_b0 (x1 : Int32) (u : RS) : Option (Int32 × RS) :=
  bnd (fX10_isBetween x1 0 ((mOl (nTh u 0)) - 1)) (fun r13 => (if r13 = 0 then some ((-1), nTh u 0) else grd (inb x1 300) (some (mOu (nTh u 0) (ix x1), nTh u 0))))
def fX10_output (p1 : Int32) (u : RS) : Option (Int32 × RS) := fX10_output_b0 p1 u
def fX10_undo_b0 (u : RS) : Option (Int32 × RS) :=
  (if (mAc (nTh u 0)) = 0 then some ((-1), nTh u 0) else bnd (fX10_copy (561 * (mAc (nAc (nTh u 0) ((mAc (nTh u 0)) - 1)))) 0 4488 (mPa (nAc (nTh u 0) ((mAc (nTh u 0)) - 1))) 561 (mSt (nAc (nTh u 0) ((mAc (nTh u 0)) - 1)))) (fun u41 => some (mAc (nStA (nAc (nTh u 0) ((mAc (nTh u 0)) - 1)) u41), nStA (nAc (nTh u 0) ((mAc (nTh u 0)) - 1)) u41)))
def fX10_undo (u : RS) : Option (Int32 × RS) := fX10_undo_b0 u
def fX10_save_b15 (x1 : Int32) (s1 : Int32) (u : RS) : Option (RS) :=
  (if (mTh (nTh u s1)) = 0 then bnd (fX10_copy 0 (561 * x1) 561 (mSt (nTh u s1)) 1122 (mSa (nTh u s1))) (fun u39 => grd (inb x1 2) (some (nIs (nSaA (nTh u s1) u39) (ix x1) 1))) else some (nTh u s1))
def fX10_save_b0 (x1 : Int32) (u : RS) : Option (RS) :=
  bnd (fX10_isBetween x1 0 1) (fun r4 => (if r4 = 0 then fX10_save_b15 x1 1 u else fX10_save_b15 x1 0 u))
def fX10_save (p1 : Int32) (u : RS) : Option (RS) := fX10_save_b0 p1 u
def fX10_restore_b28 (x1 : Int32) (s1 : Int32) (u : RS) : Option (RS) :=
  (if (mTh (nTh u s1)) = 0 then bnd (fX10_copy (561 * x1) 0 1122 (mSa (nTh u s1)) 561 (mSt (nTh u s1))) (fun u52 => some (nAc (nStA (nTh u s1) u52) 0)) else some (nTh u s1))
def fX10_restore_b0 (x1 : Int32) (u : RS) : Option (RS) :=
  bnd (fX10_isBetween x1 0 1) (fun r4 => (if r4 = 0 then fX10_restore_b28 x1 1 u else grd (inb x1 2) ((if (mIs u (ix x1)) = 0 then fX10_restore_b28 x1 2 u else fX10_restore_b28 x1 0 u))))
def fX10_restore (p1 : Int32) (u : RS) : Option (RS) := fX10_restore_b0 p1 u
def fX10_countMore_b0 (x1 : Int32) (u : RS) : Option (Int32 × RS) :=
  (if x1 = 11 then some (mSt u 7, u) else (if x1 = 12 then some (mSt u 8, u) else (if x1 = 13 then some (mSt u 9, u) else (if x1 = 14 then some (mSt u 10, u) else (if x1 = 15 then some (mSt u 11, u) else (if x1 = 16 then some (mSt u 12, u) else bnd2 (fX10_fail 1 u) (fun r90 u90 => some (r90, u90))))))))
def fX10_countMore (p1 : Int32) (u : RS) : Option (Int32 × RS) := fX10_countMore_b0 p1 u
def fX10_count_b0 (x1 : Int32) (u : RS) : Option (Int32 × RS) :=
  (if x1 = 0 then some (mSt (nTh u 0) 0, nTh u 0) else (if x1 = 1 then some (mSt (nTh u 0) 14, nTh u 0) else (if x1 = 2 then bnd (fX10_onDeck (mSt (nTh u 0))) (fun r108 => some (r108, nTh u 0)) else (if x1 = 3 then some (mSt (nTh u 0) 13, nTh u 0) else (if x1 = 4 then some (mSt (nTh u 0) 1, nTh u 0) else (if x1 = 5 then some (mSt (nTh u 0) 2, nTh u 0) else (if x1 = 6 then some (mSt (nTh u 0) 3, nTh u 0) else (if x1 = 7 then bnd (fX10_weightOnDeck (mSt (nTh u 0))) (fun r142 => some (r142, nTh u 0)) else (if x1 = 8 then some (mSt (nTh u 0) 4, nTh u 0) else (if x1 = 9 then some (mSt (nTh u 0) 5, nTh u 0) else (if x1 = 10 then some (mSt (nTh u 0) 6, nTh u 0) else (if x1 = 11 then bnd2 (fX10_countMore x1 (nTh u 0)) (fun r175 u175 => some (r175, u175)) else (if x1 = 12 then bnd2 (fX10_countMore x1 (nTh u 0)) (fun r175 u175 => some (r175, u175)) else (if x1 = 13 then bnd2 (fX10_countMore x1 (nTh u 0)) (fun r175 u175 => some (r175, u175)) else (if x1 = 14 then bnd2 (fX10_countMore x1 (nTh u 0)) (fun r175 u175 => some (r175, u175)) else (if x1 = 15 then bnd2 (fX10_countMore x1 (nTh u 0)) (fun r175 u175 => some (r175, u175)) else (if x1 = 16 then bnd2 (fX10_countMore x1 (nTh u 0)) (fun r175 u175 => some (r175, u175)) else (if x1 = 17 then some (mAc (nTh u 0), nTh u 0) else bnd2 (fX10_countMore x1 (nTh u 0)) (fun r175 u175 => some (r175, u175))))))))))))))))))))
def fX10_count (p1 : Int32) (u : RS) : Option (Int32 × RS) := fX10_count_b0 p1 u
def fX10_setting_b0 (x1 : Int32) (u : RS) : Option (Int32 × RS) :=
  bnd (fX10_isBetween x1 0 13) (fun r9 => (if r9 = 0 then bnd2 (fX10_fail 1 (nTh u 0)) (fun r29 u29 => some (r29, u29)) else grd (inb (15 + x1) 561) (some (mSt (nTh u 0) (ix (15 + x1)), nTh u 0))))
def fX10_setting (p1 : Int32) (u : RS) : Option (Int32 × RS) := fX10_setting_b0 p1 u
def fX10_kind_b0 (x1 : Int32) (x2 : Int32) (u : RS) : Option (Int32 × RS) :=
  bnd (fX10_isKind x1) (fun r6 => (if r6 = 0 then bnd2 (fX10_fail 1 (nTh u 0)) (fun r14 u14 => some (r14, u14)) else bnd (fX10_isBetween x2 0 2) (fun r21 => (if r21 = 0 then bnd2 (fX10_fail 2 (nTh u 0)) (fun r38 u38 => some (r38, u38)) else bnd (fX10_ofKind x1 x2 (mSt (nTh u 0))) (fun r30 => some (r30, nTh u 0))))))
def fX10_kind (p1 : Int32) (p2 : Int32) (u : RS) : Option (Int32 × RS) := fX10_kind_b0 p1 p2 u
def fX10_car_b0 (x1 : Int32) (x2 : Int32) (u : RS) : Option (Int32 × RS) :=
  bnd (fX10_isCar x1 (mSt (nTh u 0))) (fun r7 => (if r7 = 0 then bnd2 (fX10_fail 1 (nTh u 0)) (fun r15 u15 => some (r15, u15)) else bnd (fX10_isBetween x2 0 6) (fun r23 => (if r23 = 0 then bnd2 (fX10_fail 2 (nTh u 0)) (fun r40 u40 => some (r40, u40)) else bnd (fX10_ofCar x1 x2 (mSt (nTh u 0))) (fun r32 => some (r32, nTh u 0))))))
def fX10_car (p1 : Int32) (p2 : Int32) (u : RS) : Option (Int32 × RS) := fX10_car_b0 p1 p2 u
def fX10_queued_b0 (x1 : Int32) (u : RS) : Option (Int32 × RS) :=
  bnd (fX10_isBetween x1 0 ((mSt (nTh u 0) 14) - 1)) (fun r16 => (if r16 = 0 then some ((-1), nTh u 0) else grd (inb (41 + x1) 561) (some (mSt (nTh u 0) (ix (41 + x1)), nTh u 0))))
def fX10_queued (p1 : Int32) (u : RS) : Option (Int32 × RS) := fX10_queued_b0 p1 u
def fX10_standing_b0 (x1 : Int32) (x2 : Int32) (u : RS) : Option (Int32 × RS) :=
  bnd (fX10_isLane x1) (fun r6 => (if r6 = 0 then bnd2 (fX10_fail 1 (nTh u 0)) (fun r23 u23 => some (r23, u23)) else bnd (fX10_standingAt x1 x2 (mSt (nTh u 0))) (fun r15 => some (r15, nTh u 0))))
def fX10_standing (p1 : Int32) (p2 : Int32) (u : RS) : Option (Int32 × RS) := fX10_standing_b0 p1 p2 u
def fX10_lane_b0 (x1 : Int32) (x2 : Int32) (u : RS) : Option (Int32 × RS) :=
  bnd (fX10_isLane x1) (fun r6 => (if r6 = 0 then bnd2 (fX10_fail 1 (nTh u 0)) (fun r14 u14 => some (r14, u14)) else (if x2 = 0 then bnd (fX10_weightOf x1 (mSt (nTh u 0))) (fun r32 => some (r32, nTh u 0)) else bnd (fX10_freeOf x1 (mSt (nTh u 0))) (fun r24 => some (r24, nTh u 0)))))
def fX10_lane (p1 : Int32) (p2 : Int32) (u : RS) : Option (Int32 × RS) := fX10_lane_b0 p1 p2 u
def fX10_call_b0 (x1 : Int32) (x2 : Int32) (u : RS) : Option (Int32 × RS) :=
  bnd (fX10_isBetween x1 0 ((if (mSt (nTh u 0) 8) < 20 then (mSt (nTh u 0) 8) else 20) - 1)) (fun r21 => (if r21 = 0 then bnd2 (fX10_fail 1 (nTh u 0)) (fun r29 u29 => some (r29, u29)) else bnd (fX10_isBetween x2 0 3) (fun r36 => (if r36 = 0 then bnd2 (fX10_fail 2 (nTh u 0)) (fun r44 u44 => some (r44, u44)) else grd (inb ((481 + (4 * ((((mSt (nTh u 0) 8) - 1) - x1) - (((mSt (nTh u 0) 8) - 1) - x1) / 20 * 20))) + x2) 561) (some (mSt (nTh u 0) (ix ((481 + (4 * ((((mSt (nTh u 0) 8) - 1) - x1) - (((mSt (nTh u 0) 8) - 1) - x1) / 20 * 20))) + x2)), nTh u 0))))))
def fX10_call (p1 : Int32) (p2 : Int32) (u : RS) : Option (Int32 × RS) := fX10_call_b0 p1 p2 u
def fX10_account_b0 (x1 : Int32) (u : RS) : Option (Int32 × RS) :=
  bnd (fX10_isBetween x1 0 4) (fun r8 => (if r8 = 0 then bnd2 (fX10_fail 1 (nTh u 0)) (fun r25 u25 => some (r25, u25)) else grd (inb x1 5) (some (mAo (nTh u 0) (ix x1), nTh u 0))))
def fX10_account (p1 : Int32) (u : RS) : Option (Int32 × RS) := fX10_account_b0 p1 u
def fX10_tide_b0 (x1 : Int32) (u : RS) : Option (Int32 × RS) :=
  (if x1 < 0 then bnd2 (fX10_fail 1 (nTh u 0)) (fun r19 u19 => some (r19, u19)) else bnd (fX10_tideAt x1 (mSt (nTh u 0))) (fun r11 => some (r11, nTh u 0)))
def fX10_tide (p1 : Int32) (u : RS) : Option (Int32 × RS) := fX10_tide_b0 p1 u
def fX10_deck_b0 (x1 : Int32) (u : RS) : Option (Int32 × RS) :=
  (if x1 < 0 then bnd2 (fX10_fail 1 (nTh u 0)) (fun r19 u19 => some (r19, u19)) else bnd (fX10_deckAt x1 (mSt (nTh u 0))) (fun r11 => some (r11, nTh u 0)))
def fX10_deck (p1 : Int32) (u : RS) : Option (Int32 × RS) := fX10_deck_b0 p1 u
def fX10_slope_b0 (u : RS) : Option (Int32 × RS) :=
  bnd (fX10_slopeNow (mSt (nTh u 0))) (fun r6 => some (r6, nTh u 0))
def fX10_slope (u : RS) : Option (Int32 × RS) := fX10_slope_b0 u
def fX10_lip_b0 (u : RS) : Option (Int32 × RS) :=
  bnd (fX10_lipNow (mSt (nTh u 0))) (fun r6 => some (r6, nTh u 0))
def fX10_lip (u : RS) : Option (Int32 × RS) := fX10_lip_b0 u
def fX10_waterIn_b39 (x2 : Int32) (x3 : Int32) (s0 : Int32) (u : RS) : Option (Int32 × RS) :=
  grd (nz x2) (some (((s0 - x3) + x2) - ((s0 - x3) + x2) / x2 * x2, u))
def fX10_waterIn_b0 (x1 : Int32) (u : RS) : Option (Int32 × RS) :=
  grd (nz (2 * (mSt (nTh u 0) 17))) ((if x1 = 0 then fX10_waterIn_b39 (2 * (mSt (nTh u 0) 17)) ((mSt (nTh u 0) 0) - (mSt (nTh u 0) 0) / (2 * (mSt (nTh u 0) 17)) * (2 * (mSt (nTh u 0) 17))) 0 (nTh u 0) else fX10_waterIn_b39 (2 * (mSt (nTh u 0) 17)) ((mSt (nTh u 0) 0) - (mSt (nTh u 0) 0) / (2 * (mSt (nTh u 0) 17)) * (2 * (mSt (nTh u 0) 17))) (mSt (nTh u 0) 17) (nTh u 0)))
def fX10_waterIn (p1 : Int32) (u : RS) : Option (Int32 × RS) := fX10_waterIn_b0 p1 u
def fX10_list_b0 (u : RS) : Option (Int32 × RS) :=
  bnd (fX10_listNow (mSt (nTh u 0))) (fun r6 => some (r6, nTh u 0))
def fX10_list (u : RS) : Option (Int32 × RS) := fX10_list_b0 u
def fX10_heaviest_b56 (k9 : Int32 × Int32 × RS → Option (Int32 × RS)) (x1 : Int32) (x2 : Int32) (u : RS) : Option (Int32 × RS) :=
  k9 (x1, x2 + 1, u)
def fX10_heaviest_b55 (k9 : Int32 × Int32 × RS → Option (Int32 × RS)) (x2 : Int32) (s0 : Int32) (u : RS) : Option (Int32 × RS) :=
  fX10_heaviest_b56 k9 s0 x2 u
def fX10_heaviest_b50 (k9 : Int32 × Int32 × RS → Option (Int32 × RS)) (x2 : Int32) (u : RS) : Option (Int32 × RS) :=
  fX10_heaviest_b55 k9 x2 x2 u
def fX10_heaviest_b9 (k9 : Int32 × Int32 × RS → Option (Int32 × RS)) (x1 : Int32) (x2 : Int32) (u : RS) : Option (Int32 × RS) :=
  (if (mSt u 13) ≤ x2 then some (x1, u) else bnd (fX10_ofCar x2 2 (mSt u)) (fun r23 => (if r23 = 2 then (if x1 = (-1) then fX10_heaviest_b50 k9 x2 u else bnd (fX10_ofCar x2 1 (mSt u)) (fun r38 => bnd (fX10_ofCar x1 1 (mSt u)) (fun r44 => (if r38 ≤ r44 then fX10_heaviest_b55 k9 x2 x1 u else fX10_heaviest_b50 k9 x2 u)))) else fX10_heaviest_b56 k9 x1 x2 u)))
def fX10_heaviest_b0 (u : RS) : Option (Int32 × RS) :=
  lop (fun y z => fX10_heaviest_b9 y z.1 z.2.1 z.2.2) LF ((-1), 0, nTh u 0)
def fX10_heaviest (u : RS) : Option (Int32 × RS) := fX10_heaviest_b0 u
def fX10_whyNot_b0 (x1 : Int32) (u : RS) : Option (Int32 × RS) :=
  bnd (fX10_isQueued x1 (mSt (nTh u 0))) (fun r7 => (if r7 = 0 then bnd2 (fX10_fail 1 (nTh u 0)) (fun r23 u23 => some (r23, u23)) else bnd (fX10_whyNotNow x1 (mSt (nTh u 0))) (fun r15 => some (r15, nTh u 0))))
def fX10_whyNot (p1 : Int32) (u : RS) : Option (Int32 × RS) := fX10_whyNot_b0 p1 u
def fX10_laneFor_b0 (x1 : Int32) (u : RS) : Option (Int32 × RS) :=
  bnd (fX10_isQueued x1 (mSt (nTh u 0))) (fun r7 => (if r7 = 0 then bnd2 (fX10_fail 1 (nTh u 0)) (fun r23 u23 => some (r23, u23)) else bnd (fX10_laneOf x1 (mSt (nTh u 0))) (fun r15 => some (r15, nTh u 0))))
def fX10_laneFor (p1 : Int32) (u : RS) : Option (Int32 × RS) := fX10_laneFor_b0 p1 u
def fX10_startIn_b63 (x2 : Int32) (s0 : Int32) (u : RS) : Option (Int32 × RS) :=
  bnd (fX10_copy 0 0 561 (mAs u) 561 (mSt u)) (fun u74 => (if s0 = 0 then some ((-1), nStA u u74) else some (x2, nStA u u74)))
def fX10_startIn_b50 (x1 : Int32) (x2 : Int32) (u : RS) : Option (Int32 × RS) :=
  bnd (fX10_begun (mSt u)) (fun r51 => (if r51 ≤ x1 then fX10_startIn_b63 x2 0 u else fX10_startIn_b63 x2 1 u))
def fX10_startIn_b25 (k25 : Int32 × Int32 × RS → Option (Int32 × RS)) (x1 : Int32) (x2 : Int32) (u : RS) : Option (Int32 × RS) :=
  (if 200 ≤ x2 then fX10_startIn_b50 x1 x2 u else bnd (fX10_begun (mSt u)) (fun r33 => (if r33 = x1 then bnd (fX10_tickOnce (mSt u)) (fun u41 => k25 (x1, x2 + 1, nStA u u41)) else fX10_startIn_b50 x1 x2 u)))
def fX10_startIn_b0 (u : RS) : Option (Int32 × RS) :=
  bnd (fX10_copy 0 0 561 (mSt (nTh u 0)) 561 (mAs (nTh u 0))) (fun u15 => bnd (fX10_begun (mSt (nAsA (nTh u 0) u15))) (fun r19 => lop (fun y z => fX10_startIn_b25 y z.1 z.2.1 z.2.2) LF (r19, 0, nAsA (nTh u 0) u15)))
def fX10_startIn (u : RS) : Option (Int32 × RS) := fX10_startIn_b0 u
def fX10_boardIn_b0 (x1 : Int32) (u : RS) : Option (Int32 × RS) :=
  bnd (fX10_isBetween x1 1 200) (fun r10 => (if r10 = 0 then bnd2 (fX10_fail 1 (nTh u 0)) (fun r18 u18 => some (r18, u18)) else bnd (fX10_copy 0 0 561 (mSt (nTh u 0)) 561 (mAs (nTh u 0))) (fun u32 => bnd2 (fX10_tickMany x1 (mSt (nAsA (nTh u 0) u32))) (fun r37 u37 => bnd (fX10_copy 0 0 561 (mAs (nStA (nAsA (nTh u 0) u32) u37)) 561 (mSt (nStA (nAsA (nTh u 0) u32) u37))) (fun u51 => some (r37, nStA (nStA (nAsA (nTh u 0) u32) u37) u51))))))
def fX10_boardIn (p1 : Int32) (u : RS) : Option (Int32 × RS) := fX10_boardIn_b0 p1 u
def fX10_wakesIn_b60 (x1 : Int32) (s0 : Int32) (u : RS) : Option (Int32 × RS) :=
  bnd (fX10_copy 0 0 561 (mAs u) 561 (mSt u)) (fun u71 => (if s0 = 0 then some ((-1), nStA u u71) else some (x1, nStA u u71)))
def fX10_wakesIn_b46 (x1 : Int32) (u : RS) : Option (Int32 × RS) :=
  (if (mSt u 2) = 0 then fX10_wakesIn_b60 x1 0 u else fX10_wakesIn_b60 x1 1 u)
def fX10_wakesIn_b20 (k20 : Int32 × RS → Option (Int32 × RS)) (x1 : Int32) (u : RS) : Option (Int32 × RS) :=
  (if 200 ≤ x1 then fX10_wakesIn_b46 x1 u else (if (mSt u 2) = 0 then bnd (fX10_tickOnce (mSt u)) (fun u37 => k20 (x1 + 1, nStA u u37)) else fX10_wakesIn_b46 x1 u))
def fX10_wakesIn_b0 (u : RS) : Option (Int32 × RS) :=
  bnd (fX10_copy 0 0 561 (mSt (nTh u 0)) 561 (mAs (nTh u 0))) (fun u15 => lop (fun y z => fX10_wakesIn_b20 y z.1 z.2) LF (0, nAsA (nTh u 0) u15))
def fX10_wakesIn (u : RS) : Option (Int32 × RS) := fX10_wakesIn_b0 u
def fX10_easyIn_b58 (x1 : Int32) (x2 : Int32) (u : RS) : Option (Int32 × RS) :=
  bnd (fX10_isEasy x1 (mSt u)) (fun r60 => bnd (fX10_copy 0 0 561 (mAs u) 561 (mSt u)) (fun u74 => (if r60 = 0 then some ((-1), nStA u u74) else some (x2, nStA u u74))))
def fX10_easyIn_b33 (k33 : Int32 × Int32 × RS → Option (Int32 × RS)) (x1 : Int32) (x2 : Int32) (u : RS) : Option (Int32 × RS) :=
  (if 200 ≤ x2 then fX10_easyIn_b58 x1 x2 u else bnd (fX10_isEasy x1 (mSt u)) (fun r42 => (if r42 = 0 then bnd (fX10_tickOnce (mSt u)) (fun u49 => k33 (x1, x2 + 1, nStA u u49)) else fX10_easyIn_b58 x1 x2 u)))
def fX10_easyIn_b0 (x1 : Int32) (u : RS) : Option (Int32 × RS) :=
  bnd (fX10_isKind x1) (fun r6 => (if r6 = 0 then bnd2 (fX10_fail 1 (nTh u 0)) (fun r14 u14 => some (r14, u14)) else bnd (fX10_copy 0 0 561 (mSt (nTh u 0)) 561 (mAs (nTh u 0))) (fun u28 => lop (fun y z => fX10_easyIn_b33 y z.1 z.2.1 z.2.2) LF (x1, 0, nAsA (nTh u 0) u28))))
def fX10_easyIn (p1 : Int32) (u : RS) : Option (Int32 × RS) := fX10_easyIn_b0 p1 u
def fX10_bestFirst_b92 (k41 : Int32 × Int32 × Int32 × Int32 × RS → Option (Int32 × RS)) (x1 : Int32) (x2 : Int32) (x3 : Int32) (x4 : Int32) (u : RS) : Option (Int32 × RS) :=
  bnd (fX10_copy 0 0 561 (mTr u) 561 (mSt u)) (fun u102 => k41 (x1, x2, x3, x4 + 1, nStA u u102))
def fX10_bestFirst_b41 (k41 : Int32 × Int32 × Int32 × Int32 × RS → Option (Int32 × RS)) (x1 : Int32) (x2 : Int32) (x3 : Int32) (x4 : Int32) (u : RS) : Option (Int32 × RS) :=
  (if (mTr u 14) ≤ x4 then some (x2, u) else grd (inb (41 + x4) 561) (bnd2 (fX10_moveToFront (mTr u (ix (41 + x4))) (mSt u)) (fun r68 u68 => bnd2 (fX10_tickMany x1 (mSt (nStA u u68))) (fun r75 u75 => (if r75 ≤ x3 then fX10_bestFirst_b92 k41 x1 x2 x3 x4 (nStA (nStA u u68) u75) else fX10_bestFirst_b92 k41 x1 (mTr u (ix (41 + x4))) r75 x4 (nStA (nStA u u68) u75))))))
def fX10_bestFirst_b0 (x1 : Int32) (u : RS) : Option (Int32 × RS) :=
  bnd (fX10_isBetween x1 1 99) (fun r9 => (if r9 = 0 then bnd2 (fX10_fail 1 (nTh u 0)) (fun r17 u17 => some (r17, u17)) else bnd (fX10_copy 0 0 561 (mSt (nTh u 0)) 561 (mTr (nTh u 0))) (fun u31 => lop (fun y z => fX10_bestFirst_b41 y z.1 z.2.1 z.2.2.1 z.2.2.2.1 z.2.2.2.2) LF (x1, (-1), (-1), 0, nTrA (nTh u 0) u31))))
def fX10_bestFirst (p1 : Int32) (u : RS) : Option (Int32 × RS) := fX10_bestFirst_b0 p1 u
def fX10_appendText_b26 (k26 : Int32 × Int32 × RS → Option (Int32 × RS)) (x1 : Int32) (x2 : Int32) (u : RS) : Option (Int32 × RS) :=
  (if x2 < 0 then some (mTl u, u) else grd (inb (mTl u) 500) (k26 (x1, x2 + (-8), nTl (nTx u (ix (mTl u)) ((x1 >>> (x2 &&& 31)) &&& 255)) ((mTl (nTx u (ix (mTl u)) ((x1 >>> (x2 &&& 31)) &&& 255))) + 1))))
def fX10_appendText_b0 (x1 : Int32) (u : RS) : Option (Int32 × RS) :=
  (if ((mTl (nTh u 0)) + 4) ≤ 500 then lop (fun y z => fX10_appendText_b26 y z.1 z.2.1 z.2.2) LF (x1, 24, nTh u 0) else bnd2 (fX10_fail 1 (nTh u 0)) (fun r19 u19 => some (r19, u19)))
def fX10_appendText (p1 : Int32) (u : RS) : Option (Int32 × RS) := fX10_appendText_b0 p1 u
def fX10_truncateText_b0 (x1 : Int32) (u : RS) : Option (Int32 × RS) :=
  bnd (fX10_isBetween x1 0 (mTl (nTh u 0))) (fun r11 => (if r11 = 0 then bnd2 (fX10_fail 1 (nTh u 0)) (fun r19 u19 => some (r19, u19)) else some (mTl (nTl (nTh u 0) x1), nTl (nTh u 0) x1)))
def fX10_truncateText (p1 : Int32) (u : RS) : Option (Int32 × RS) := fX10_truncateText_b0 p1 u
def fX10_byteAt_b0 (x1 : Int32) (u : RS) : Option (Int32) :=
  (if (mTl u) ≤ x1 then some (-1) else grd (inb x1 500) (some (mTx u (ix x1))))
def fX10_byteAt (p1 : Int32) (u : RS) : Option (Int32) := fX10_byteAt_b0 p1 u
def fX10_advance_b26 (k0 : RS → Option (RS)) (u : RS) : Option (RS) :=
  k0 (nPo u ((mPo u) + 1))
def fX10_advance_b222 (s1 : Int32) (u : RS) : Option (RS) :=
  some (nPo (nTo u s1) ((mPo (nTo u s1)) + 1))
def fX10_advance_b136 (k136 : RS → Option (RS)) (u : RS) : Option (RS) :=
  bnd (fX10_byteAt (mPo u) u) (fun r141 => bnd (fX10_isDigit r141) (fun r144 => (if r144 = 0 then some u else bnd (fX10_byteAt (mPo u) u) (fun r165 => k136 (nPo (nNu u (if (((10 * (mNu u)) + r165) - 48) < 1000000 then (((10 * (mNu u)) + r165) - 48) else 1000000)) ((mPo (nNu u (if (((10 * (mNu u)) + r165) - 48) < 1000000 then (((10 * (mNu u)) + r165) - 48) else 1000000))) + 1))))))
def fX10_advance_b90 (k90 : RS → Option (RS)) (u : RS) : Option (RS) :=
  bnd (fX10_byteAt (mPo u) u) (fun r95 => bnd (fX10_isLetter r95) (fun r98 => (if r98 = 0 then some u else k90 (nPo u ((mPo u) + 1)))))
def fX10_advance_b0 (k0 : RS → Option (RS)) (u : RS) : Option (RS) :=
  bnd (fX10_byteAt (mPo u) u) (fun r5 => (if r5 = 32 then fX10_advance_b26 k0 u else bnd (fX10_byteAt (mPo u) u) (fun r18 => (if r18 = 10 then fX10_advance_b26 k0 u else (if (mPo (nNu (nTs u (mPo u)) 0)) < (mTl (nNu (nTs u (mPo u)) 0)) then bnd (fX10_byteAt (mPo (nNu (nTs u (mPo u)) 0)) (nNu (nTs u (mPo u)) 0)) (fun r76 => bnd (fX10_isLetter r76) (fun r79 => (if r79 = 0 then bnd (fX10_byteAt (mPo (nNu (nTs u (mPo u)) 0)) (nNu (nTs u (mPo u)) 0)) (fun r122 => bnd (fX10_isDigit r122) (fun r125 => (if r125 = 0 then bnd (fX10_byteAt (mPo (nNu (nTs u (mPo u)) 0)) (nNu (nTs u (mPo u)) 0)) (fun r196 => (if r196 = 59 then fX10_advance_b222 4 (nNu (nTs u (mPo u)) 0) else (if r196 = 45 then fX10_advance_b222 3 (nNu (nTs u (mPo u)) 0) else fX10_advance_b222 5 (nNu (nTs u (mPo u)) 0)))) else lop (fun y z => fX10_advance_b136 y z) LF (nTo (nNu (nTs u (mPo u)) 0) 2)))) else lop (fun y z => fX10_advance_b90 y z) LF (nTo (nNu (nTs u (mPo u)) 0) 1)))) else some (nTo (nNu (nTs u (mPo u)) 0) 0))))))
def fX10_advance (u : RS) : Option (RS) := lop (fun y z => fX10_advance_b0 y z) LF u
def fX10_isFine_b0 (u : RS) : Option (Int32) :=
  (if (mEc u) = 0 then some 1 else some 0)
def fX10_isFine (u : RS) : Option (Int32) := fX10_isFine_b0 u
def fX10_require_b0 (x1 : Int32) (x2 : Int32) (u : RS) : Option (RS) :=
  (if x1 = 0 then (if (mEc u) = 0 then some (nEp (nEc u x2) (mTs (nEc u x2))) else some u) else some u)
def fX10_require (p1 : Int32) (p2 : Int32) (u : RS) : Option (RS) := fX10_require_b0 p1 p2 u
def fX10_proceed_b0 (u : RS) : Option (RS) :=
  bnd (fX10_isFine u) (fun r1 => (if r1 = 0 then some u else bnd (fX10_advance u) (fun u8 => some u8)))
def fX10_proceed (u : RS) : Option (RS) := fX10_proceed_b0 u
def fX10_parseEnd_b14 (s1 : Int32) (u : RS) : Option (RS) :=
  bnd (fX10_require s1 1 u) (fun u15 => bnd (fX10_proceed u15) (fun u19 => some u19))
def fX10_parseEnd_b0 (u : RS) : Option (RS) :=
  (if (mTo u) = 4 then fX10_parseEnd_b14 1 u else fX10_parseEnd_b14 0 u)
def fX10_parseEnd (u : RS) : Option (RS) := fX10_parseEnd_b0 u
def fX10_look_b14 (x1 : Int32) (x2 : Int32) (s1 : Int32) (u : RS) : Option (Int32 × RS) :=
  bnd (fX10_require s1 1 u) (fun u15 => bnd (fX10_isBetween (mNu u15) x1 x2) (fun r25 => bnd (fX10_require r25 2 u15) (fun u29 => bnd (fX10_isFine u29) (fun r33 => (if r33 = 0 then some (x1, u29) else some (mNu u29, u29))))))
def fX10_look_b0 (x1 : Int32) (x2 : Int32) (u : RS) : Option (Int32 × RS) :=
  (if (mTo u) = 2 then fX10_look_b14 x1 x2 1 u else fX10_look_b14 x1 x2 0 u)
def fX10_look (p1 : Int32) (p2 : Int32) (u : RS) : Option (Int32 × RS) := fX10_look_b0 p1 p2 u
def fX10_parseNumber_b0 (x1 : Int32) (x2 : Int32) (u : RS) : Option (Int32 × RS) :=
  bnd2 (fX10_look x1 x2 u) (fun r3 u3 => bnd (fX10_proceed u3) (fun u8 => some (r3, u8)))
def fX10_parseNumber (p1 : Int32) (p2 : Int32) (u : RS) : Option (Int32 × RS) := fX10_parseNumber_b0 p1 p2 u
def fX10_lookHeight_b22 (x1 : Int32) (x2 : Int32) (u : RS) : Option (Int32 × RS) :=
  bnd2 (fX10_look 0 x1 u) (fun r25 u25 => (if x2 = 0 then some (r25, u25) else some (-r25, u25)))
def fX10_lookHeight_b13 (x1 : Int32) (s0 : Int32) (u : RS) : Option (Int32 × RS) :=
  (if s0 = 0 then fX10_lookHeight_b22 x1 s0 u else bnd (fX10_proceed u) (fun u19 => fX10_lookHeight_b22 x1 s0 u19))
def fX10_lookHeight_b0 (x1 : Int32) (u : RS) : Option (Int32 × RS) :=
  (if (mTo u) = 3 then fX10_lookHeight_b13 x1 1 u else fX10_lookHeight_b13 x1 0 u)
def fX10_lookHeight (p1 : Int32) (u : RS) : Option (Int32 × RS) := fX10_lookHeight_b0 p1 u
def fX10_parseHeight_b0 (x1 : Int32) (u : RS) : Option (Int32 × RS) :=
  bnd2 (fX10_lookHeight x1 u) (fun r2 u2 => bnd (fX10_proceed u2) (fun u7 => some (r2, u7)))
def fX10_parseHeight (p1 : Int32) (u : RS) : Option (Int32 × RS) := fX10_parseHeight_b0 p1 u
def fX10_startText_b0 (u : RS) : Option (RS) :=
  bnd (fX10_advance (nTk (nTd (nCc (nPo (nEp (nEc u 0) (-1)) 0) 0) 0) 0)) (fun u31 => some u31)
def fX10_startText (u : RS) : Option (RS) := fX10_startText_b0 u
def fX10_set_b0 (x1 : Int32) (x2 : Int32) (u : RS) : Option (RS) :=
  bnd (fX10_isFine u) (fun r1 => (if r1 = 0 then some u else grd (inb x1 561) (some (nSt u (ix x1) x2))))
def fX10_set (p1 : Int32) (p2 : Int32) (u : RS) : Option (RS) := fX10_set_b0 p1 p2 u
def fX10_passOnce_b17 (x1 : Int32) (s1 : Int32) (u : RS) : Option (RS) :=
  bnd (fX10_require s1 3 u) (fun u18 => bnd (fX10_proceed (nTd u18 ((mTd u18) ||| (1 <<< (x1 &&& 31))))) (fun u34 => some u34))
def fX10_passOnce_b0 (x1 : Int32) (u : RS) : Option (RS) :=
  (if (((mTd u) >>> (x1 &&& 31)) &&& 1) = 0 then fX10_passOnce_b17 x1 1 u else fX10_passOnce_b17 x1 0 u)
def fX10_passOnce (p1 : Int32) (u : RS) : Option (RS) := fX10_passOnce_b0 p1 u
def fX10_put_b0 (x1 : Int32) (x2 : Int32) (u : RS) : Option (RS) :=
  bnd (fX10_isFine u) (fun r1 => (if r1 = 0 then some u else grd (inb ((4 * (mCc u)) + x1) 160) (some (nCo u (ix ((4 * (mCc u)) + x1)) x2))))
def fX10_put (p1 : Int32) (p2 : Int32) (u : RS) : Option (RS) := fX10_put_b0 p1 p2 u
def fX10_errorCode_b0 (u : RS) : Option (Int32 × RS) :=
  some (mEc (nTh u 0), nTh u 0)
def fX10_errorCode (u : RS) : Option (Int32 × RS) := fX10_errorCode_b0 u
def fX10_errorPosition_b0 (u : RS) : Option (Int32 × RS) :=
  some (mEp (nTh u 0), nTh u 0)
def fX10_errorPosition (u : RS) : Option (Int32 × RS) := fX10_errorPosition_b0 u
def fX10_doCommand_b114 (s1 : Int32) (u : RS) : Option (Int32 × RS) :=
  bnd2 (fX10_gateIt s1 u) (fun r114 u114 => some (r114, u114))
def fX10_doCommand_b0 (x1 : Int32) (u : RS) : Option (Int32 × RS) :=
  grd (inb (x1 + 1) 160) (grd (inb (x1 + 2) 160) (grd (inb x1 160) ((if (mCo u (ix x1)) = 0 then bnd2 (fX10_tickIt (mCo u (ix (x1 + 1))) u) (fun r74 u74 => some (r74, u74)) else (if (mCo u (ix x1)) = 1 then bnd2 (fX10_arriveIt (mCo u (ix (x1 + 1))) (mCo u (ix (x1 + 2))) u) (fun r81 u81 => some (r81, u81)) else (if (mCo u (ix x1)) = 2 then bnd2 (fX10_waveIt (mCo u (ix (x1 + 1))) u) (fun r87 u87 => some (r87, u87)) else (if (mCo u (ix x1)) = 3 then bnd2 (fX10_dismissIt (mCo u (ix (x1 + 1))) u) (fun r93 u93 => some (r93, u93)) else (if (mCo u (ix x1)) = 4 then bnd2 (fX10_unloadIt (mCo u (ix (x1 + 1))) u) (fun r99 u99 => some (r99, u99)) else (if (mCo u (ix x1)) = 5 then (if (mCo u (ix (x1 + 1))) = 1 then fX10_doCommand_b114 1 u else fX10_doCommand_b114 0 u) else (if (mCo u (ix x1)) = 6 then bnd2 (fX10_crankIt (mCo u (ix (x1 + 1))) u) (fun r120 u120 => some (r120, u120)) else (if (mCo u (ix x1)) = 7 then grd (inb (x1 + 3) 160) (bnd2 (fX10_winchIt (mCo u (ix (x1 + 1))) (mCo u (ix (x1 + 2))) (mCo u (ix (x1 + 3))) u) (fun r135 u135 => some (r135, u135))) else bnd2 (fX10_crossIt (mCo u (ix (x1 + 1))) (mCo u (ix (x1 + 2))) u) (fun r142 u142 => some (r142, u142)))))))))))))
def fX10_doCommand (p1 : Int32) (u : RS) : Option (Int32 × RS) := fX10_doCommand_b0 p1 u
def fX6_commandPart_b0 (x1 : Int32) (x2 : Int32) (u : PS) : Option (Int32) :=
  (if x1 < 0 then some (-1) else (if (pCc u) ≤ x1 then some (-1) else bnd (fX9_at ((x1 * 4) + x2) 160 (pCo u)) (fun r21 => some r21)))
def fX6_commandPart (p1 : Int32) (p2 : Int32) (u : PS) : Option (Int32) := fX6_commandPart_b0 p1 p2 u
def fX6_addCommand_b0 (x1 : Int32) (x2 : Int32) (x3 : Int32) (x4 : Int32) (u : PS) : Option (PS) :=
  (if ((pCc u) * 4) < 0 then some u else (if (((pCc u) * 4) + 4) ≤ 160 then grd (inb (((pCc u) * 4) + 0) 160) (grd (inb (((pCc u) * 4) + 1) 160) (grd (inb (((pCc u) * 4) + 2) 160) (grd (inb (((pCc u) * 4) + 3) 160) (some (tCc (tCo (tCo (tCo (tCo u (ix (((pCc u) * 4) + 0)) x1) (ix (((pCc u) * 4) + 1)) x2) (ix (((pCc u) * 4) + 2)) x3) (ix (((pCc u) * 4) + 3)) x4) ((pCc (tCo (tCo (tCo (tCo u (ix (((pCc u) * 4) + 0)) x1) (ix (((pCc u) * 4) + 1)) x2) (ix (((pCc u) * 4) + 2)) x3) (ix (((pCc u) * 4) + 3)) x4)) + 1)))))) else some u))
def fX6_addCommand (p1 : Int32) (p2 : Int32) (p3 : Int32) (p4 : Int32) (u : PS) : Option (PS) := fX6_addCommand_b0 p1 p2 p3 p4 u
def fX6_readGate_b0 (u : PS) : Option (Int32 × PS) :=
  bnd (fX6_isHere 38 u) (fun r3 => (if r3 = 0 then bnd (fX6_readWord 39 u) (fun u18 => some (0, u18)) else bnd (fX6_readToken u) (fun u10 => some (1, u10))))
def fX6_readGate (u : PS) : Option (Int32 × PS) := fX6_readGate_b0 u
def fX6_commandHere_b0 (u : PS) : Option (Int32) :=
  bnd (fX6_isHere 32 u) (fun r3 => (if r3 = 0 then bnd (fX6_isHere 26 u) (fun r14 => (if r14 = 0 then bnd (fX6_isHere 33 u) (fun r25 => (if r25 = 0 then bnd (fX6_isHere 34 u) (fun r36 => (if r36 = 0 then bnd (fX6_isHere 35 u) (fun r47 => (if r47 = 0 then bnd (fX6_isHere 36 u) (fun r58 => (if r58 = 0 then bnd (fX6_isHere 37 u) (fun r69 => (if r69 = 0 then bnd (fX6_isHere 23 u) (fun r81 => (if r81 = 0 then bnd (fX6_isHere 24 u) (fun r93 => (if r93 = 0 then some (-1) else some 8)) else some 7)) else some 6)) else some 5)) else some 4)) else some 3)) else some 2)) else some 1)) else some 0))
def fX6_commandHere (u : PS) : Option (Int32) := fX6_commandHere_b0 u
def fX6_readParts_b193 (x1 : Int32) (x2 : Int32) (x3 : Int32) (x4 : Int32) (u : PS) : Option (PS) :=
  bnd (fX6_addCommand x1 x2 x3 x4 u) (fun u199 => some u199)
def fX6_readParts_b79 (x1 : Int32) (x3 : Int32) (x4 : Int32) (s0 : Int32) (u : PS) : Option (PS) :=
  fX6_readParts_b193 x1 s0 x3 x4 u
def fX6_readParts_b0 (x1 : Int32) (u : PS) : Option (PS) :=
  (if x1 = 0 then (if (pTy u) = 2 then bnd2 (fX6_readNumber 1 50 u) (fun r72 u72 => fX6_readParts_b79 x1 0 0 r72 u72) else fX6_readParts_b79 x1 0 0 1 u) else (if x1 = 1 then bnd2 (fX6_readNumber 0 3 u) (fun r86 u86 => bnd2 (fX6_readNumber 1 999 u86) (fun r95 u95 => fX6_readParts_b193 x1 r86 r95 0 u95)) else (if x1 = 2 then bnd2 (fX6_readNumber 0 59 u) (fun r189 u189 => fX6_readParts_b193 x1 r189 0 0 u189) else (if x1 = 3 then bnd2 (fX6_readNumber 0 59 u) (fun r189 u189 => fX6_readParts_b193 x1 r189 0 0 u189) else (if x1 = 4 then bnd2 (fX6_readNumber 0 2 u) (fun r105 u105 => fX6_readParts_b193 x1 r105 0 0 u105) else (if x1 = 5 then bnd2 (fX6_readGate u) (fun r113 u113 => fX6_readParts_b193 x1 r113 0 0 u113) else (if x1 = 6 then bnd2 (fX6_readHeight (-20) 20 u) (fun r125 u125 => fX6_readParts_b193 x1 r125 0 0 u125) else (if x1 = 7 then bnd2 (fX6_readNumber 1 20 u) (fun r136 u136 => bnd2 (fX6_readNumber 0 50 u136) (fun r144 u144 => bnd2 (fX6_readNumber 0 20 u144) (fun r152 u152 => fX6_readParts_b193 x1 r136 r144 r152 u152))) else (if x1 = 8 then bnd2 (fX6_readNumber 1 20 u) (fun r164 u164 => bnd (fX6_readWord 31 u164) (fun u171 => bnd2 (fX6_readNumber 1 50 u171) (fun r178 u178 => fX6_readParts_b193 x1 r164 r178 0 u178))) else bnd2 (fX6_readNumber 0 59 u) (fun r189 u189 => fX6_readParts_b193 x1 r189 0 0 u189))))))))))
def fX6_readParts (p1 : Int32) (u : PS) : Option (PS) := fX6_readParts_b0 p1 u
def fX6_readCommand_b0 (u : PS) : Option (PS) :=
  bnd (fX6_commandHere u) (fun r1 => (if r1 = (-1) then bnd (fX6_fail 1 u) (fun u12 => some u12) else (if (pCc u) < 40 then bnd (fX6_readToken u) (fun u36 => bnd (fX6_readParts r1 u36) (fun u41 => bnd (fX6_readSemicolon u41) (fun u45 => some u45))) else bnd (fX6_fail 4 u) (fun u29 => some u29))))
def fX6_readCommand (u : PS) : Option (PS) := fX6_readCommand_b0 u
def fX6_readScript_b42 (u : PS) : Option (Int32 × PS) :=
  (if (pEc u) = 0 then some (1, u) else some (0, u))
def fX6_readScript_b11 (k11 : Int32 × PS → Option (Int32 × PS)) (x1 : Int32) (u : PS) : Option (Int32 × PS) :=
  (if 500 < x1 then fX6_readScript_b42 u else (if (pTy u) = 0 then fX6_readScript_b42 u else (if (pEc u) = 0 then bnd (fX6_readCommand u) (fun u33 => k11 (x1 + 1, u33)) else fX6_readScript_b42 u)))
def fX6_readScript_b0 (u : PS) : Option (Int32 × PS) :=
  bnd (fX6_readFirstToken (tCc u 0)) (fun u6 => lop (fun y z => fX6_readScript_b11 y z.1 z.2) LF (0, u6))
def fX6_readScript (u : PS) : Option (Int32 × PS) := fX6_readScript_b0 u
def fX10_isWord_b75 (k39 : Int32 × Int32 → Option (Int32)) (x3 : Int32) (s0 : Int32) (w1 : Nat) (u : RS) : Option (Int32) :=
  k39 (s0, x3 + 1)
def fX10_isWord_b39 (k39 : Int32 × Int32 → Option (Int32)) (x2 : Int32) (x3 : Int32) (w1 : Nat) (u : RS) : Option (Int32) :=
  (if x2 = 0 then grd (decide (x2 &&& 1 = x2)) (some x2) else bnd (fJ0_length_8abf5 w1) (fun r45 => (if r45 ≤ x3 then grd (decide (x2 &&& 1 = x2)) (some x2) else grd (inb ((mTs u) + x3) 500) (bnd (fJ0_charAt_5068e x3 w1) (fun r64 => (if (mTx u (ix ((mTs u) + x3))) = r64 then fX10_isWord_b75 k39 x3 1 w1 u else fX10_isWord_b75 k39 x3 0 w1 u))))))
def fX10_isWord_b36 (s0 : Int32) (w1 : Nat) (u : RS) : Option (Int32) :=
  lop (fun y z => fX10_isWord_b39 y z.1 z.2 w1 u) LF (s0, 0)
def fX10_isWord_b35 (w1 : Nat) (u : RS) : Option (Int32) :=
  fX10_isWord_b36 0 w1 u
def fX10_isWord_b0 (w1 : Nat) (u : RS) : Option (Int32) :=
  bnd (fX10_isFine u) (fun r1 => (if r1 = 0 then fX10_isWord_b35 w1 u else (if (mTo u) = 1 then bnd (fJ0_length_8abf5 w1) (fun r25 => (if ((mPo u) - (mTs u)) = r25 then fX10_isWord_b36 1 w1 u else fX10_isWord_b35 w1 u)) else fX10_isWord_b35 w1 u)))
def fX10_isWord (w1 : Nat) (u : RS) : Option (Int32) := fX10_isWord_b0 w1 u
def fX10_parseWord_b0 (w1 : Nat) (u : RS) : Option (RS) :=
  bnd (fX10_isWord w1 u) (fun r3 => bnd (fX10_require r3 1 u) (fun u7 => bnd (fX10_proceed u7) (fun u11 => some u11)))
def fX10_parseWord (w1 : Nat) (u : RS) : Option (RS) := fX10_parseWord_b0 w1 u
def fX10_parseTide_b32 (x1 : Int32) (x2 : Int32) (s1 : Int32) (u : RS) : Option (RS) :=
  bnd (fX10_require s1 2 u) (fun u33 => bnd (fX10_proceed u33) (fun u37 => bnd (fX10_parseWord 40 u37) (fun u43 => bnd2 (fX10_parseNumber 1 99 u43) (fun r53 u53 => bnd (fX10_set 17 r53 u53) (fun u56 => bnd (fX10_set 15 x1 u56) (fun u63 => bnd (fX10_set 16 x2 u63) (fun u70 => some u70)))))))
def fX10_parseTide_b0 (u : RS) : Option (RS) :=
  bnd (fX10_passOnce 0 u) (fun u2 => bnd2 (fX10_parseHeight 500 u2) (fun r9 u9 => bnd2 (fX10_lookHeight 500 u9) (fun r17 u17 => (if r17 < r9 then fX10_parseTide_b32 r9 r17 0 u17 else fX10_parseTide_b32 r9 r17 1 u17))))
def fX10_parseTide (u : RS) : Option (RS) := fX10_parseTide_b0 u
def fX10_parseQuay_b0 (u : RS) : Option (RS) :=
  bnd (fX10_passOnce 1 u) (fun u2 => bnd2 (fX10_parseHeight 500 u2) (fun r12 u12 => bnd (fX10_set 18 r12 u12) (fun u15 => some u15)))
def fX10_parseQuay (u : RS) : Option (RS) := fX10_parseQuay_b0 u
def fX10_parseDeck_b0 (u : RS) : Option (RS) :=
  bnd (fX10_passOnce 2 u) (fun u2 => bnd2 (fX10_parseNumber 0 300 u2) (fun r13 u13 => bnd (fX10_set 19 r13 u13) (fun u16 => bnd (fX10_parseWord 41 u16) (fun u22 => bnd2 (fX10_parseNumber 1 999 u22) (fun r33 u33 => bnd (fX10_set 20 r33 u33) (fun u36 => some u36))))))
def fX10_parseDeck (u : RS) : Option (RS) := fX10_parseDeck_b0 u
def fX10_parseLanes_b0 (u : RS) : Option (RS) :=
  bnd (fX10_passOnce 3 u) (fun u2 => bnd2 (fX10_parseNumber 1 30 u2) (fun r12 u12 => bnd (fX10_set 21 r12 u12) (fun u15 => bnd (fX10_parseWord 42 u15) (fun u21 => bnd2 (fX10_parseNumber 1 9999 u21) (fun r32 u32 => bnd (fX10_set 22 r32 u32) (fun u35 => bnd (fX10_parseWord 43 u35) (fun u41 => bnd2 (fX10_parseNumber 0 9999 u41) (fun r52 u52 => bnd (fX10_set 23 r52 u52) (fun u55 => some u55)))))))))
def fX10_parseLanes (u : RS) : Option (RS) := fX10_parseLanes_b0 u
def fX10_parseKind_b28 (x1 : Int32) (s1 : Int32) (u : RS) : Option (RS) :=
  bnd (fX10_require s1 3 u) (fun u29 => bnd (fX10_proceed (nTk u29 ((mTk u29) ||| (1 <<< (x1 &&& 31))))) (fun u45 => bnd2 (fX10_parseNumber 0 500 u45) (fun r53 u53 => bnd2 (fX10_parseNumber 0 99 u53) (fun r61 u61 => bnd2 (fX10_parseNumber 1 9 u61) (fun r69 u69 => bnd (fX10_isFine u69) (fun r75 => (if r75 = 0 then some u69 else bnd (fX10_layKind x1 r53 r61 r69 (mSt u69)) (fun u87 => some (nStA u69 u87)))))))))
def fX10_parseKind_b0 (u : RS) : Option (RS) :=
  bnd (fX10_proceed u) (fun u1 => bnd2 (fX10_look 0 3 u1) (fun r7 u7 => (if (((mTk u7) >>> (r7 &&& 31)) &&& 1) = 0 then fX10_parseKind_b28 r7 1 u7 else fX10_parseKind_b28 r7 0 u7)))
def fX10_parseKind (u : RS) : Option (RS) := fX10_parseKind_b0 u
def fX10_parseWinch_b0 (u : RS) : Option (RS) :=
  bnd (fX10_passOnce 4 u) (fun u2 => bnd2 (fX10_parseNumber 1 20 u2) (fun r12 u12 => bnd (fX10_set 24 r12 u12) (fun u15 => bnd2 (fX10_parseNumber 0 50 u15) (fun r25 u25 => bnd (fX10_set 25 r25 u25) (fun u28 => bnd2 (fX10_parseNumber 0 20 u28) (fun r38 u38 => bnd (fX10_set 26 r38 u38) (fun u41 => some u41)))))))
def fX10_parseWinch (u : RS) : Option (RS) := fX10_parseWinch_b0 u
def fX10_parseCross_b0 (u : RS) : Option (RS) :=
  bnd (fX10_passOnce 5 u) (fun u2 => bnd2 (fX10_parseNumber 1 20 u2) (fun r12 u12 => bnd (fX10_set 27 r12 u12) (fun u15 => bnd (fX10_parseWord 44 u15) (fun u22 => bnd2 (fX10_parseNumber 1 50 u22) (fun r32 u32 => bnd (fX10_set 28 r32 u32) (fun u35 => some u35))))))
def fX10_parseCross (u : RS) : Option (RS) := fX10_parseCross_b0 u
def fX10_parseCar_b18 (s1 : Int32) (u : RS) : Option (RS) :=
  bnd (fX10_require s1 4 u) (fun u19 => bnd (fX10_proceed u19) (fun u23 => bnd2 (fX10_parseNumber 0 3 u23) (fun r29 u29 => bnd2 (fX10_parseNumber 1 999 u29) (fun r38 u38 => bnd (fX10_isFine u38) (fun r43 => (if r43 = 0 then some u38 else bnd2 (fX10_addCar r29 r38 (mSt u38)) (fun r52 u52 => some (nStA u38 u52))))))))
def fX10_parseCar_b0 (u : RS) : Option (RS) :=
  (if 20 ≤ (mSt u 14) then fX10_parseCar_b18 0 u else fX10_parseCar_b18 1 u)
def fX10_parseCar (u : RS) : Option (RS) := fX10_parseCar_b0 u
def fX10_parseStatement_b135 (u : RS) : Option (RS) :=
  bnd (fX10_parseEnd u) (fun u136 => some u136)
def fX10_parseStatement_b0 (u : RS) : Option (RS) :=
  bnd (fX10_isWord 45 u) (fun r4 => (if r4 = 0 then bnd (fX10_isWord 46 u) (fun r21 => (if r21 = 0 then bnd (fX10_isWord 47 u) (fun r38 => (if r38 = 0 then bnd (fX10_isWord 48 u) (fun r55 => (if r55 = 0 then bnd (fX10_isWord 49 u) (fun r72 => (if r72 = 0 then bnd (fX10_isWord 50 u) (fun r89 => (if r89 = 0 then bnd (fX10_isWord 51 u) (fun r106 => (if r106 = 0 then bnd (fX10_isWord 52 u) (fun r124 => bnd (fX10_require r124 1 u) (fun u128 => bnd (fX10_parseCar u128) (fun u132 => fX10_parseStatement_b135 u132))) else bnd (fX10_parseCross u) (fun u113 => fX10_parseStatement_b135 u113))) else bnd (fX10_parseWinch u) (fun u96 => fX10_parseStatement_b135 u96))) else bnd (fX10_parseKind u) (fun u79 => fX10_parseStatement_b135 u79))) else bnd (fX10_parseLanes u) (fun u62 => fX10_parseStatement_b135 u62))) else bnd (fX10_parseDeck u) (fun u45 => fX10_parseStatement_b135 u45))) else bnd (fX10_parseQuay u) (fun u28 => fX10_parseStatement_b135 u28))) else bnd (fX10_parseTide u) (fun u11 => fX10_parseStatement_b135 u11)))
def fX10_parseStatement (u : RS) : Option (RS) := fX10_parseStatement_b0 u
def fX10_load_b47 (u : RS) : Option (Int32 × RS) :=
  bnd (fX10_isFine (nTl u 0)) (fun r53 => (if r53 = 0 then bnd (fX10_copy 0 0 561 (mAs (nTl u 0)) 561 (mSt (nTl u 0))) (fun u69 => some ((-1), nStA (nTl u 0) u69)) else bnd (fX10_deckAt 0 (mSt (nTl u 0))) (fun r81 => some (mSt (nAc (nSt (nTl u 0) 1 r81) 0) 14, nAc (nSt (nTl u 0) 1 r81) 0))))
def fX10_load_b26 (k26 : RS → Option (Int32 × RS)) (u : RS) : Option (Int32 × RS) :=
  bnd (fX10_isFine u) (fun r27 => (if r27 = 0 then fX10_load_b47 u else (if (mTo u) = 0 then fX10_load_b47 u else bnd (fX10_parseStatement u) (fun u41 => k26 u41))))
def fX10_load_b0 (u : RS) : Option (Int32 × RS) :=
  bnd (fX10_copy 0 0 561 (mSt (nTh u 0)) 561 (mAs (nTh u 0))) (fun u15 => bnd (fX10_begin (mSt (nAsA (nTh u 0) u15))) (fun u19 => bnd (fX10_startText (nStA (nAsA (nTh u 0) u15) u19)) (fun u23 => lop (fun y z => fX10_load_b26 y z) LF u23)))
def fX10_load (u : RS) : Option (Int32 × RS) := fX10_load_b0 u
def fX10_commandHere_b0 (u : RS) : Option (Int32) :=
  bnd (fX10_isWord 53 u) (fun r4 => (if r4 = 0 then bnd (fX10_isWord 52 u) (fun r16 => (if r16 = 0 then bnd (fX10_isWord 54 u) (fun r28 => (if r28 = 0 then bnd (fX10_isWord 55 u) (fun r40 => (if r40 = 0 then bnd (fX10_isWord 56 u) (fun r52 => (if r52 = 0 then bnd (fX10_isWord 57 u) (fun r64 => (if r64 = 0 then bnd (fX10_isWord 58 u) (fun r76 => (if r76 = 0 then bnd (fX10_isWord 50 u) (fun r89 => (if r89 = 0 then bnd (fX10_isWord 51 u) (fun r102 => (if r102 = 0 then some (-1) else some 8)) else some 7)) else some 6)) else some 5)) else some 4)) else some 3)) else some 2)) else some 1)) else some 0))
def fX10_commandHere (u : RS) : Option (Int32) := fX10_commandHere_b0 u
def fX10_parseGate_b43 (s1 : Int32) (s2 : Int32) (u : RS) : Option (RS) :=
  bnd (fX10_put s1 s2 u) (fun u43 => bnd (fX10_proceed u43) (fun u47 => some u47))
def fX10_parseGate_b28 (x1 : Int32) (s1 : Int32) (u : RS) : Option (RS) :=
  bnd (fX10_require s1 1 u) (fun u29 => (if x1 = 0 then fX10_parseGate_b43 1 0 u29 else fX10_parseGate_b43 1 1 u29))
def fX10_parseGate_b23 (x1 : Int32) (u : RS) : Option (RS) :=
  fX10_parseGate_b28 x1 1 u
def fX10_parseGate_b0 (u : RS) : Option (RS) :=
  bnd (fX10_isWord 59 u) (fun r4 => (if r4 = 0 then bnd (fX10_isWord 60 u) (fun r17 => (if r17 = 0 then fX10_parseGate_b28 r4 0 u else fX10_parseGate_b23 r4 u)) else fX10_parseGate_b23 r4 u))
def fX10_parseGate (u : RS) : Option (RS) := fX10_parseGate_b0 u
def fX10_parseArguments_b69 (s1 : Int32) (s2 : Int32) (u : RS) : Option (RS) :=
  bnd (fX10_put s1 s2 u) (fun u69 => some u69)
def fX10_parseArguments_b0 (x1 : Int32) (u : RS) : Option (RS) :=
  (if x1 = 0 then (if (mTo u) = 2 then bnd2 (fX10_parseNumber 1 50 u) (fun r62 u62 => fX10_parseArguments_b69 1 r62 u62) else fX10_parseArguments_b69 1 1 u) else (if x1 = 1 then bnd2 (fX10_parseNumber 0 3 u) (fun r80 u80 => bnd (fX10_put 1 r80 u80) (fun u83 => bnd2 (fX10_parseNumber 1 999 u83) (fun r93 u93 => bnd (fX10_put 2 r93 u93) (fun u96 => some u96)))) else (if x1 = 2 then bnd2 (fX10_parseNumber 0 59 u) (fun r108 u108 => bnd (fX10_put 1 r108 u108) (fun u111 => some u111)) else (if x1 = 3 then bnd2 (fX10_parseNumber 0 59 u) (fun r108 u108 => bnd (fX10_put 1 r108 u108) (fun u111 => some u111)) else (if x1 = 4 then bnd2 (fX10_parseNumber 0 2 u) (fun r122 u122 => bnd (fX10_put 1 r122 u122) (fun u125 => some u125)) else (if x1 = 5 then bnd (fX10_parseGate u) (fun u132 => some u132) else (if x1 = 6 then bnd2 (fX10_parseHeight 20 u) (fun r143 u143 => bnd (fX10_put 1 r143 u143) (fun u146 => some u146)) else (if x1 = 7 then bnd2 (fX10_parseNumber 1 20 u) (fun r158 u158 => bnd (fX10_put 1 r158 u158) (fun u161 => bnd2 (fX10_parseNumber 0 50 u161) (fun r170 u170 => bnd (fX10_put 2 r170 u170) (fun u173 => bnd2 (fX10_parseNumber 0 20 u173) (fun r182 u182 => bnd (fX10_put 3 r182 u182) (fun u185 => some u185)))))) else bnd2 (fX10_parseNumber 1 20 u) (fun r197 u197 => bnd (fX10_put 1 r197 u197) (fun u200 => bnd (fX10_parseWord 44 u200) (fun u207 => bnd2 (fX10_parseNumber 1 50 u207) (fun r216 u216 => bnd (fX10_put 2 r216 u216) (fun u219 => some u219)))))))))))))
def fX10_parseArguments (p1 : Int32) (u : RS) : Option (RS) := fX10_parseArguments_b0 p1 u
def fX10_parseCommand_b61 (u : RS) : Option (RS) :=
  bnd (fX10_parseEnd u) (fun u62 => bnd (fX10_isFine u62) (fun r66 => (if r66 = 0 then some u62 else some (nCc u62 ((mCc u62) + 1)))))
def fX10_parseCommand_b35 (x1 : Int32) (s1 : Int32) (u : RS) : Option (RS) :=
  bnd (fX10_require s1 4 u) (fun u36 => bnd (fX10_put 0 x1 u36) (fun u42 => bnd (fX10_proceed u42) (fun u46 => bnd (fX10_isFine u46) (fun r50 => (if r50 = 0 then fX10_parseCommand_b61 u46 else bnd (fX10_parseArguments x1 u46) (fun u58 => fX10_parseCommand_b61 u58))))))
def fX10_parseCommand_b16 (x1 : Int32) (s1 : Int32) (u : RS) : Option (RS) :=
  bnd (fX10_require s1 1 u) (fun u17 => (if 40 ≤ (mCc u17) then fX10_parseCommand_b35 x1 0 u17 else fX10_parseCommand_b35 x1 1 u17))
def fX10_parseCommand_b0 (u : RS) : Option (RS) :=
  bnd (fX10_commandHere u) (fun r1 => (if r1 = (-1) then fX10_parseCommand_b16 r1 0 u else fX10_parseCommand_b16 r1 1 u))
def fX10_parseCommand (u : RS) : Option (RS) := fX10_parseCommand_b0 u
def fX10_play_b46 (k46 : Int32 × RS → Option (Int32 × RS)) (x1 : Int32) (u : RS) : Option (Int32 × RS) :=
  (if (mCc u) ≤ x1 then some (x1, u) else bnd2 (fX10_doCommand (4 * x1) u) (fun r58 u58 => (if r58 < 0 then some (x1, u58) else k46 (x1 + 1, u58))))
def fX10_play_b30 (u : RS) : Option (Int32 × RS) :=
  bnd (fX10_isFine (nTl u 0)) (fun r36 => (if r36 = 0 then some ((-1), nTl u 0) else lop (fun y z => fX10_play_b46 y z.1 z.2) LF (0, nTl u 0)))
def fX10_play_b9 (k9 : RS → Option (Int32 × RS)) (u : RS) : Option (Int32 × RS) :=
  bnd (fX10_isFine u) (fun r10 => (if r10 = 0 then fX10_play_b30 u else (if (mTo u) = 0 then fX10_play_b30 u else bnd (fX10_parseCommand u) (fun u24 => k9 u24))))
def fX10_play_b0 (u : RS) : Option (Int32 × RS) :=
  bnd (fX10_startText (nTh u 0)) (fun u6 => lop (fun y z => fX10_play_b9 y z) LF u6)
def fX10_play (u : RS) : Option (Int32 × RS) := fX10_play_b0 u
def fX9_doSetGate_b0 (x1 : Int32) (u : FS) : Option (Int32 × FS) :=
  (if (sC (fN u) 16) = x1 then bnd2 (fX9_refuse 1 u) (fun r16 u16 => some (r16, u16)) else bnd (fX9_accept u) (fun u21 => some (0, gN u21 (wC (fN u21) 16 x1))))
def fX9_doSetGate (p1 : Int32) (u : FS) : Option (Int32 × FS) := fX9_doSetGate_b0 p1 u
def fX9_doSetWinch_b0 (x1 : Int32) (x2 : Int32) (x3 : Int32) (u : FS) : Option (Int32 × FS) :=
  bnd (fX9_accept u) (fun u1 => some (0, gN (gN (gN u1 (wT (fN u1) 9 x1)) (wT (fN (gN u1 (wT (fN u1) 9 x1))) 10 x2)) (wT (fN (gN (gN u1 (wT (fN u1) 9 x1)) (wT (fN (gN u1 (wT (fN u1) 9 x1))) 10 x2))) 11 x3)))
def fX9_doSetWinch (p1 : Int32) (p2 : Int32) (p3 : Int32) (u : FS) : Option (Int32 × FS) := fX9_doSetWinch_b0 p1 p2 p3 u
def fX9_doSetCross_b0 (x1 : Int32) (x2 : Int32) (u : FS) : Option (Int32 × FS) :=
  bnd (fX9_accept u) (fun u1 => some (0, gN (gN u1 (wT (fN u1) 12 x1)) (wT (fN (gN u1 (wT (fN u1) 12 x1))) 13 x2)))
def fX9_doSetCross (p1 : Int32) (p2 : Int32) (u : FS) : Option (Int32 × FS) := fX9_doSetCross_b0 p1 p2 u
def fX9_perform_b0 (x1 : Int32) (u : FS) : Option (Int32 × FS) :=
  bnd (fX6_commandPart x1 1 (fP u)) (fun r6 => bnd (fX6_commandPart x1 2 (fP u)) (fun r16 => bnd (fX6_commandPart x1 3 (fP u)) (fun r26 => bnd (fX6_commandPart x1 0 (fP u)) (fun r37 => (if r37 = 0 then bnd2 (fX9_doTick r6 u) (fun r94 u94 => some (r94, u94)) else (if r37 = 1 then bnd2 (fX9_doArrive r6 r16 u) (fun r101 u101 => some (r101, u101)) else (if r37 = 2 then bnd2 (fX9_doWave r6 u) (fun r107 u107 => some (r107, u107)) else (if r37 = 3 then bnd2 (fX9_doDismiss r6 u) (fun r113 u113 => some (r113, u113)) else (if r37 = 4 then bnd2 (fX9_doUnload r6 u) (fun r119 u119 => some (r119, u119)) else (if r37 = 5 then bnd2 (fX9_doSetGate r6 u) (fun r125 u125 => some (r125, u125)) else (if r37 = 6 then bnd2 (fX9_doCrank r6 u) (fun r131 u131 => some (r131, u131)) else (if r37 = 7 then bnd2 (fX9_doSetWinch r6 r16 r26 u) (fun r140 u140 => some (r140, u140)) else (if r37 = 8 then bnd2 (fX9_doSetCross r6 r16 u) (fun r147 u147 => some (r147, u147)) else some ((-1), u))))))))))))))
def fX9_perform (p1 : Int32) (u : FS) : Option (Int32 × FS) := fX9_perform_b0 p1 u
def fX9_writeByte_b0 (x1 : Int32) (u : FS) : Option (FS) :=
  (if (fL u) < 0 then some u else (if 256 ≤ (fL u) then some u else grd (inb (fL u) 256) (some (gL (gU u (ix (fL u)) x1) ((fL (gU u (ix (fL u)) x1)) + 1)))))
def fX9_writeByte (p1 : Int32) (u : FS) : Option (FS) := fX9_writeByte_b0 p1 u
def fX9_writeNumber_b17 (x1 : Int32) (u : FS) : Option (FS) :=
  bnd (fX9_writeByte (48 + (x1 - x1 / 10 * 10)) u) (fun u25 => some u25)
def fX9_writeNumber_b0 (x1 : Int32) (u : FS) : Option (FS) :=
  (if x1 < 10 then fX9_writeNumber_b17 x1 u else bnd (fX9_writeByte (48 + (x1 / 10)) u) (fun u14 => fX9_writeNumber_b17 x1 u14))
def fX9_writeNumber (p1 : Int32) (u : FS) : Option (FS) := fX9_writeNumber_b0 p1 u
def fX9_writeLanes_b37 (k7 : Int32 × FS → Option (Int32 × FS)) (k14 : Int32 × Int32 × FS → Option (Int32 × FS)) (x1 : Int32) (x2 : Int32) (u : FS) : Option (Int32 × FS) :=
  bnd (fX8_carOnDeck x1 x2 (fN u)) (fun r44 => bnd (fX9_writeNumber r44 u) (fun u47 => k14 (x1, x2 + 1, u47)))
def fX9_writeLanes_b14 (k7 : Int32 × FS → Option (Int32 × FS)) (k14 : Int32 × Int32 × FS → Option (Int32 × FS)) (x1 : Int32) (x2 : Int32) (u : FS) : Option (Int32 × FS) :=
  grd (inb x1 3) ((if (sD (fN u) (ix x1)) ≤ x2 then bnd (fX9_writeByte 47 u) (fun u59 => grd (inb x1 3) (bnd (fX9_writeNumber ((sT (fN u59) 6) - (sN (fN u59) (ix x1))) u59) (fun u83 => bnd (fX9_writeByte 59 u83) (fun u89 => k7 (x1 + 1, u89))))) else (if x2 ≤ 0 then fX9_writeLanes_b37 k7 k14 x1 x2 u else bnd (fX9_writeByte 44 u) (fun u34 => fX9_writeLanes_b37 k7 k14 x1 x2 u34))))
def fX9_writeLanes_b7 (k7 : Int32 × FS → Option (Int32 × FS)) (x1 : Int32) (u : FS) : Option (Int32 × FS) :=
  (if 3 ≤ x1 then some (fL u, u) else lop (fun y z => fX9_writeLanes_b14 k7 y z.1 z.2.1 z.2.2) LF (x1, 0, u))
def fX9_writeLanes_b0 (u : FS) : Option (Int32 × FS) :=
  lop (fun y z => fX9_writeLanes_b7 y z.1 z.2) LF (0, gL u 0)
def fX9_writeLanes (u : FS) : Option (Int32 × FS) := fX9_writeLanes_b0 u
def fX9_output_b0 (x1 : Int32) (u : FS) : Option (Int32) :=
  (if x1 < 0 then some (-1) else (if (fL u) ≤ x1 then some (-1) else bnd (fX9_at x1 256 (fU u)) (fun r17 => some r17)))
def fX9_output (p1 : Int32) (u : FS) : Option (Int32) := fX9_output_b0 p1 u
def fX9_errorCode_b0 (u : FS) : Option (Int32) :=
  some (pEc (fP u))
def fX9_errorCode (u : FS) : Option (Int32) := fX9_errorCode_b0 u
def fX9_errorPosition_b0 (u : FS) : Option (Int32) :=
  some (pEp (fP u))
def fX9_errorPosition (u : FS) : Option (Int32) := fX9_errorPosition_b0 u
def fX9_heaviest_b54 (k6 : Int32 × Int32 × Int32 → Option (Int32)) (x1 : Int32) (x2 : Int32) (x3 : Int32) (u : FS) : Option (Int32) :=
  k6 (x1, x2, x3 + 1)
def fX9_heaviest_b6 (k6 : Int32 × Int32 × Int32 → Option (Int32)) (x1 : Int32) (x2 : Int32) (x3 : Int32) (u : FS) : Option (Int32) :=
  (if (sC (fN u) 3) ≤ x3 then some x1 else bnd (fX8_carFact x3 1 (fN u)) (fun r25 => bnd (fX8_carFact x3 2 (fN u)) (fun r36 => (if r36 = 2 then (if r25 ≤ x2 then fX9_heaviest_b54 k6 x1 x2 x3 u else fX9_heaviest_b54 k6 x3 r25 x3 u) else fX9_heaviest_b54 k6 x1 x2 x3 u))))
def fX9_heaviest_b0 (u : FS) : Option (Int32) :=
  lop (fun y z => fX9_heaviest_b6 y z.1 z.2.1 z.2.2 u) LF ((-1), 0, 0)
def fX9_heaviest (u : FS) : Option (Int32) := fX9_heaviest_b0 u
def fX9_setGate_b10 (s1 : Int32) (u : FS) : Option (Int32 × FS) :=
  bnd2 (fX9_doSetGate s1 u) (fun r10 u10 => some (r10, u10))
def fX9_setGate_b0 (x1 : Int32) (u : FS) : Option (Int32 × FS) :=
  (if x1 = 0 then fX9_setGate_b10 0 u else fX9_setGate_b10 1 u)
def fX9_setGate (p1 : Int32) (u : FS) : Option (Int32 × FS) := fX9_setGate_b0 p1 u
def fX9_play_b24 (k24 : Int32 × FS → Option (Int32 × FS)) (x2 : Int32) (u : FS) : Option (Int32 × FS) :=
  (if (pCc (fP u)) ≤ x2 then some (x2, u) else bnd2 (fX9_perform x2 u) (fun r37 u37 => (if r37 < 0 then some (x2, u37) else k24 (x2 + 1, u37))))
def fX9_play_b0 (u : FS) : Option (Int32 × FS) :=
  bnd2 (fX6_readScript (fP u)) (fun r4 u4 => (if r4 = 0 then some ((-1), gP (gP u u4) (tLe (fP (gP u u4)) 0)) else lop (fun y z => fX9_play_b24 y z.1 z.2) LF (0, gP (gP u u4) (tLe (fP (gP u u4)) 0))))
def fX9_play (u : FS) : Option (Int32 × FS) := fX9_play_b0 u
def fX9_appendText_b28 (k28 : Int32 × Int32 × FS → Option ((String ⊕ Int32) × FS)) (x1 : Int32) (x2 : Int32) (u : FS) : Option ((String ⊕ Int32) × FS) :=
  (if x2 < 0 then some (.inr (pLe (fP u)), u) else bnd (fX6_addByte (((x1.toUInt32 >>> (x2.toUInt32 &&& Int32.toUInt32 31)).toInt32) &&& 255) (fP u)) (fun u43 => k28 (x1, x2 + (-8), gP u u43)))
def fX9_appendText_b0 (x1 : Int32) (u : FS) : Option ((String ⊕ Int32) × FS) :=
  (if ((pLe (fP u)) + 4) ≤ 500 then lop (fun y z => fX9_appendText_b28 y z.1 z.2.1 z.2.2) LF (x1, 24, u) else some (.inl "java/lang/IllegalStateException", u))
def fX9_appendText (p1 : Int32) (u : FS) : Option ((String ⊕ Int32) × FS) := fX9_appendText_b0 p1 u
def fX9_truncateText_b15 (u : FS) : Option ((String ⊕ Int32) × FS) :=
  some (.inl "java/lang/IllegalArgumentException", u)
def fX9_truncateText_b0 (x1 : Int32) (u : FS) : Option ((String ⊕ Int32) × FS) :=
  (if x1 < 0 then fX9_truncateText_b15 u else (if x1 ≤ (pLe (fP u)) then some (.inr x1, gP u (tLe (fP u) x1)) else fX9_truncateText_b15 u))
def fX9_truncateText (p1 : Int32) (u : FS) : Option ((String ⊕ Int32) × FS) := fX9_truncateText_b0 p1 u
def fX9_count_b24 (u : FS) : Option ((String ⊕ Int32) × FS) :=
  some (.inl "java/lang/IllegalArgumentException", u)
def fX9_count_b0 (x1 : Int32) (u : FS) : Option ((String ⊕ Int32) × FS) :=
  (if x1 = 17 then some (.inr (fY u), u) else (if x1 < 0 then fX9_count_b24 u else (if x1 ≤ 17 then grd (inb x1 17) (some (.inr (sC (fN u) (ix x1)), u)) else fX9_count_b24 u)))
def fX9_count (p1 : Int32) (u : FS) : Option ((String ⊕ Int32) × FS) := fX9_count_b0 p1 u
def fX9_setting_b10 (u : FS) : Option ((String ⊕ Int32) × FS) :=
  some (.inl "java/lang/IllegalArgumentException", u)
def fX9_setting_b0 (x1 : Int32) (u : FS) : Option ((String ⊕ Int32) × FS) :=
  (if x1 < 0 then fX9_setting_b10 u else (if x1 < 14 then grd (inb x1 14) (some (.inr (sT (fN u) (ix x1)), u)) else fX9_setting_b10 u))
def fX9_setting (p1 : Int32) (u : FS) : Option ((String ⊕ Int32) × FS) := fX9_setting_b0 p1 u
def fX9_kind_b9 (u : FS) : Option ((String ⊕ Int32) × FS) :=
  some (.inl "java/lang/IndexOutOfBoundsException", u)
def fX9_kind_b28 (u : FS) : Option ((String ⊕ Int32) × FS) :=
  some (.inl "java/lang/IllegalArgumentException", u)
def fX9_kind_b0 (x1 : Int32) (x2 : Int32) (u : FS) : Option ((String ⊕ Int32) × FS) :=
  (if x1 < 0 then fX9_kind_b9 u else (if x1 < 4 then (if x2 < 0 then fX9_kind_b28 u else (if x2 < 3 then bnd (fX8_kindFact x1 x2 (fN u)) (fun r44 => some (.inr r44, u)) else fX9_kind_b28 u)) else fX9_kind_b9 u))
def fX9_kind (p1 : Int32) (p2 : Int32) (u : FS) : Option ((String ⊕ Int32) × FS) := fX9_kind_b0 p1 p2 u
def fX9_car_b17 (u : FS) : Option ((String ⊕ Int32) × FS) :=
  some (.inl "java/lang/IndexOutOfBoundsException", u)
def fX9_car_b37 (u : FS) : Option ((String ⊕ Int32) × FS) :=
  some (.inl "java/lang/IllegalArgumentException", u)
def fX9_car_b0 (x1 : Int32) (x2 : Int32) (u : FS) : Option ((String ⊕ Int32) × FS) :=
  (if x1 < 0 then fX9_car_b17 u else (if x1 < (sC (fN u) 3) then (if x2 < 0 then fX9_car_b37 u else (if x2 < 7 then bnd (fX8_carFact x1 x2 (fN u)) (fun r53 => some (.inr r53, u)) else fX9_car_b37 u)) else fX9_car_b17 u))
def fX9_car (p1 : Int32) (p2 : Int32) (u : FS) : Option ((String ⊕ Int32) × FS) := fX9_car_b0 p1 p2 u
def fX9_standing_b9 (u : FS) : Option ((String ⊕ Int32) × FS) :=
  some (.inl "java/lang/IndexOutOfBoundsException", u)
def fX9_standing_b0 (x1 : Int32) (x2 : Int32) (u : FS) : Option ((String ⊕ Int32) × FS) :=
  (if x1 < 0 then fX9_standing_b9 u else (if x1 < 3 then bnd (fX8_carOnDeck x1 x2 (fN u)) (fun r25 => some (.inr r25, u)) else fX9_standing_b9 u))
def fX9_standing (p1 : Int32) (p2 : Int32) (u : FS) : Option ((String ⊕ Int32) × FS) := fX9_standing_b0 p1 p2 u
def fX9_lane_b9 (u : FS) : Option ((String ⊕ Int32) × FS) :=
  some (.inl "java/lang/IndexOutOfBoundsException", u)
def fX9_lane_b0 (x1 : Int32) (x2 : Int32) (u : FS) : Option ((String ⊕ Int32) × FS) :=
  (if x1 < 0 then fX9_lane_b9 u else (if x1 < 3 then (if x2 = 0 then grd (inb x1 3) (some (.inr (sW (fN u) (ix x1)), u)) else grd (inb x1 3) (some (.inr ((sT (fN u) 6) - (sN (fN u) (ix x1))), u))) else fX9_lane_b9 u))
def fX9_lane (p1 : Int32) (p2 : Int32) (u : FS) : Option ((String ⊕ Int32) × FS) := fX9_lane_b0 p1 p2 u
def fX9_call_b26 (u : FS) : Option ((String ⊕ Int32) × FS) :=
  some (.inl "java/lang/IndexOutOfBoundsException", u)
def fX9_call_b45 (u : FS) : Option ((String ⊕ Int32) × FS) :=
  some (.inl "java/lang/IllegalArgumentException", u)
def fX9_call_b0 (x1 : Int32) (x2 : Int32) (u : FS) : Option ((String ⊕ Int32) × FS) :=
  (if x1 < 0 then fX9_call_b26 u else (if (sC (fN u) 12) ≤ x1 then fX9_call_b26 u else (if x1 < 20 then (if x2 < 0 then fX9_call_b45 u else (if x2 < 4 then bnd (fX9_at ((((((sC (fN u) 12) - 1) - x1) - (((sC (fN u) 12) - 1) - x1) / 20 * 20) * 4) + x2) 80 (sL (fN u))) (fun r74 => some (.inr r74, u)) else fX9_call_b45 u)) else fX9_call_b26 u)))
def fX9_call (p1 : Int32) (p2 : Int32) (u : FS) : Option ((String ⊕ Int32) × FS) := fX9_call_b0 p1 p2 u
def fX9_account_b13 (u : FS) : Option ((String ⊕ Int32) × FS) :=
  some (.inl "java/lang/IllegalArgumentException", u)
def fX9_account_b0 (x1 : Int32) (u : FS) : Option ((String ⊕ Int32) × FS) :=
  (if x1 < 0 then fX9_account_b13 u else (if x1 < 5 then grd (inb x1 5) (some (.inr (fO u (ix x1)), u)) else fX9_account_b13 u))
def fX9_account (p1 : Int32) (u : FS) : Option ((String ⊕ Int32) × FS) := fX9_account_b0 p1 u
def fX9_tide_b0 (x1 : Int32) (u : FS) : Option ((String ⊕ Int32) × FS) :=
  (if 0 ≤ x1 then bnd (fX8_tideAt x1 (fN u)) (fun r19 => some (.inr r19, u)) else some (.inl "java/lang/IllegalArgumentException", u))
def fX9_tide (p1 : Int32) (u : FS) : Option ((String ⊕ Int32) × FS) := fX9_tide_b0 p1 u
def fX9_deck_b0 (x1 : Int32) (u : FS) : Option ((String ⊕ Int32) × FS) :=
  (if 0 ≤ x1 then bnd (fX8_deckAt x1 (fN u)) (fun r19 => some (.inr r19, u)) else some (.inl "java/lang/IllegalArgumentException", u))
def fX9_deck (p1 : Int32) (u : FS) : Option ((String ⊕ Int32) × FS) := fX9_deck_b0 p1 u
def fX9_whyNot_b0 (x1 : Int32) (u : FS) : Option ((String ⊕ Int32) × FS) :=
  bnd (fX8_placeOf x1 (fN u)) (fun r5 => (if r5 = (-1) then some (.inl "java/lang/IndexOutOfBoundsException", u) else bnd (fX8_reasonFor x1 (fN u)) (fun r27 => some (.inr r27, u))))
def fX9_whyNot (p1 : Int32) (u : FS) : Option ((String ⊕ Int32) × FS) := fX9_whyNot_b0 p1 u
def fX9_laneFor_b0 (x1 : Int32) (u : FS) : Option ((String ⊕ Int32) × FS) :=
  bnd (fX8_placeOf x1 (fN u)) (fun r5 => (if r5 = (-1) then some (.inl "java/lang/IndexOutOfBoundsException", u) else bnd (fX8_carKindFact x1 2 (fN u)) (fun r32 => bnd (fX8_carFact x1 1 (fN u)) (fun r41 => bnd (fX8_suitingLane r32 r41 (fN u)) (fun r44 => some (.inr r44, u))))))
def fX9_laneFor (p1 : Int32) (u : FS) : Option ((String ⊕ Int32) × FS) := fX9_laneFor_b0 p1 u
def fX9_boardIn_b12 (u : FS) : Option ((String ⊕ Int32) × FS) :=
  some (.inl "java/lang/IllegalArgumentException", u)
def fX9_boardIn_b0 (x1 : Int32) (u : FS) : Option ((String ⊕ Int32) × FS) :=
  (if x1 < 1 then fX9_boardIn_b12 u else (if x1 ≤ 200 then bnd (fX8_copyFrom (fT u) (fN u)) (fun u30 => bnd2 (fX8_passTicks x1 (fT (gT u u30))) (fun r38 u38 => some (.inr r38, gT (gT u u30) u38))) else fX9_boardIn_b12 u))
def fX9_boardIn (p1 : Int32) (u : FS) : Option ((String ⊕ Int32) × FS) := fX9_boardIn_b0 p1 u
def fX9_easyIn_b9 (u : FS) : Option ((String ⊕ Int32) × FS) :=
  some (.inl "java/lang/IndexOutOfBoundsException", u)
def fX9_easyIn_b79 (k32 : Int32 × Int32 × FS → Option ((String ⊕ Int32) × FS)) (x1 : Int32) (x2 : Int32) (u : FS) : Option ((String ⊕ Int32) × FS) :=
  bnd2 (fX8_passTicks 1 (fT u)) (fun r84 u84 => k32 (x1, x2 + 1, gT u u84))
def fX9_easyIn_b32 (k32 : Int32 × Int32 × FS → Option ((String ⊕ Int32) × FS)) (x1 : Int32) (x2 : Int32) (u : FS) : Option ((String ⊕ Int32) × FS) :=
  (if 200 < x2 then some (.inr (-1), u) else bnd (fX8_kindFact x1 0 (fT u)) (fun r52 => (if r52 < (sp (fT u)) then fX9_easyIn_b79 k32 x1 x2 u else bnd (fX8_kindFact x1 1 (fT u)) (fun r71 => (if r71 < (si (fT u)) then fX9_easyIn_b79 k32 x1 x2 u else some (.inr x2, u))))))
def fX9_easyIn_b0 (x1 : Int32) (u : FS) : Option ((String ⊕ Int32) × FS) :=
  (if x1 < 0 then fX9_easyIn_b9 u else (if x1 < 4 then bnd (fX8_copyFrom (fT u) (fN u)) (fun u27 => lop (fun y z => fX9_easyIn_b32 y z.1 z.2.1 z.2.2) LF (x1, 0, gT u u27)) else fX9_easyIn_b9 u))
def fX9_easyIn (p1 : Int32) (u : FS) : Option ((String ⊕ Int32) × FS) := fX9_easyIn_b0 p1 u
def fX9_bestFirst_b11 (u : FS) : Option ((String ⊕ Int32) × FS) :=
  some (.inl "java/lang/IllegalArgumentException", u)
def fX9_bestFirst_b94 (k28 : Int32 × Int32 × Int32 × Int32 × FS → Option ((String ⊕ Int32) × FS)) (x1 : Int32) (x2 : Int32) (x3 : Int32) (x4 : Int32) (u : FS) : Option ((String ⊕ Int32) × FS) :=
  k28 (x1, x2, x3, x4 + 1, u)
def fX9_bestFirst_b28 (k28 : Int32 × Int32 × Int32 × Int32 × FS → Option ((String ⊕ Int32) × FS)) (x1 : Int32) (x2 : Int32) (x3 : Int32) (x4 : Int32) (u : FS) : Option ((String ⊕ Int32) × FS) :=
  (if (sC (fN u) 1) ≤ x4 then some (.inr x2, u) else bnd (fX8_copyFrom (fT u) (fN u)) (fun u50 => bnd (fX8_bringToFront x4 (fT (gT u u50))) (fun u59 => bnd2 (fX8_passTicks x1 (fT (gT (gT u u50) u59))) (fun r67 u67 => (if r67 ≤ x3 then fX9_bestFirst_b94 k28 x1 x2 x3 x4 (gT (gT (gT u u50) u59) u67) else bnd (fX9_at x4 20 (sQ (fN (gT (gT (gT u u50) u59) u67)))) (fun r87 => fX9_bestFirst_b94 k28 x1 r87 r67 x4 (gT (gT (gT u u50) u59) u67)))))))
def fX9_bestFirst_b0 (x1 : Int32) (u : FS) : Option ((String ⊕ Int32) × FS) :=
  (if x1 < 1 then fX9_bestFirst_b11 u else (if x1 ≤ 99 then lop (fun y z => fX9_bestFirst_b28 y z.1 z.2.1 z.2.2.1 z.2.2.2.1 z.2.2.2.2) LF (x1, (-1), (-1), 0, u) else fX9_bestFirst_b11 u))
def fX9_bestFirst (p1 : Int32) (u : FS) : Option ((String ⊕ Int32) × FS) := fX9_bestFirst_b0 p1 u
def fX9_tick_b11 (u : FS) : Option ((String ⊕ Int32) × FS) :=
  some (.inl "java/lang/IllegalArgumentException", u)
def fX9_tick_b0 (x1 : Int32) (u : FS) : Option ((String ⊕ Int32) × FS) :=
  (if x1 < 1 then fX9_tick_b11 u else (if x1 ≤ 50 then bnd2 (fX9_doTick x1 u) (fun r23 u23 => some (.inr r23, u23)) else fX9_tick_b11 u))
def fX9_tick (p1 : Int32) (u : FS) : Option ((String ⊕ Int32) × FS) := fX9_tick_b0 p1 u
def fX9_arrive_b9 (u : FS) : Option ((String ⊕ Int32) × FS) :=
  some (.inl "java/lang/IndexOutOfBoundsException", u)
def fX9_arrive_b31 (u : FS) : Option ((String ⊕ Int32) × FS) :=
  some (.inl "java/lang/IllegalArgumentException", u)
def fX9_arrive_b0 (x1 : Int32) (x2 : Int32) (u : FS) : Option ((String ⊕ Int32) × FS) :=
  (if x1 < 0 then fX9_arrive_b9 u else (if x1 < 4 then (if x2 < 1 then fX9_arrive_b31 u else (if x2 ≤ 999 then bnd2 (fX9_doArrive x1 x2 u) (fun r44 u44 => some (.inr r44, u44)) else fX9_arrive_b31 u)) else fX9_arrive_b9 u))
def fX9_arrive (p1 : Int32) (p2 : Int32) (u : FS) : Option ((String ⊕ Int32) × FS) := fX9_arrive_b0 p1 p2 u
def fX9_wave_b10 (u : FS) : Option ((String ⊕ Int32) × FS) :=
  some (.inl "java/lang/IndexOutOfBoundsException", u)
def fX9_wave_b0 (x1 : Int32) (u : FS) : Option ((String ⊕ Int32) × FS) :=
  (if x1 < 0 then fX9_wave_b10 u else (if x1 < 60 then bnd2 (fX9_doWave x1 u) (fun r22 u22 => some (.inr r22, u22)) else fX9_wave_b10 u))
def fX9_wave (p1 : Int32) (u : FS) : Option ((String ⊕ Int32) × FS) := fX9_wave_b0 p1 u
def fX9_dismiss_b10 (u : FS) : Option ((String ⊕ Int32) × FS) :=
  some (.inl "java/lang/IndexOutOfBoundsException", u)
def fX9_dismiss_b0 (x1 : Int32) (u : FS) : Option ((String ⊕ Int32) × FS) :=
  (if x1 < 0 then fX9_dismiss_b10 u else (if x1 < 60 then bnd2 (fX9_doDismiss x1 u) (fun r22 u22 => some (.inr r22, u22)) else fX9_dismiss_b10 u))
def fX9_dismiss (p1 : Int32) (u : FS) : Option ((String ⊕ Int32) × FS) := fX9_dismiss_b0 p1 u
def fX9_unload_b9 (u : FS) : Option ((String ⊕ Int32) × FS) :=
  some (.inl "java/lang/IndexOutOfBoundsException", u)
def fX9_unload_b0 (x1 : Int32) (u : FS) : Option ((String ⊕ Int32) × FS) :=
  (if x1 < 0 then fX9_unload_b9 u else (if x1 < 3 then bnd2 (fX9_doUnload x1 u) (fun r21 u21 => some (.inr r21, u21)) else fX9_unload_b9 u))
def fX9_unload (p1 : Int32) (u : FS) : Option ((String ⊕ Int32) × FS) := fX9_unload_b0 p1 u
def fX9_crank_b12 (u : FS) : Option ((String ⊕ Int32) × FS) :=
  some (.inl "java/lang/IllegalArgumentException", u)
def fX9_crank_b0 (x1 : Int32) (u : FS) : Option ((String ⊕ Int32) × FS) :=
  (if x1 < (-20) then fX9_crank_b12 u else (if x1 ≤ 20 then bnd2 (fX9_doCrank x1 u) (fun r24 u24 => some (.inr r24, u24)) else fX9_crank_b12 u))
def fX9_crank (p1 : Int32) (u : FS) : Option ((String ⊕ Int32) × FS) := fX9_crank_b0 p1 u
def fX9_setWinch_b11 (u : FS) : Option ((String ⊕ Int32) × FS) :=
  some (.inl "java/lang/IllegalArgumentException", u)
def fX9_setWinch_b31 (u : FS) : Option ((String ⊕ Int32) × FS) :=
  some (.inl "java/lang/IllegalArgumentException", u)
def fX9_setWinch_b51 (u : FS) : Option ((String ⊕ Int32) × FS) :=
  some (.inl "java/lang/IllegalArgumentException", u)
def fX9_setWinch_b0 (x1 : Int32) (x2 : Int32) (x3 : Int32) (u : FS) : Option ((String ⊕ Int32) × FS) :=
  (if x1 < 1 then fX9_setWinch_b11 u else (if x1 ≤ 20 then (if x2 < 0 then fX9_setWinch_b31 u else (if x2 ≤ 50 then (if x3 < 0 then fX9_setWinch_b51 u else (if x3 ≤ 20 then bnd2 (fX9_doSetWinch x1 x2 x3 u) (fun r65 u65 => some (.inr r65, u65)) else fX9_setWinch_b51 u)) else fX9_setWinch_b31 u)) else fX9_setWinch_b11 u))
def fX9_setWinch (p1 : Int32) (p2 : Int32) (p3 : Int32) (u : FS) : Option ((String ⊕ Int32) × FS) := fX9_setWinch_b0 p1 p2 p3 u
def fX9_setCross_b11 (u : FS) : Option ((String ⊕ Int32) × FS) :=
  some (.inl "java/lang/IllegalArgumentException", u)
def fX9_setCross_b32 (u : FS) : Option ((String ⊕ Int32) × FS) :=
  some (.inl "java/lang/IllegalArgumentException", u)
def fX9_setCross_b0 (x1 : Int32) (x2 : Int32) (u : FS) : Option ((String ⊕ Int32) × FS) :=
  (if x1 < 1 then fX9_setCross_b11 u else (if x1 ≤ 20 then (if x2 < 1 then fX9_setCross_b32 u else (if x2 ≤ 50 then bnd2 (fX9_doSetCross x1 x2 u) (fun r45 u45 => some (.inr r45, u45)) else fX9_setCross_b32 u)) else fX9_setCross_b11 u))
def fX9_setCross (p1 : Int32) (p2 : Int32) (u : FS) : Option ((String ⊕ Int32) × FS) := fX9_setCross_b0 p1 p2 u
def fX9_save_b0 (x1 : Int32) (u : FS) : Option ((String ⊕ Int32) × FS) :=
  (if x1 < 0 then some (.inl "java/lang/IllegalArgumentException", u) else (if x1 < 2 then grd (inb x1 2) ((if x1 = 0 then bnd (fX8_copyFrom (fA u) (fN u)) (fun u35 => grd (inb x1 2) (some (.inr 0, gI (gA u u35) (ix x1) 1))) else (if x1 = 1 then bnd (fX8_copyFrom (fB u) (fN u)) (fun u35 => grd (inb x1 2) (some (.inr 0, gI (gB u u35) (ix x1) 1))) else none))) else some (.inl "java/lang/IllegalArgumentException", u)))
def fX9_save (p1 : Int32) (u : FS) : Option ((String ⊕ Int32) × FS) := fX9_save_b0 p1 u
def fX9_restore_b0 (x1 : Int32) (u : FS) : Option ((String ⊕ Int32) × FS) :=
  (if x1 < 0 then some (.inl "java/lang/IllegalArgumentException", u) else (if x1 < 2 then grd (inb x1 2) ((if x1 = 0 then grd (inb x1 2) ((if (fI u (ix x1)) = 0 then some (.inl "java/lang/IllegalStateException", u) else bnd (fX8_copyFrom (fN u) (fA u)) (fun u54 => bnd (fX4_forget (fH (gN u u54))) (fun u61 => some (.inr 0, gH (gN u u54) u61))))) else (if x1 = 1 then grd (inb x1 2) ((if (fI u (ix x1)) = 0 then some (.inl "java/lang/IllegalStateException", u) else bnd (fX8_copyFrom (fN u) (fB u)) (fun u54 => bnd (fX4_forget (fH (gN u u54))) (fun u61 => some (.inr 0, gH (gN u u54) u61))))) else none))) else some (.inl "java/lang/IllegalArgumentException", u)))
def fX9_restore (p1 : Int32) (u : FS) : Option ((String ⊕ Int32) × FS) := fX9_restore_b0 p1 u
