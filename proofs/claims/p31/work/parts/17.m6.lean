def vX7_of (y : MS) (q : Int32) (what : Int32) : Int32 := (if (vX7_isPot y q) = true then (if what = 0 then (y.1 0 (35 + 9 * (cl q) + 0)) else (if what = 1 then (y.1 0 (35 + 9 * (cl q) + 1)) else (if what = 2 then (y.1 0 (35 + 9 * (cl q) + 3)) else (if what = 3 then (y.1 0 (35 + 9 * (cl q) + 4)) else (if what = 4 then (if (y.1 0 (35 + 9 * (cl q) + 4)) = 0 then (y.1 0 (35 + 9 * (cl q) + 5)) else (-6)) else (if what = 5 then (y.1 0 (35 + 9 * (cl q) + 6)) else (if what = 6 then (if (y.1 0 (35 + 9 * (cl q) + 8)) ≤ 0 then (-6) else (y.1 0 (35 + 9 * (cl q) + 2))) else (if what = 7 then (y.1 0 (35 + 9 * (cl q) + 7)) else (if what = 8 then (y.1 0 (35 + 9 * (cl q) + 8)) else (-2)))))))))) else (-1))
def zOfP (y : MS) (q kd : Int32) : Nat → Bool := fun i => decide (y.1 0 (35 + 9 * i) = q) && (decide (kd < 0) || decide (y.1 0 (35 + 9 * i + 3) = kd))
def zPotsOf (y : MS) (q kd : Int32) : Int32 := mk (zOfP y q kd) (mN y)
def zBkP (g : Nat → Int32) (q : Int32) : Nat → Bool := fun i => decide (g (215 + i) = q)
def vX7_ofPupil (y : MS) (q : Int32) (what : Int32) : Int32 := (if (vX7_isPupil y q) = true then (if what = 0 then (zWh (y.1 0) q 0 5) else (if what = 1 then (zPotsOf y q (-6)) else (if what = 2 then (zPotsOf y q 3) else (if what = 3 then (zPotsOf y q 4) else (if what = 4 then (y.1 0 (15 + (cl q))) else (if what = 5 then (cnI (zBkP (y.1 0) q) 105) else (-2))))))) else (-1))
def vX7_booked (y : MS) (wh : Int32) (ah : Int32) : Int32 := (if (vX7_isWheel wh) = true then (if (vX7_isAhead ah) = true then (y.1 0 (215 + 21 * (cl wh) + (cl ah))) else (-2)) else (-1))
def zLdP (y : MS) : Nat → Bool := fun i => decide (vX7_whyNot y (nI i) i = 0)
def zLoadable (y : MS) : Int32 := mk (zLdP y) (mN y)
def vX7_count (y : MS) (what : Int32) : Int32 := (if (isW what 11 14) = true then (y.1 0 (11 + (cl what - 11))) else (if (isW what 15 18) = true then (y.1 0 (2 + (cl what - 15))) else (if what = 0 then (y.1 0 (0)) else (if what = 1 then (y.1 0 (6)) else (if what = 2 then (y.1 0 (7)) else (if what = 3 then (zPotsAt y 0) else (if what = 4 then (zPotsAt y 1) else (if what = 5 then (zSz (y.1 0) (mN y)) else (if what = 6 then (vX7_freePlaces y ) else (if what = 7 then (zLoadable y) else (if what = 8 then (y.1 0 (8)) else (if what = 9 then (y.1 0 (9)) else (if what = 10 then (y.1 0 (10)) else (if what = 11 then (-2) else (if what = 12 then (-2) else (if what = 13 then (-2) else (if what = 14 then (-2) else (if what = 15 then (-2) else (if what = 16 then (-2) else (if what = 17 then (-2) else (if what = 18 then (-2) else (if what = 19 then (y.2 1) else (if what = 20 then (y.2 0) else (-2))))))))))))))))))))))))
def vX7_why (y : MS) (q : Int32) : Int32 := (if (vX7_isPot y q) = true then (vX7_whyNot y q (cl q)) else (-1))
def vX7_dryIn (y : MS) (q : Int32) : Int32 := (if (vX7_isPot y q) = true then (if (y.1 0 (35 + 9 * (cl q) + 3)) = 0 then (if (y.1 0 (35 + 9 * (cl q) + 4)) = 0 then (if 0 < (vX7_toDry y q (cl q)) then (if 8 ≤ (y.1 0 (35 + 9 * (cl q) + 5)) then (vX7_toDry y q (cl q)) else (((vX7_toDry y q (cl q)) + 1) / 2)) else 0) else (-5)) else 0) else (-1))
def vX7_ifFired (y : MS) (heat : Int32) (what : Int32) : Int32 := (if (isW heat 80 140) = true then (if (isW what 0 3) = true then (if what = 0 then (zFiredTo y heat 4) else (if what = 1 then (zFiredTo y heat 1) else (if what = 2 then (zFiredTo y heat 3) else ((((zPotsAt y 1) &&& ((zFiredTo y heat 4) ^^^ (-1))) &&& ((zFiredTo y heat 1) ^^^ (-1))) &&& ((zFiredTo y heat 3) ^^^ (-1)))))) else (-2)) else (-2))
def zCoP (y : MS) (heat : Int32) : Nat → Bool := fun i => decide (y.1 0 (35 + 9 * i + 4) = 1) && decide (vX7_fired y (nI i) heat i = y.1 0 (35 + 9 * i + 3) + 1)
def zComeOn (y : MS) (heat : Int32) : Int32 := cnI (zCoP y heat) (mN y)
def zBh (y : MS) : Nat → Int32 × Int32 × Int32
  | 0 => (-6, 0, 0)
  | i + 1 =>
    if (zBh y i).1 < 0 then (nI (80 + i), zComeOn y (nI (80 + i)), oneN (zFiredTo y (nI (80 + i)) 4) 20)
    else if (zBh y i).2.1 < zComeOn y (nI (80 + i)) then (nI (80 + i), zComeOn y (nI (80 + i)), oneN (zFiredTo y (nI (80 + i)) 4) 20)
    else if zComeOn y (nI (80 + i)) = (zBh y i).2.1 then (if (zBh y i).2.2 ≤ oneN (zFiredTo y (nI (80 + i)) 4) 20 then zBh y i else (nI (80 + i), zComeOn y (nI (80 + i)), oneN (zFiredTo y (nI (80 + i)) 4) 20))
    else zBh y i
def zBestHeat (y : MS) : Int32 := if zPotsAt y 1 = 0 then -6 else (zBh y 61).1
