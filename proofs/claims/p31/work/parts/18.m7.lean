def zFi (y : MS) (q what : Int32) (a : Nat) (f0 : Int32) : Nat → Int32
  | 0 => f0
  | j + 1 => if 0 ≤ y.1 0 (215 + 21 * (4 - j) + a) then zFi y q what a f0 j else if 0 ≤ zWh (y.1 0) q a 5 then zFi y q what a f0 j else if what = 0 then y.1 0 0 + nI a else nI (4 - j)
def zFo (y : MS) (q what : Int32) : Nat → Int32
  | 0 => -6
  | i + 1 => zFi y q what (20 - i) (zFo y q what i) 5
def zFirst (y : MS) (q what : Int32) : Int32 := if vX7_isPupil y q = true then (if isW what 0 1 = true then zFo y q what 21 else -2) else -1
