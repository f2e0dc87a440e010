def vX7_doTakeHome (y : MS) (q : Int32) (i : Nat) : Int32 := ((y.1 0 (5)) * (y.1 0 (35 + 9 * i + 1)))
def wX7_doTakeHome (y : MS) (q : Int32) (i : Nat) : MS := (mRow (mRow (mRow (mRow y 0 (upd (y.1 0) (35 + 9 * i + 4) 2)) 0 (upd ((mRow y 0 (upd (y.1 0) (35 + 9 * i + 4) 2)).1 0) (35 + 9 * i + 5) (-6))) 0 (upd ((mRow (mRow y 0 (upd (y.1 0) (35 + 9 * i + 4) 2)) 0 (upd ((mRow y 0 (upd (y.1 0) (35 + 9 * i + 4) 2)).1 0) (35 + 9 * i + 5) (-6))).1 0) (10) (((mRow (mRow y 0 (upd (y.1 0) (35 + 9 * i + 4) 2)) 0 (upd ((mRow y 0 (upd (y.1 0) (35 + 9 * i + 4) 2)).1 0) (35 + 9 * i + 5) (-6))).1 0 (10)) + ((y.1 0 (5)) * (y.1 0 (35 + 9 * i + 1)))))) 0 (upd ((mRow (mRow (mRow y 0 (upd (y.1 0) (35 + 9 * i + 4) 2)) 0 (upd ((mRow y 0 (upd (y.1 0) (35 + 9 * i + 4) 2)).1 0) (35 + 9 * i + 5) (-6))) 0 (upd ((mRow (mRow y 0 (upd (y.1 0) (35 + 9 * i + 4) 2)) 0 (upd ((mRow y 0 (upd (y.1 0) (35 + 9 * i + 4) 2)).1 0) (35 + 9 * i + 5) (-6))).1 0) (10) (((mRow (mRow y 0 (upd (y.1 0) (35 + 9 * i + 4) 2)) 0 (upd ((mRow y 0 (upd (y.1 0) (35 + 9 * i + 4) 2)).1 0) (35 + 9 * i + 5) (-6))).1 0 (10)) + ((y.1 0 (5)) * (y.1 0 (35 + 9 * i + 1)))))).1 0) (15 + (cl (y.1 0 (35 + 9 * i)))) (((mRow (mRow (mRow y 0 (upd (y.1 0) (35 + 9 * i + 4) 2)) 0 (upd ((mRow y 0 (upd (y.1 0) (35 + 9 * i + 4) 2)).1 0) (35 + 9 * i + 5) (-6))) 0 (upd ((mRow (mRow y 0 (upd (y.1 0) (35 + 9 * i + 4) 2)) 0 (upd ((mRow y 0 (upd (y.1 0) (35 + 9 * i + 4) 2)).1 0) (35 + 9 * i + 5) (-6))).1 0) (10) (((mRow (mRow y 0 (upd (y.1 0) (35 + 9 * i + 4) 2)) 0 (upd ((mRow y 0 (upd (y.1 0) (35 + 9 * i + 4) 2)).1 0) (35 + 9 * i + 5) (-6))).1 0 (10)) + ((y.1 0 (5)) * (y.1 0 (35 + 9 * i + 1)))))).1 0 (15 + (cl (y.1 0 (35 + 9 * i))))) + ((y.1 0 (5)) * (y.1 0 (35 + 9 * i + 1))))))
def vX7_noPass (y : MS) (n : Int32) : Int32 := (if (isW n 1 20) = true then (if ((y.1 0 (0)) + n) ≤ 999 then 0 else (-5)) else (-2))
def zD1 (y : MS) (i : Nat) : MS := if y.1 0 (35 + 9 * i + 3) = 0 then (if y.1 0 (35 + 9 * i + 4) = 0 then mRow y 0 (upd (y.1 0) (35 + 9 * i + 6) (y.1 0 (35 + 9 * i + 6) + (if 8 ≤ y.1 0 (35 + 9 * i + 5) then 1 else 2))) else y) else y
def zDN (y : MS) : Nat → MS
  | 0 => y
  | i + 1 => zD1 (zDN y i) i
def nb (g : Nat → Int32) (n : Nat) : Nat → Int32 := fun j => if 215 ≤ j ∧ j < 215 + n then (if (j - 215) % 21 = 20 then -6 else g (j + 1)) else g j
def zN1 (y : MS) : MS := zDN y (mN y)
def zN2 (y : MS) (n : Nat) : MS := mRow (zN1 y) 0 (nb ((zN1 y).1 0) n)
def zN3 (y : MS) (n : Nat) : MS := mRow (zN2 y 105) 0 (va_cpy (fun _ => 0) ((zN2 y 105).1 0) 0 25 n)
def zNight (y : MS) : MS := mRow (zN3 y 10) 0 (upd ((zN3 y 10).1 0) 0 ((zN3 y 10).1 0 0 + 1))
def zPassN (y : MS) : Nat → MS
  | 0 => y
  | i + 1 => zNight (zPassN y i)
