/-! what the class's methods say, over the numbers that a workshop holds -/
def bI (b : Bool) : Int32 := if b then 1 else 0
theorem bI0 {b : Bool} : bI b = 0 ↔ b = false := by cases b <;> decide
theorem bI1 {b : Bool} : ¬ bI b = 0 ↔ b = true := by cases b <;> decide
theorem bI01 (b : Bool) : bI b = 0 ∨ bI b = 1 := by cases b <;> decide
theorem gsw_split {X : Prop} (lo hi : Int) (x : Int32) (h1 : (x.toInt < lo ∨ hi < x.toInt) → X) (h2 : ∀ j : Int, lo ≤ j → j ≤ hi → x.toInt = j → X) : X := by
  by_cases a : x.toInt < lo ∨ hi < x.toInt
  · exact h1 a
  · exact h2 x.toInt (by omega) (by omega) rfl
theorem nI_inc (i : Nat) : nI i + Int32.ofInt 1 = nI (i + 1) := nI_1 i
def rAt (n : Nat) (g : Nat → Int32) (i : Int32) : Int32 := if i < 0 ∨ n ≤ i.toNatClampNeg then 0 else g i.toNatClampNeg
def rPut (n : Nat) (g : Nat → Int32) (i x : Int32) : Nat → Int32 := if i < 0 ∨ n ≤ i.toNatClampNeg then g else upd g i.toNatClampNeg x
theorem nI_le_out {i : Int32} {n : Nat} (hn : n < 2 ^ 31) (h0 : ¬ i < 0) : nI n ≤ i ↔ n ≤ i.toNatClampNeg := by
  obtain ⟨j, hj, rfl⟩ := nI_of h0
  rw [nI_leI hn hj, nI_clamp hj]
theorem in_of {i : Int32} {n : Nat} (hn : n < 2 ^ 31) (h0 : ¬ i < 0) (h1 : ¬ nI n ≤ i) : vp_in i n := fun q => by
  rcases q with q | q
  · exact h0 q
  · exact h1 ((nI_le_out hn h0).mpr q)
theorem rAt_in {n : Nat} {g : Nat → Int32} {i : Int32} (h : vp_in i n) : rAt n g i = g i.toNatClampNeg := if_neg h
theorem rAt_o1 {n : Nat} {g : Nat → Int32} {i : Int32} (h : i < 0) : rAt n g i = 0 := if_pos (Or.inl h)
theorem rAt_o2 {n : Nat} {g : Nat → Int32} {i : Int32} (hn : n < 2 ^ 31) (h0 : ¬ i < 0) (h : nI n ≤ i) : rAt n g i = 0 := if_pos (Or.inr ((nI_le_out hn h0).mp h))
theorem rPut_in {n : Nat} {g : Nat → Int32} {i x : Int32} (h : vp_in i n) : rPut n g i x = upd g i.toNatClampNeg x := if_neg h
theorem rPut_o1 {n : Nat} {g : Nat → Int32} {i x : Int32} (h : i < 0) : rPut n g i x = g := if_pos (Or.inl h)
theorem rPut_o2 {n : Nat} {g : Nat → Int32} {i x : Int32} (hn : n < 2 ^ 31) (h0 : ¬ i < 0) (h : nI n ≤ i) : rPut n g i x = g := if_pos (Or.inr ((nI_le_out hn h0).mp h))
def mk (P : Nat → Bool) : Nat → Int32
  | 0 => 0
  | n + 1 => if P n = true then mk P n ||| ((1 : Int32) <<< (nI n &&& 31)) else mk P n
theorem mk_t {P : Nat → Bool} {n : Nat} (h : P n = true) : mk P (n + 1) = mk P n ||| ((1 : Int32) <<< (nI n &&& 31)) := if_pos h
theorem mk_f {P : Nat → Bool} {n : Nat} (h : P n = false) : mk P (n + 1) = mk P n := if_neg (by rw [h]; decide)
def cnI (P : Nat → Bool) : Nat → Int32
  | 0 => 0
  | n + 1 => if P n = true then cnI P n + 1 else cnI P n
theorem cnI_t {P : Nat → Bool} {n : Nat} (h : P n = true) : cnI P (n + 1) = cnI P n + 1 := if_pos h
theorem cnI_f {P : Nat → Bool} {n : Nat} (h : P n = false) : cnI P (n + 1) = cnI P n := if_neg (by rw [h]; decide)
def suI (g : Nat → Int32) : Nat → Int32
  | 0 => 0
  | n + 1 => suI g n + g n
/-- the first of n numbers from i on with P; -6 without one -/
def fnd (P : Nat → Bool) : Nat → Nat → Int32
  | _, 0 => -6
  | i, n + 1 => if P i = true then nI i else fnd P (i + 1) n
theorem fnd_t {P : Nat → Bool} {i n : Nat} (h : P i = true) : fnd P i (n + 1) = nI i := if_pos h
theorem fnd_f {P : Nat → Bool} {i n : Nat} (h : P i = false) : fnd P i (n + 1) = fnd P (i + 1) n := if_neg (by rw [h]; decide)
/-- the first of n numbers from i on without P, else i + n -/
def fnN (P : Nat → Bool) : Nat → Nat → Nat
  | i, 0 => i
  | i, n + 1 => if P i = true then fnN P (i + 1) n else i
def bitC (x0 : Int32) : Int32 :=
  let u := fun (x y : Int32) => (x.toUInt32 >>> (y.toUInt32 &&& Int32.toUInt32 31)).toInt32
  let x1 := x0 - (u x0 1 &&& 1431655765)
  let x2 := (x1 &&& 858993459) + (u x1 2 &&& 858993459)
  let x3 := (x2 + u x2 4) &&& 252645135
  let x4 := x3 + u x3 8
  let x5 := x4 + u x4 16
  x5 &&& 63
def wN (w : WS) : Nat := (w.2 2).toNatClampNeg
def wOK (w : WS) : Prop := w.2 2 = nI (wN w) ∧ wN w ≤ 20
def cCell (w : WS) (wh ah : Int32) : Int32 := 5 * ((w.2 0 + ah) - (w.2 0 + ah) / 21 * 21) + wh
def cBooker (w : WS) (wh ah : Int32) : Int32 := if rAt 105 (w.1 1) (cCell w wh ah) = 0 then -6 else rAt 105 (w.1 1) (cCell w wh ah) - 1
def cEnter (w : WS) (wh ah q : Int32) : WS := wRow w 1 (rPut 105 (w.1 1) (cCell w wh ah) (q + 1))
def cCross (w : WS) (wh ah : Int32) : WS := wRow w 1 (rPut 105 (w.1 1) (cCell w wh ah) 0)
def cWheelP (w : WS) (q ah : Int32) : Nat → Bool := fun j => decide (cBooker w (nI j) ah = q)
def cWheel (w : WS) (q ah : Int32) : Int32 := fnd (cWheelP w q ah) 0 5
def cLowest (w : WS) (ah : Int32) : Int32 := fnd (cWheelP w (-6) ah) 0 5
def cBookingsP (w : WS) (q : Int32) : Nat → Bool := fun j => decide (¬ cWheel w q (nI j) = -6)
def cBookings (w : WS) (q : Int32) : Int32 := cnI (cBookingsP w q) 21
def cThrown (w : WS) (q : Int32) : Bool := decide (¬ ((w.2 1 >>> (q &&& 31)) &&& 1) = 0)
def cNote (w : WS) (q : Int32) : WS := wSc w 1 (w.2 1 ||| ((1 : Int32) <<< (q &&& 31)))
def cCrossN (w : WS) : Nat → WS
  | 0 => w
  | n + 1 => cCross (cCrossN w n) (nI n) 0
def cPassOne (w : WS) : WS := wSc (wSc (cCrossN w 5) 1 0) 0 ((cCrossN w 5).2 0 + 1)
def isW (v lo hi : Int32) : Bool := decide (¬ v < lo) && decide (¬ hi < v)
def cHas (w : WS) (q : Int32) : Bool := decide (¬ q < 0) && decide (¬ w.2 2 ≤ q)
def cKind (w : WS) (q kd : Int32) : Bool := decide (rAt 20 (w.1 5) q = kd)
def cRack (w : WS) (q : Int32) : Bool := decide (¬ 24 ≤ rAt 20 (w.1 6) q)
def cBeside (w : WS) (q : Int32) : Bool := decide (¬ 8 ≤ rAt 20 (w.1 6) q)
def cKiln (w : WS) (q : Int32) : Bool := decide (rAt 20 (w.1 6) q = 24)
def cTk (w : WS) : Nat → Int32
  | 0 => 0
  | n + 1 => if 24 ≤ rAt 20 (w.1 6) (nI n) then cTk w n else cTk w n ||| ((1 : Int32) <<< (rAt 20 (w.1 6) (nI n) &&& 31))
def cTaken (w : WS) : Int32 := cTk w (wN w)
def cFree (w : WS) : Int32 := 24 - bitC (cTaken w)
def cPlaceP (t : Int32) : Nat → Bool := fun j => decide (¬ ((t >>> (nI j &&& 31)) &&& 1) = 0)
def cPlace (t : Int32) : Int32 := nI (fnN (cPlaceP t) 0 23)
def cPutRack (w : WS) (q : Int32) : WS := wRow w 6 (rPut 20 (w.1 6) q (cPlace (cTaken w)))
def cOnRacks (w : WS) : Int32 := mk (fun j => cRack w (nI j)) (wN w)
def cIdx (g : Nat → Int32) (v : Int32) (n b : Nat) : Int32 := mk (fun j => decide (g j = v)) (min b n)
def cInKiln (w : WS) : Int32 := cIdx (w.1 6) 24 20 (wN w)
def cThrownBy (w : WS) (q : Int32) : Int32 := cIdx (w.1 2) q 20 (wN w)
def cOfKind (w : WS) (kd : Int32) : Int32 := cIdx (w.1 5) kd 20 (wN w)
def cSz (w : WS) : Nat → Int32
  | 0 => 0
  | n + 1 => if cKiln w (nI n) = true then cSz w n + rAt 20 (w.1 3) (nI n) else cSz w n
def cSizes (w : WS) : Int32 := cSz w (wN w)
def cOther (w : WS) (kd : Int32) : Bool := decide (¬ (cInKiln w &&& (cOfKind w kd ^^^ (-1))) = 0)
def cDry1 (w : WS) (q : Int32) : WS := if cRack w q = true ∧ cKind w q 0 = true then wRow w 7 (rPut 20 (w.1 7) q (rAt 20 (w.1 7) q + (if cBeside w q = true then 2 else 1))) else w
def cDryN (w : WS) : Nat → WS
  | 0 => w
  | n + 1 => cDry1 (cDryN w n) (nI n)
def cDry (w : WS) : WS := cDryN w (wN w)
def cHeatOf (w : WS) (q : Int32) : Int32 := 100 + 5 * rAt 20 (w.1 8) q
def cFired (w : WS) (q heat limit : Int32) : Int32 :=
  if ¬ heat + rAt 20 (w.1 4) q ≤ limit then 4
  else if cKind w q 0 = true then (if heat < 95 then 0 else 1)
  else if ¬ 0 ≤ heat - cHeatOf w q then 2
  else if 10 < heat - cHeatOf w q then 1 else 3
theorem bF {b : Bool} (h : b = false) : ¬ b = true := by rw [h]; decide
theorem gsw_eq {x : Int32} {j : Int} {v : Int32} (h : x.toInt = j) (hv : v.toInt = j) : x = v := Int32.toInt_inj.mp (h.trans hv.symm)
theorem gsw_n2 {x v u : Int32} (h : x = v) (hn : ¬ v = u) : ¬ x = u := fun z => hn (h.symm.trans z)
theorem gsw_ne {x : Int32} {lo hi : Int} {v : Int32} (h : x.toInt < lo ∨ hi < x.toInt) (hv : lo ≤ v.toInt ∧ v.toInt ≤ hi) : ¬ x = v := fun z => by
  rw [z] at h
  omega
abbrev iU (x y : Int32) : Int32 := (x.toUInt32 >>> (y.toUInt32 &&& Int32.toUInt32 31)).toInt32
abbrev lS (x : Int64) (y : Int32) : Int64 := x <<< (y.toInt64 &&& 63)
theorem isW_of {n : Int32} {lo hi : Nat} (hlo : lo < 2 ^ 31) (hhi : hi < 2 ^ 31) (h : isW n (nI lo) (nI hi) = true) : ∃ m : Nat, lo ≤ m ∧ m ≤ hi ∧ n = nI m := by
  simp only [isW, Bool.and_eq_true, decide_eq_true_eq] at h
  obtain ⟨h1, h2⟩ := h
  have h0 : ¬ n < 0 := fun z => h1 (by
    have a := Int32.lt_iff_toInt_lt.mp z
    apply Int32.lt_iff_toInt_lt.mpr
    rw [nI_toInt hlo]
    have : (0 : Int32).toInt = 0 := rfl
    omega)
  obtain ⟨j, hj, rfl⟩ := nI_of h0
  refine ⟨j, ?_, ?_, rfl⟩
  · exact Nat.le_of_not_lt (fun z => h1 ((nI_ltI hj hlo).mpr z))
  · exact Nat.le_of_not_lt (fun z => h2 ((nI_ltI hhi hj).mpr z))
