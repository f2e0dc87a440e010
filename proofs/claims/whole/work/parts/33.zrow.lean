/-! what an order asks and does, over the row z alone -/
def mz (z : Nat → Int32) : MS := (fun _ => z, fun _ => 0)
def zNo (z : Nat → Int32) (kd a b c : Int32) : Int32 := vX7_noOrder (mz z) kd a b c
def zDo (z : Nat → Int32) (kd a b c : Int32) : Nat → Int32 := (wX7_doOrder (mz z) kd a b c).1 0
theorem mRow2 (y : MS) (r : Nat) (g h : Nat → Int32) : mRow (mRow y r g) r h = mRow y r h := by
  show (va_up (va_up y.1 r g) r h, y.2) = _
  rw [va_up_2]
theorem mRow_at (y : MS) (r : Nat) (g : Nat → Int32) : (mRow y r g).1 r = g := va_up_at _ _ _
theorem mRow_i (y : MS) (r : Nat) : mRow y r (y.1 r) = y := mS_id y r
theorem zPlace_r (y : MS) (g : Nat → Int32) : zPlace (mRow y 0 g) = zPlace (mz g) := rfl
theorem no_Z (y : MS) (kd a b c : Int32) : vX7_noOrder y kd a b c = zNo (y.1 0) kd a b c := rfl
theorem zF1_Z (y : MS) (heat : Int32) (i : Nat) : zF1 y heat i = mRow y 0 ((zF1 (mz (y.1 0)) heat i).1 0) := by
  unfold zF1
  show (if y.1 0 (35 + 9 * i + 4) = 1 then _ else _) = mRow y 0 ((if y.1 0 (35 + 9 * i + 4) = 1 then _ else _ : MS).1 0)
  by_cases h : y.1 0 (35 + 9 * i + 4) = 1
  · rw [if_pos h, if_pos h]
    show (if vX7_fired y (nI i) heat i = 4 then _ else _) = mRow y 0 ((if vX7_fired y (nI i) heat i = 4 then _ else _ : MS).1 0)
    by_cases h2 : vX7_fired y (nI i) heat i = 4
    · rw [if_pos h2, if_pos h2]
      simp only [zFb, zFa, mRow2, mRow_at]
      rfl
    · rw [if_neg h2, if_neg h2]
      simp only [zRack, zFb, zFa, mRow2, mRow_at]
      rfl
  · rw [if_neg h, if_neg h]; exact (mRow_i y 0).symm
theorem zFN_Z (y : MS) (heat : Int32) : ∀ i, zFN y heat i = mRow y 0 ((zFN (mz (y.1 0)) heat i).1 0)
  | 0 => (mRow_i y 0).symm
  | i + 1 => by
    show zF1 (zFN y heat i) heat i = mRow y 0 ((zF1 (zFN (mz (y.1 0)) heat i) heat i).1 0)
    rw [zFN_Z y heat i, zF1_Z, mRow2, mRow_at, zF1_Z (zFN (mz (y.1 0)) heat i)]
    rw [mRow_at]
theorem zFP_Z (y : MS) (heat : Int32) : ∀ i, zFP y heat i = zFP (mz (y.1 0)) heat i
  | 0 => rfl
  | i + 1 => by
    have e : (zFN y heat i).1 0 = (zFN (mz (y.1 0)) heat i).1 0 := by rw [zFN_Z y heat i, mRow_at]
    unfold zFP
    rw [zFP_Z y heat i, e]
    show _ = if _ then (if _ then _ else _) else _
    have e2 : vX7_fired (zFN y heat i) (nI i) heat i = vX7_fired (zFN (mz (y.1 0)) heat i) (nI i) heat i := by
      unfold vX7_fired; rw [e]
    rw [e2]
theorem zDoFire_Z (y : MS) (heat : Int32) : zDoFire y heat = mRow y 0 ((zDoFire (mz (y.1 0)) heat).1 0) := by
  unfold zDoFire
  have e : (zFN y heat (mN y)).1 0 = (zFN (mz (y.1 0)) heat (mN (mz (y.1 0)))).1 0 := by rw [zFN_Z y heat _, mRow_at]; rfl
  simp only [mRow2, mRow_at]
  rw [e, zFP_Z y, zFN_Z y, mRow2]
  rfl
theorem zD1_Z (y : MS) (i : Nat) : zD1 y i = mRow y 0 ((zD1 (mz (y.1 0)) i).1 0) := by
  unfold zD1
  show (if y.1 0 (35 + 9 * i + 3) = 0 then _ else _) = mRow y 0 ((if y.1 0 (35 + 9 * i + 3) = 0 then _ else _ : MS).1 0)
  by_cases h : y.1 0 (35 + 9 * i + 3) = 0
  · rw [if_pos h, if_pos h]
    show (if y.1 0 (35 + 9 * i + 4) = 0 then _ else _) = mRow y 0 ((if y.1 0 (35 + 9 * i + 4) = 0 then _ else _ : MS).1 0)
    by_cases h2 : y.1 0 (35 + 9 * i + 4) = 0
    · rw [if_pos h2, if_pos h2, mRow_at]; rfl
    · rw [if_neg h2, if_neg h2]; exact (mRow_i y 0).symm
  · rw [if_neg h, if_neg h]; exact (mRow_i y 0).symm
theorem zDN_Z (y : MS) : ∀ i, zDN y i = mRow y 0 ((zDN (mz (y.1 0)) i).1 0)
  | 0 => (mRow_i y 0).symm
  | i + 1 => by
    show zD1 (zDN y i) i = mRow y 0 ((zD1 (zDN (mz (y.1 0)) i) i).1 0)
    rw [zDN_Z y i, zD1_Z, mRow2, mRow_at, zD1_Z (zDN (mz (y.1 0)) i)]
    rw [mRow_at]
theorem zNight_Z (y : MS) : zNight y = mRow y 0 ((zNight (mz (y.1 0))).1 0) := by
  have e : (zDN y (mN y)).1 0 = (zDN (mz (y.1 0)) (mN y)).1 0 := by rw [zDN_Z y, mRow_at]
  unfold zNight zN3 zN2 zN1
  simp only [mRow2, mRow_at]
  rw [e, zDN_Z y, mRow2]
  rfl
theorem zPassN_Z (y : MS) : ∀ i, zPassN y i = mRow y 0 ((zPassN (mz (y.1 0)) i).1 0)
  | 0 => (mRow_i y 0).symm
  | i + 1 => by
    show zNight (zPassN y i) = mRow y 0 ((zNight (zPassN (mz (y.1 0)) i)).1 0)
    rw [zPassN_Z y i, zNight_Z, mRow2, mRow_at, zNight_Z (zPassN (mz (y.1 0)) i)]
    rw [mRow_at]
theorem ite_Z {c : Prop} [Decidable c] {y A B A2 B2 : MS} (h1 : A = mRow y 0 (A2.1 0)) (h2 : B = mRow y 0 (B2.1 0)) : (if c then A else B) = mRow y 0 ((if c then A2 else B2).1 0) := by
  by_cases h : c
  · rw [if_pos h, if_pos h]; exact h1
  · rw [if_neg h, if_neg h]; exact h2
theorem do_Z (y : MS) (kd a b c : Int32) : wX7_doOrder y kd a b c = mRow y 0 (zDo (y.1 0) kd a b c) := by
  have hb : ∀ i j, wX7_doBook y a b c i j = mRow y 0 ((wX7_doBook (mz (y.1 0)) a b c i j).1 0) := fun _ _ => by simp only [wX7_doBook, mRow2, mRow_at]; rfl
  have ht : ∀ i, wX7_doThrow y a b i = mRow y 0 ((wX7_doThrow (mz (y.1 0)) a b i).1 0) := fun i => by
    have e1 : mN (mz (y.1 0)) = mN y := rfl
    have e2 : (mz (y.1 0)).1 0 = y.1 0 := rfl
    simp only [wX7_doThrow, mRow2, va_up_2, va_up_at, zPlace_r, e1, e2]
  have hl : ∀ i, wX7_doLoad y a i = mRow y 0 ((wX7_doLoad (mz (y.1 0)) a i).1 0) := fun _ => by simp only [wX7_doLoad, mRow2, mRow_at]; rfl
  have hg : ∀ i j, wX7_doGlaze y a b i j = mRow y 0 ((wX7_doGlaze (mz (y.1 0)) a b i j).1 0) := fun _ _ => by simp only [wX7_doGlaze, mRow2, mRow_at]; rfl
  have hh : ∀ i, wX7_doTakeHome y a i = mRow y 0 ((wX7_doTakeHome (mz (y.1 0)) a i).1 0) := fun _ => by simp only [wX7_doTakeHome, mRow2, mRow_at]; rfl
  have hp : wX7_doPupil y = mRow y 0 ((wX7_doPupil (mz (y.1 0))).1 0) := by simp only [wX7_doPupil, mRow_at]; rfl
  unfold zDo wX7_doOrder
  repeat' first | exact hb _ _ | exact hh _ | exact zDoFire_Z y _ | exact hg _ _ | exact hl _ | exact zPassN_Z y _ | exact hp | exact ht _ | apply ite_Z
