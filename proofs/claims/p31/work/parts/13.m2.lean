theorem mS_id (y : MS) (r : Nat) : ((va_up y.1 r (y.1 r), y.2) : MS) = y := by rw [va_up_id rfl]
theorem va_up_2 {α : Type} (f : Nat → α) (i : Nat) (x x2 : α) : va_up (va_up f i x) i x2 = va_up f i x2 := by
  funext j
  unfold va_up
  split <;> rfl
