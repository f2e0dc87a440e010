def dC (q : DS) (p : Nat) (kd a b c : Int32) : DS := (q.1, fun i => if i = 1 then nI p else if i = 2 then kd else if i = 3 then a else if i = 4 then b else if i = 5 then c else q.2 i)
theorem isDS_same {k : gK} {L : List Nat} {f : Nat → va_E} {d : Nat → Nat} {y y2 : DS} (h : isDS k L f d y) (e : y2 = y) : isDS k L f d y2 := e ▸ h
theorem dS_ext {y y2 : DS} (h1 : y.1 = y2.1) (h2 : ∀ i, y.2 i = y2.2 i) : y = y2 := by
  obtain ⟨a, b⟩ := y
  obtain ⟨a2, b2⟩ := y2
  have hb : b = b2 := funext h2
  have ha : a = a2 := h1
  rw [ha, hb]
theorem dC_1 (q : DS) (p : Nat) (kd a b c x : Int32) {pp : Nat} (hx : x = nI pp) : dC q pp kd a b c = dSc (dC q p kd a b c) 1 x := by
  refine dS_ext rfl (fun i => ?_)
  show (if i = 1 then _ else _) = va_up (dC q p kd a b c).2 1 x i
  subst hx
  unfold va_up dC
  dsimp only
  by_cases h : i = 1
  · subst h; simp
  · simp [h]
theorem dC_2 (q : DS) (p : Nat) (kd a b c x : Int32) : dC q p x a b c = dSc (dC q p kd a b c) 2 x := by
  refine dS_ext rfl (fun i => ?_)
  show (if i = 1 then _ else _) = va_up (dC q p kd a b c).2 2 x i
  unfold va_up dC
  dsimp only
  by_cases h : i = 2
  · subst h; simp
  · simp [h]
theorem dC_3 (q : DS) (p : Nat) (kd a b c x : Int32) : dC q p kd x b c = dSc (dC q p kd a b c) 3 x := by
  refine dS_ext rfl (fun i => ?_)
  show (if i = 1 then _ else _) = va_up (dC q p kd a b c).2 3 x i
  unfold va_up dC
  dsimp only
  by_cases h : i = 3
  · subst h; simp
  · simp [h]
theorem dC_4 (q : DS) (p : Nat) (kd a b c x : Int32) : dC q p kd a x c = dSc (dC q p kd a b c) 4 x := by
  refine dS_ext rfl (fun i => ?_)
  show (if i = 1 then _ else _) = va_up (dC q p kd a b c).2 4 x i
  unfold va_up dC
  dsimp only
  by_cases h : i = 4
  · subst h; simp
  · simp [h]
theorem dC_5 (q : DS) (p : Nat) (kd a b c x : Int32) : dC q p kd a b x = dSc (dC q p kd a b c) 5 x := by
  refine dS_ext rfl (fun i => ?_)
  show (if i = 1 then _ else _) = va_up (dC q p kd a b c).2 5 x i
  unfold va_up dC
  dsimp only
  by_cases h : i = 5
  · subst h; simp
  · simp [h]
theorem dC_s (q : DS) {p : Nat} (h : q.2 1 = nI p) : dC q p (q.2 2) (q.2 3) (q.2 4) (q.2 5) = q := by
  refine dS_ext rfl (fun i => ?_)
  unfold dC
  dsimp only
  repeat' split
  · rename_i e; rw [e, h]
  · rename_i e; rw [e]
  · rename_i e; rw [e]
  · rename_i e; rw [e]
  · rename_i e; rw [e]
  · rfl
theorem dC_z (q : DS) : dC q 0 (q.2 2) (q.2 3) (q.2 4) (q.2 5) = dSc q 1 0 := by
  refine dS_ext rfl (fun i => ?_)
  show (if i = 1 then _ else _) = va_up q.2 1 0 i
  unfold va_up
  by_cases h : i = 1
  · subst h; rfl
  · rw [if_neg h, if_neg h]
    repeat' split
    · rename_i e; rw [e]
    · rename_i e; rw [e]
    · rename_i e; rw [e]
    · rename_i e; rw [e]
    · rfl
section
variable {p : Program} {l : Launch} {e : Env} {R : Room} {s : State} {m : MethodId} {args : Array Value} {below : List Frame} {meth : Method} {c : Code} {k : gK} {cc : ByteArray} {own : String} {nL : Nat} {Ts : List Cond} {rd : Prop} {A : Nat → Prop} {H0 : Heap} {Q : State → Prop} {L : List Nat} {cells slots : Nat} {f f0 : Nat → va_E} {pc : Nat} {lv : List (Nat × Value)} {rest st : List Value} {x : Int32}
theorem gx_cons {v : Value} (kk : gW p l e R s m args below meth c k nL rd A H0 Q L cells slots f pc lv (v :: rest)) : gW p l e R s m args below meth c k nL rd A H0 Q L cells slots f pc lv ((some v).toList ++ rest) := kk
theorem gx_nil (kk : gW p l e R s m args below meth c k nL rd A H0 Q L cells slots f pc lv rest) : gW p l e R s m args below meth c k nL rd A H0 Q L cells slots f pc lv ((none : Option Value).toList ++ rest) := kk
end
