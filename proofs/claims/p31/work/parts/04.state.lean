/-! the class's workshop: 27 cells at the addresses a 0 .. a 26, and what they hold: rows 0 settings, 1 bookers, 2 pupils, 3 sizes, 4 faults, 5 kinds, 6 spots, 7 nightsDried, 8 glazes, 9 firings, 10 glazeParts, 11 feesPaid; numbers 0 night, 1 throwersTonight, 2 soFar, 3 pupils, 4 faultDraw, 5 firings -/
abbrev WS : Type := (Nat → Nat → Int32) × (Nat → Int32)
def rlen : Nat → Nat := fun r => if r = 0 then 4 else if r = 1 then 105 else if r = 10 then 4 else if r = 11 then 10 else 20
abbrev wO0 (a : Nat → Nat) (x3 x4 x5 : Int32) : va_E := .inr (5, [.ref (a 3), .ref (a 1), .ref (a 2), .ref (a 23), .ref (a 25), .int x3, .int x4, .int x5])
abbrev wO1 (a : Nat → Nat) (x0 x1 : Int32) : va_E := .inr (0, [.ref (a 5), .int x0, .int x1])
abbrev wO2 (a : Nat → Nat) (x2 : Int32) : va_E := .inr (3, [.ref (a 7), .ref (a 9), .ref (a 11), .ref (a 13), .ref (a 15), .ref (a 17), .ref (a 19), .ref (a 21), .int x2])
def isWS (k : gK) (L : List Nat) (f : Nat → va_E) (a : Nat → Nat) (w : WS) : Prop :=
  (∀ i, i < 27 → a i ∈ L) ∧ (∀ i j, i < 27 → j < 27 → a i = a j → i = j) ∧ f (a 0) = wO0 a (w.2 3) (w.2 4) (w.2 5) ∧ f (a 1) = wO1 a (w.2 0) (w.2 1) ∧ f (a 2) = wO2 a (w.2 2) ∧ ∀ r, r < 12 → f (a (3 + 2 * r)) = .inr (4, [.ref (a (4 + 2 * r))]) ∧ f (a (4 + 2 * r)) = gIA k (rlen r) (w.1 r)
theorem isWS_in {k : gK} {L : List Nat} {f : Nat → va_E} {a : Nat → Nat} {w : WS} (h : isWS k L f a w) (i : Nat) (hi : i < 27) : a i ∈ L := h.1 i hi
theorem isWS_0 {k : gK} {L : List Nat} {f : Nat → va_E} {a : Nat → Nat} {w : WS} (h : isWS k L f a w) : f (a 0) = .inr (5, [.ref (a 3), .ref (a 1), .ref (a 2), .ref (a 23), .ref (a 25), .int (w.2 3), .int (w.2 4), .int (w.2 5)]) := h.2.2.1
theorem isWS_1 {k : gK} {L : List Nat} {f : Nat → va_E} {a : Nat → Nat} {w : WS} (h : isWS k L f a w) : f (a 1) = .inr (0, [.ref (a 5), .int (w.2 0), .int (w.2 1)]) := h.2.2.2.1
theorem isWS_2 {k : gK} {L : List Nat} {f : Nat → va_E} {a : Nat → Nat} {w : WS} (h : isWS k L f a w) : f (a 2) = .inr (3, [.ref (a 7), .ref (a 9), .ref (a 11), .ref (a 13), .ref (a 15), .ref (a 17), .ref (a 19), .ref (a 21), .int (w.2 2)]) := h.2.2.2.2.1
theorem isWS_row {k : gK} {L : List Nat} {f : Nat → va_E} {a : Nat → Nat} {w : WS} (h : isWS k L f a w) (r : Nat) (hr : r < 12) : f (a (3 + 2 * r)) = .inr (4, [.ref (a (4 + 2 * r))]) := (h.2.2.2.2.2 r hr).1
theorem isWS_arr {k : gK} {L : List Nat} {f : Nat → va_E} {a : Nat → Nat} {w : WS} (h : isWS k L f a w) (r : Nat) (hr : r < 12) : f (a (4 + 2 * r)) = gIA k (rlen r) (w.1 r) := (h.2.2.2.2.2 r hr).2
/-- outside of the first n addresses nothing changed -/
def gFr (a : Nat → Nat) (n : Nat) (f f2 : Nat → va_E) : Prop := ∀ q, (∀ i, i < n → q ≠ a i) → f2 q = f q
theorem gFr_rf {a : Nat → Nat} {n : Nat} {f : Nat → va_E} : gFr a n f f := fun _ _ => rfl
theorem gFr_tr {a : Nat → Nat} {n : Nat} {f f1 f2 : Nat → va_E} (h : gFr a n f f1) (h2 : gFr a n f1 f2) : gFr a n f f2 := fun q hq => (h2 q hq).trans (h q hq)
theorem gFr_up {a : Nat → Nat} {n : Nat} {f : Nat → va_E} {i : Nat} (hi : i < n) {e : va_E} : gFr a n f (va_up f (a i) e) := fun q hq => by rw [va_up, if_neg (hq i hi)]
abbrev wRow (w : WS) (r : Nat) (g : Nat → Int32) : WS := (va_up w.1 r g, w.2)
abbrev wSc (w : WS) (i : Nat) (x : Int32) : WS := (w.1, va_up w.2 i x)
theorem va_up_at {α : Type} (f : Nat → α) (i : Nat) (x : α) : va_up f i x i = x := if_pos rfl
theorem va_up_of {α : Type} (f : Nat → α) {i j : Nat} (h : j ≠ i) (x : α) : va_up f i x j = f j := if_neg h
theorem va_up_id {α : Type} {f : Nat → α} {i : Nat} {x : α} (h : f i = x) : va_up f i x = f := by
  funext j
  by_cases hj : j = i
  · rw [hj, va_up_at, h]
  · rw [va_up_of f hj]
theorem isWS_uparr {k : gK} {L : List Nat} {f : Nat → va_E} {a : Nat → Nat} {w : WS} (h : isWS k L f a w) (r : Nat) (hr : r < 12) (g : Nat → Int32) : isWS k L (va_up f (a (4 + 2 * r)) (gIA k (rlen r) g)) a (wRow w r g) := by
  obtain ⟨h1, h2, h3, h4, h5, h6⟩ := h
  have ne : ∀ i, i < 27 → i ≠ 4 + 2 * r → a i ≠ a (4 + 2 * r) := fun i hi hne he => hne (h2 i _ hi (by omega) he)
  refine ⟨h1, h2, ?_, ?_, ?_, fun q hq => ⟨?_, ?_⟩⟩
  · rw [va_up_of _ (ne 0 (by omega) (by omega))]; exact h3
  · rw [va_up_of _ (ne 1 (by omega) (by omega))]; exact h4
  · rw [va_up_of _ (ne 2 (by omega) (by omega))]; exact h5
  · rw [va_up_of _ (ne (3 + 2 * q) (by omega) (by omega))]; exact (h6 q hq).1
  · by_cases e : q = r
    · subst e
      rw [va_up_at]
      show _ = gIA k (rlen q) (va_up w.1 q g q)
      rw [va_up_at]
    · rw [va_up_of _ (ne (4 + 2 * q) (by omega) (by omega))]
      show _ = gIA k (rlen q) (va_up w.1 r g q)
      rw [va_up_of _ e]
      exact (h6 q hq).2
theorem isWS_upo {k : gK} {L : List Nat} {f : Nat → va_E} {a : Nat → Nat} {w : WS} (h : isWS k L f a w) (i : Nat) (hi : i < 3) (e : va_E) (s2 : Nat → Int32) (e0 : (if i = 0 then e else wO0 a (w.2 3) (w.2 4) (w.2 5)) = wO0 a (s2 3) (s2 4) (s2 5)) (e1 : (if i = 1 then e else wO1 a (w.2 0) (w.2 1)) = wO1 a (s2 0) (s2 1)) (e2 : (if i = 2 then e else wO2 a (w.2 2)) = wO2 a (s2 2)) : isWS k L (va_up f (a i) e) a (w.1, s2) := by
  obtain ⟨h1, h2, h3, h4, h5, h6⟩ := h
  have ne : ∀ j, j < 27 → j ≠ i → a j ≠ a i := fun j hj hne he => hne (h2 j _ hj (by omega) he)
  have at' : ∀ (j : Nat), j < 3 → ∀ (x y : va_E), f (a j) = x → (if i = j then e else x) = y → va_up f (a i) e (a j) = y := by
    intro j hj x y hx hy
    by_cases q : i = j
    · subst q
      rw [va_up_at]
      rw [if_pos rfl] at hy
      exact hy
    · rw [va_up_of _ (ne j (by omega) (Ne.symm q)), hx]
      rw [if_neg q] at hy
      exact hy
  refine ⟨h1, h2, at' 0 (by omega) _ _ h3 e0, at' 1 (by omega) _ _ h4 e1, at' 2 (by omega) _ _ h5 e2, fun r hr => ⟨?_, ?_⟩⟩
  · rw [va_up_of _ (ne (3 + 2 * r) (by omega) (by omega))]; exact (h6 r hr).1
  · rw [va_up_of _ (ne (4 + 2 * r) (by omega) (by omega))]; exact (h6 r hr).2
theorem isWS_n0 {k : gK} {L : List Nat} {f : Nat → va_E} {a : Nat → Nat} {w : WS} (h : isWS k L f a w) (x : Int32) : isWS k L (va_up f (a 1) (wO1 a x (w.2 1))) a (wSc w 0 x) := isWS_upo h 1 (by omega) _ _ rfl rfl rfl
theorem isWS_n1 {k : gK} {L : List Nat} {f : Nat → va_E} {a : Nat → Nat} {w : WS} (h : isWS k L f a w) (x : Int32) : isWS k L (va_up f (a 1) (wO1 a (w.2 0) x)) a (wSc w 1 x) := isWS_upo h 1 (by omega) _ _ rfl rfl rfl
theorem isWS_n2 {k : gK} {L : List Nat} {f : Nat → va_E} {a : Nat → Nat} {w : WS} (h : isWS k L f a w) (x : Int32) : isWS k L (va_up f (a 2) (wO2 a x)) a (wSc w 2 x) := isWS_upo h 2 (by omega) _ _ rfl rfl rfl
theorem isWS_n3 {k : gK} {L : List Nat} {f : Nat → va_E} {a : Nat → Nat} {w : WS} (h : isWS k L f a w) (x : Int32) : isWS k L (va_up f (a 0) (wO0 a x (w.2 4) (w.2 5))) a (wSc w 3 x) := isWS_upo h 0 (by omega) _ _ rfl rfl rfl
theorem isWS_n4 {k : gK} {L : List Nat} {f : Nat → va_E} {a : Nat → Nat} {w : WS} (h : isWS k L f a w) (x : Int32) : isWS k L (va_up f (a 0) (wO0 a (w.2 3) x (w.2 5))) a (wSc w 4 x) := isWS_upo h 0 (by omega) _ _ rfl rfl rfl
theorem isWS_n5 {k : gK} {L : List Nat} {f : Nat → va_E} {a : Nat → Nat} {w : WS} (h : isWS k L f a w) (x : Int32) : isWS k L (va_up f (a 0) (wO0 a (w.2 3) (w.2 4) x)) a (wSc w 5 x) := isWS_upo h 0 (by omega) _ _ rfl rfl rfl
def wP (k : gK) (L : List Nat) (a : Nat → Nat) (f : Nat → va_E) (v : Option Value) (w : WS) : Option Value → (Nat → va_E) → Prop := fun v2 f2 => v2 = v ∧ isWS k L f2 a w ∧ gFr a 27 f f2
section GS
variable {p : Program} {l : Launch} {e : Env} {R : Room} {s : State} {m : MethodId} {args : Array Value} {below : List Frame} {meth : Method} {c : Code} {k : gK} {cc : ByteArray} {own : String} {nL : Nat} {Ts : List Cond} {rd : Prop} {A : Nat → Prop} {H0 : Heap} {Q : State → Prop} {L : List Nat} {cells slots : Nat} {f f0 : Nat → va_E} {pc : Nat} {lv : List (Nat × Value)} {rest st : List Value} {a : Nat → Nat} {w : WS} {x : Int32}
theorem gx_w0 (hW : isWS k L f a w) (hF : gFr a 27 f0 f) (kk : ∀ f2, isWS k L f2 a (wSc w 0 x) → gFr a 27 f0 f2 → gW p l e R s m args below meth c k nL rd A H0 Q L cells slots f2 pc lv st) : gW p l e R s m args below meth c k nL rd A H0 Q L cells slots (va_up f (a 1) (.inr (0, [.ref (a 5), .int x, .int (w.2 1)]))) pc lv st := kk _ (isWS_n0 hW x) (gFr_tr hF (gFr_up (by omega)))
theorem gx_w1 (hW : isWS k L f a w) (hF : gFr a 27 f0 f) (kk : ∀ f2, isWS k L f2 a (wSc w 1 x) → gFr a 27 f0 f2 → gW p l e R s m args below meth c k nL rd A H0 Q L cells slots f2 pc lv st) : gW p l e R s m args below meth c k nL rd A H0 Q L cells slots (va_up f (a 1) (.inr (0, [.ref (a 5), .int (w.2 0), .int x]))) pc lv st := kk _ (isWS_n1 hW x) (gFr_tr hF (gFr_up (by omega)))
theorem gx_w2 (hW : isWS k L f a w) (hF : gFr a 27 f0 f) (kk : ∀ f2, isWS k L f2 a (wSc w 2 x) → gFr a 27 f0 f2 → gW p l e R s m args below meth c k nL rd A H0 Q L cells slots f2 pc lv st) : gW p l e R s m args below meth c k nL rd A H0 Q L cells slots (va_up f (a 2) (.inr (3, [.ref (a 7), .ref (a 9), .ref (a 11), .ref (a 13), .ref (a 15), .ref (a 17), .ref (a 19), .ref (a 21), .int x]))) pc lv st := kk _ (isWS_n2 hW x) (gFr_tr hF (gFr_up (by omega)))
theorem gx_w3 (hW : isWS k L f a w) (hF : gFr a 27 f0 f) (kk : ∀ f2, isWS k L f2 a (wSc w 3 x) → gFr a 27 f0 f2 → gW p l e R s m args below meth c k nL rd A H0 Q L cells slots f2 pc lv st) : gW p l e R s m args below meth c k nL rd A H0 Q L cells slots (va_up f (a 0) (.inr (5, [.ref (a 3), .ref (a 1), .ref (a 2), .ref (a 23), .ref (a 25), .int x, .int (w.2 4), .int (w.2 5)]))) pc lv st := kk _ (isWS_n3 hW x) (gFr_tr hF (gFr_up (by omega)))
theorem gx_w4 (hW : isWS k L f a w) (hF : gFr a 27 f0 f) (kk : ∀ f2, isWS k L f2 a (wSc w 4 x) → gFr a 27 f0 f2 → gW p l e R s m args below meth c k nL rd A H0 Q L cells slots f2 pc lv st) : gW p l e R s m args below meth c k nL rd A H0 Q L cells slots (va_up f (a 0) (.inr (5, [.ref (a 3), .ref (a 1), .ref (a 2), .ref (a 23), .ref (a 25), .int (w.2 3), .int x, .int (w.2 5)]))) pc lv st := kk _ (isWS_n4 hW x) (gFr_tr hF (gFr_up (by omega)))
theorem gx_w5 (hW : isWS k L f a w) (hF : gFr a 27 f0 f) (kk : ∀ f2, isWS k L f2 a (wSc w 5 x) → gFr a 27 f0 f2 → gW p l e R s m args below meth c k nL rd A H0 Q L cells slots f2 pc lv st) : gW p l e R s m args below meth c k nL rd A H0 Q L cells slots (va_up f (a 0) (.inr (5, [.ref (a 3), .ref (a 1), .ref (a 2), .ref (a 23), .ref (a 25), .int (w.2 3), .int (w.2 4), .int x]))) pc lv st := kk _ (isWS_n5 hW x) (gFr_tr hF (gFr_up (by omega)))
theorem gx_callWi {w2 : WS} (C : gC k p s m args meth c cc own nL Ts) (hD : gD A L) {y : MethodName} {bytes : ByteArray} {maxL n index : Nat} {ret : Option FieldType} {ws : List Cond} {rm : Room} {As : List Value} {b ci : Nat} {q : vw_C} {fs : List Value} (hF : gFr a 27 f0 f) (hM : kM l k L f y ws rm (.ref b :: As) (wP k L a f (some (.int x)) w2)) (hb : b ∈ L) (hfb : f b = .inr (ci, fs)) (hc : vwCl[ci]? = some q) (cw : CallW R s args own q.1 index y bytes maxL ret ws rm 0 0 n) (hn : As.length = n) (hst : st = As.reverse ++ .ref b :: rest) (hrm : (rest.map fun v => v.category).sum ≤ 8) (hzz : cells ≤ R.cells ∧ slots ≤ R.slots) (hdg : decode cc pc = .ok (.invokevirtual index, 3)) (kk : ∀ f2, isWS k L f2 a w2 → gFr a 27 f0 f2 → gW p l e R s m args below meth c k nL False A H0 Q L cells slots f2 (pc + 3) lv (.int x :: rest)) : gW p l e R s m args below meth c k nL False A H0 Q L cells slots f pc lv st :=
  gx_callM C hD hM hb hfb hc cw hn hst hrm hzz hdg (fun v f2 hp => by obtain ⟨rfl, h1, h2⟩ := hp; exact kk f2 h1 (gFr_tr hF h2))
theorem gx_callWv {w2 : WS} (C : gC k p s m args meth c cc own nL Ts) (hD : gD A L) {y : MethodName} {bytes : ByteArray} {maxL n index : Nat} {ret : Option FieldType} {ws : List Cond} {rm : Room} {As : List Value} {b ci : Nat} {q : vw_C} {fs : List Value} (hF : gFr a 27 f0 f) (hM : kM l k L f y ws rm (.ref b :: As) (wP k L a f none w2)) (hb : b ∈ L) (hfb : f b = .inr (ci, fs)) (hc : vwCl[ci]? = some q) (cw : CallW R s args own q.1 index y bytes maxL ret ws rm 0 0 n) (hn : As.length = n) (hst : st = As.reverse ++ .ref b :: rest) (hrm : (rest.map fun v => v.category).sum ≤ 8) (hzz : cells ≤ R.cells ∧ slots ≤ R.slots) (hdg : decode cc pc = .ok (.invokevirtual index, 3)) (kk : ∀ f2, isWS k L f2 a w2 → gFr a 27 f0 f2 → gW p l e R s m args below meth c k nL False A H0 Q L cells slots f2 (pc + 3) lv rest) : gW p l e R s m args below meth c k nL False A H0 Q L cells slots f pc lv st :=
  gx_callM C hD hM hb hfb hc cw hn hst hrm hzz hdg (fun v f2 hp => by obtain ⟨rfl, h1, h2⟩ := hp; exact kk f2 h1 (gFr_tr hF h2))
theorem gx_iretW {w2 : WS} {v : Int32} (C : gC k p s m args meth c cc own nL Ts) (hr : meth.sig.returnType = some .int) (hW : isWS k L f a w) (hF : gFr a 27 f0 f) (hdg : decode cc pc = .ok (.ireturn, 1)) (hv : x = v) (hw : w = w2) : gW p l e R s m args below meth c k nL False (fun q => q ∈ L) s.heap (MQ below (gQM k L (wP k L a f0 (some (.int v)) w2)) args s cells slots (fun q => q ∈ L)) L cells slots f pc lv [.int x] := gx_iretM C hr hdg ⟨by rw [hv], by rw [← hw]; exact hW, hF⟩
theorem gx_vretW {w2 : WS} (C : gC k p s m args meth c cc own nL Ts) (hr : meth.sig.returnType = none) (hW : isWS k L f a w) (hF : gFr a 27 f0 f) (hdg : decode cc pc = .ok (.return_, 1)) (hw : w = w2) : gW p l e R s m args below meth c k nL False (fun q => q ∈ L) s.heap (MQ below (gQM k L (wP k L a f0 none w2)) args s cells slots (fun q => q ∈ L)) L cells slots f pc lv [] := gx_vretM C hr hdg ⟨rfl, by rw [← hw]; exact hW, hF⟩
/-- a loop: its head's memory and locals by a value of the loop -/
theorem gx_loop {σ : Type} (fO : σ → Nat → va_E) (lvO : σ → List (Nat × Value)) (I : σ → Prop) (μ : σ → Nat) (q0 : σ) (ks : List Nat) (hf : f = fO q0) (hlv : lv_pick lv ks = lvO q0) (h0 : I q0) (body : ∀ q, I q → (∀ q2, I q2 → μ q2 < μ q → gW p l e R s m args below meth c k nL rd A H0 Q L cells slots (fO q2) pc (lvO q2) []) → gW p l e R s m args below meth c k nL rd A H0 Q L cells slots (fO q) pc (lvO q) []) : gW p l e R s m args below meth c k nL rd A H0 Q L cells slots f pc lv [] := by
  subst hf
  refine gx_lv (lvO q0) ks hlv ?_
  have h : ∀ n q, μ q < n → I q → gW p l e R s m args below meth c k nL rd A H0 Q L cells slots (fO q) pc (lvO q) [] := by
    intro n
    induction n with
    | zero => intro q h; exact absurd h (Nat.not_lt_zero _)
    | succ n ih => intro q h1 h2; exact body q h2 (fun q2 h3 h4 => ih q2 (by omega) h3)
  exact h _ q0 (Nat.lt_succ_self _) h0
theorem gx_back {f2 : Nat → va_E} {lv2 : List (Nat × Value)} (ks : List Nat) (h : gW p l e R s m args below meth c k nL rd A H0 Q L cells slots f2 pc lv2 st) (hf : f = f2) (hlv : lv_pick lv ks = lv2) : gW p l e R s m args below meth c k nL rd A H0 Q L cells slots f pc lv st := by
  subst hf
  exact gx_lv lv2 ks hlv h
end GS
