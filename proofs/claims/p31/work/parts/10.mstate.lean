/-! the reference's object: 6 cells at the addresses o 0 .. o 5, and what they hold: arrays 0 z, 1 before, 2 slots, 3 isSaved, 4 pad; numbers 0 known, 1 length, 2 place, 3 isWrong, 4 letter, 5 one, 6 two, 7 three -/
abbrev MS : Type := (Nat → Nat → Int32) × (Nat → Int32)
abbrev mRow (m : MS) (r : Nat) (g : Nat → Int32) : MS := (va_up m.1 r g, m.2)
section
variable {p : Program} {l : Launch} {e : Env} {R : Room} {s : State} {m : MethodId} {args : Array Value} {below : List Frame} {meth : Method} {c : Code} {k : gK} {cc : ByteArray} {own : String} {nL : Nat} {Ts : List Cond} {rd : Prop} {A : Nat → Prop} {H0 : Heap} {Q : State → Prop} {L : List Nat} {cells slots : Nat} {f f0 : Nat → va_E} {pc : Nat} {lv : List (Nat × Value)} {rest st : List Value} {o : Nat → Nat} {q : MS} {x : Int32}
end
/-! the pad: its object and its codes; numbers 0 length, 1 place, 2 kind, 3 first, 4 second, 5 third -/
abbrev DS : Type := (Nat → Nat → Int32) × (Nat → Int32)
abbrev dO (d : Nat → Nat) (x0 x1 x2 x3 x4 x5 : Int32) : va_E := .inr (2, [.ref (d 1), .int x0, .int x1, .int x2, .int x3, .int x4, .int x5])
def isDS (k : gK) (L : List Nat) (f : Nat → va_E) (d : Nat → Nat) (m : DS) : Prop :=
  (∀ i, i < 2 → d i ∈ L) ∧ (∀ i j, i < 2 → j < 2 → d i = d j → i = j) ∧ f (d 0) = dO d (m.2 0) (m.2 1) (m.2 2) (m.2 3) (m.2 4) (m.2 5) ∧ f (d 1) = gIA k 80 (m.1 0)
theorem isDS_in {k : gK} {L : List Nat} {f : Nat → va_E} {d : Nat → Nat} {m : DS} (h : isDS k L f d m) (i : Nat) (hi : i < 2) : d i ∈ L := h.1 i hi
theorem isDS_0 {k : gK} {L : List Nat} {f : Nat → va_E} {d : Nat → Nat} {m : DS} (h : isDS k L f d m) : f (d 0) = .inr (2, [.ref (d 1), .int (m.2 0), .int (m.2 1), .int (m.2 2), .int (m.2 3), .int (m.2 4), .int (m.2 5)]) := h.2.2.1
theorem isDS_a0 {k : gK} {L : List Nat} {f : Nat → va_E} {d : Nat → Nat} {m : DS} (h : isDS k L f d m) : f (d 1) = gIA k 80 (m.1 0) := h.2.2.2
abbrev dRow (m : DS) (r : Nat) (g : Nat → Int32) : DS := (va_up m.1 r g, m.2)
abbrev dSc (m : DS) (i : Nat) (x : Int32) : DS := (m.1, va_up m.2 i x)
theorem isDS_u0 {k : gK} {L : List Nat} {f : Nat → va_E} {d : Nat → Nat} {m : DS} (h : isDS k L f d m) (g : Nat → Int32) : isDS k L (va_up f (d 1) (gIA k 80 g)) d (dRow m 0 g) := by
  obtain ⟨h1, h2, h3, h4⟩ := h
  have ne : ∀ i, i < 2 → i ≠ 1 → d i ≠ d 1 := fun i hi hne he => hne (h2 i _ hi (by omega) he)
  refine ⟨h1, h2, ?_, ?_⟩
  · rw [va_up_of _ (ne 0 (by omega) (by omega))]; exact h3
  · rw [va_up_at]; rfl
theorem isDS_s0 {k : gK} {L : List Nat} {f : Nat → va_E} {d : Nat → Nat} {m : DS} (h : isDS k L f d m) (x : Int32) : isDS k L (va_up f (d 0) (.inr (2, [.ref (d 1), .int x, .int (m.2 1), .int (m.2 2), .int (m.2 3), .int (m.2 4), .int (m.2 5)]))) d (dSc m 0 x) := by
  obtain ⟨h1, h2, h3, h4⟩ := h
  have ne : ∀ i, i < 2 → i ≠ 0 → d i ≠ d 0 := fun i hi hne he => hne (h2 i _ hi (by omega) he)
  refine ⟨h1, h2, ?_, ?_⟩
  · rw [va_up_at]; rfl
  · rw [va_up_of _ (ne 1 (by omega) (by omega))]; exact h4
theorem isDS_s1 {k : gK} {L : List Nat} {f : Nat → va_E} {d : Nat → Nat} {m : DS} (h : isDS k L f d m) (x : Int32) : isDS k L (va_up f (d 0) (.inr (2, [.ref (d 1), .int (m.2 0), .int x, .int (m.2 2), .int (m.2 3), .int (m.2 4), .int (m.2 5)]))) d (dSc m 1 x) := by
  obtain ⟨h1, h2, h3, h4⟩ := h
  have ne : ∀ i, i < 2 → i ≠ 0 → d i ≠ d 0 := fun i hi hne he => hne (h2 i _ hi (by omega) he)
  refine ⟨h1, h2, ?_, ?_⟩
  · rw [va_up_at]; rfl
  · rw [va_up_of _ (ne 1 (by omega) (by omega))]; exact h4
theorem isDS_s2 {k : gK} {L : List Nat} {f : Nat → va_E} {d : Nat → Nat} {m : DS} (h : isDS k L f d m) (x : Int32) : isDS k L (va_up f (d 0) (.inr (2, [.ref (d 1), .int (m.2 0), .int (m.2 1), .int x, .int (m.2 3), .int (m.2 4), .int (m.2 5)]))) d (dSc m 2 x) := by
  obtain ⟨h1, h2, h3, h4⟩ := h
  have ne : ∀ i, i < 2 → i ≠ 0 → d i ≠ d 0 := fun i hi hne he => hne (h2 i _ hi (by omega) he)
  refine ⟨h1, h2, ?_, ?_⟩
  · rw [va_up_at]; rfl
  · rw [va_up_of _ (ne 1 (by omega) (by omega))]; exact h4
theorem isDS_s3 {k : gK} {L : List Nat} {f : Nat → va_E} {d : Nat → Nat} {m : DS} (h : isDS k L f d m) (x : Int32) : isDS k L (va_up f (d 0) (.inr (2, [.ref (d 1), .int (m.2 0), .int (m.2 1), .int (m.2 2), .int x, .int (m.2 4), .int (m.2 5)]))) d (dSc m 3 x) := by
  obtain ⟨h1, h2, h3, h4⟩ := h
  have ne : ∀ i, i < 2 → i ≠ 0 → d i ≠ d 0 := fun i hi hne he => hne (h2 i _ hi (by omega) he)
  refine ⟨h1, h2, ?_, ?_⟩
  · rw [va_up_at]; rfl
  · rw [va_up_of _ (ne 1 (by omega) (by omega))]; exact h4
theorem isDS_s4 {k : gK} {L : List Nat} {f : Nat → va_E} {d : Nat → Nat} {m : DS} (h : isDS k L f d m) (x : Int32) : isDS k L (va_up f (d 0) (.inr (2, [.ref (d 1), .int (m.2 0), .int (m.2 1), .int (m.2 2), .int (m.2 3), .int x, .int (m.2 5)]))) d (dSc m 4 x) := by
  obtain ⟨h1, h2, h3, h4⟩ := h
  have ne : ∀ i, i < 2 → i ≠ 0 → d i ≠ d 0 := fun i hi hne he => hne (h2 i _ hi (by omega) he)
  refine ⟨h1, h2, ?_, ?_⟩
  · rw [va_up_at]; rfl
  · rw [va_up_of _ (ne 1 (by omega) (by omega))]; exact h4
theorem isDS_s5 {k : gK} {L : List Nat} {f : Nat → va_E} {d : Nat → Nat} {m : DS} (h : isDS k L f d m) (x : Int32) : isDS k L (va_up f (d 0) (.inr (2, [.ref (d 1), .int (m.2 0), .int (m.2 1), .int (m.2 2), .int (m.2 3), .int (m.2 4), .int x]))) d (dSc m 5 x) := by
  obtain ⟨h1, h2, h3, h4⟩ := h
  have ne : ∀ i, i < 2 → i ≠ 0 → d i ≠ d 0 := fun i hi hne he => hne (h2 i _ hi (by omega) he)
  refine ⟨h1, h2, ?_, ?_⟩
  · rw [va_up_at]; rfl
  · rw [va_up_of _ (ne 1 (by omega) (by omega))]; exact h4
theorem isDS_fr {d : Nat → Nat} {m : DS} {k : gK} {L : List Nat} {f f2 : Nat → va_E} {n : Nat} {b : Nat → Nat} (h : isDS k L f d m) (hF : gFr b n f f2) (hd : ∀ i j, i < 2 → j < n → d i ≠ b j) : isDS k L f2 d m := by
  obtain ⟨h1, h2, h3, h4⟩ := h
  refine ⟨h1, h2, ?_, ?_⟩
  · rw [hF _ (fun j hj => hd 0 j (by omega) hj)]; exact h3
  · rw [hF _ (fun j hj => hd 1 j (by omega) hj)]; exact h4
def dP (k : gK) (L : List Nat) (d : Nat → Nat) (f : Nat → va_E) (v : Option Value) (m : DS) : Option Value → (Nat → va_E) → Prop := fun v2 f2 => v2 = v ∧ isDS k L f2 d m ∧ gFr d 2 f f2
section
variable {p : Program} {l : Launch} {e : Env} {R : Room} {s : State} {m : MethodId} {args : Array Value} {below : List Frame} {meth : Method} {c : Code} {k : gK} {cc : ByteArray} {own : String} {nL : Nat} {Ts : List Cond} {rd : Prop} {A : Nat → Prop} {H0 : Heap} {Q : State → Prop} {L : List Nat} {cells slots : Nat} {f f0 : Nat → va_E} {pc : Nat} {lv : List (Nat × Value)} {rest st : List Value} {d : Nat → Nat} {q : DS} {x : Int32}
theorem gx_Du0 {g : Nat → Int32} (hW : isDS k L f d q) (hF : gFr d 2 f0 f) (kk : ∀ f2, isDS k L f2 d (dRow q 0 g) → gFr d 2 f0 f2 → gW p l e R s m args below meth c k nL rd A H0 Q L cells slots f2 pc lv st) : gW p l e R s m args below meth c k nL rd A H0 Q L cells slots (va_up f (d 1) (gIA k 80 g)) pc lv st := kk _ (isDS_u0 hW g) (gFr_tr hF (gFr_up (by omega)))
theorem gx_Ds0 (hW : isDS k L f d q) (hF : gFr d 2 f0 f) (kk : ∀ f2, isDS k L f2 d (dSc q 0 x) → gFr d 2 f0 f2 → gW p l e R s m args below meth c k nL rd A H0 Q L cells slots f2 pc lv st) : gW p l e R s m args below meth c k nL rd A H0 Q L cells slots (va_up f (d 0) (.inr (2, [.ref (d 1), .int x, .int (q.2 1), .int (q.2 2), .int (q.2 3), .int (q.2 4), .int (q.2 5)]))) pc lv st := kk _ (isDS_s0 hW x) (gFr_tr hF (gFr_up (by omega)))
theorem gx_Ds1 (hW : isDS k L f d q) (hF : gFr d 2 f0 f) (kk : ∀ f2, isDS k L f2 d (dSc q 1 x) → gFr d 2 f0 f2 → gW p l e R s m args below meth c k nL rd A H0 Q L cells slots f2 pc lv st) : gW p l e R s m args below meth c k nL rd A H0 Q L cells slots (va_up f (d 0) (.inr (2, [.ref (d 1), .int (q.2 0), .int x, .int (q.2 2), .int (q.2 3), .int (q.2 4), .int (q.2 5)]))) pc lv st := kk _ (isDS_s1 hW x) (gFr_tr hF (gFr_up (by omega)))
theorem gx_Ds2 (hW : isDS k L f d q) (hF : gFr d 2 f0 f) (kk : ∀ f2, isDS k L f2 d (dSc q 2 x) → gFr d 2 f0 f2 → gW p l e R s m args below meth c k nL rd A H0 Q L cells slots f2 pc lv st) : gW p l e R s m args below meth c k nL rd A H0 Q L cells slots (va_up f (d 0) (.inr (2, [.ref (d 1), .int (q.2 0), .int (q.2 1), .int x, .int (q.2 3), .int (q.2 4), .int (q.2 5)]))) pc lv st := kk _ (isDS_s2 hW x) (gFr_tr hF (gFr_up (by omega)))
theorem gx_Ds3 (hW : isDS k L f d q) (hF : gFr d 2 f0 f) (kk : ∀ f2, isDS k L f2 d (dSc q 3 x) → gFr d 2 f0 f2 → gW p l e R s m args below meth c k nL rd A H0 Q L cells slots f2 pc lv st) : gW p l e R s m args below meth c k nL rd A H0 Q L cells slots (va_up f (d 0) (.inr (2, [.ref (d 1), .int (q.2 0), .int (q.2 1), .int (q.2 2), .int x, .int (q.2 4), .int (q.2 5)]))) pc lv st := kk _ (isDS_s3 hW x) (gFr_tr hF (gFr_up (by omega)))
theorem gx_Ds4 (hW : isDS k L f d q) (hF : gFr d 2 f0 f) (kk : ∀ f2, isDS k L f2 d (dSc q 4 x) → gFr d 2 f0 f2 → gW p l e R s m args below meth c k nL rd A H0 Q L cells slots f2 pc lv st) : gW p l e R s m args below meth c k nL rd A H0 Q L cells slots (va_up f (d 0) (.inr (2, [.ref (d 1), .int (q.2 0), .int (q.2 1), .int (q.2 2), .int (q.2 3), .int x, .int (q.2 5)]))) pc lv st := kk _ (isDS_s4 hW x) (gFr_tr hF (gFr_up (by omega)))
theorem gx_Ds5 (hW : isDS k L f d q) (hF : gFr d 2 f0 f) (kk : ∀ f2, isDS k L f2 d (dSc q 5 x) → gFr d 2 f0 f2 → gW p l e R s m args below meth c k nL rd A H0 Q L cells slots f2 pc lv st) : gW p l e R s m args below meth c k nL rd A H0 Q L cells slots (va_up f (d 0) (.inr (2, [.ref (d 1), .int (q.2 0), .int (q.2 1), .int (q.2 2), .int (q.2 3), .int (q.2 4), .int x]))) pc lv st := kk _ (isDS_s5 hW x) (gFr_tr hF (gFr_up (by omega)))
theorem gx_callDi {q2 : DS} (C : gC k p s m args meth c cc own nL Ts) (hD : gD A L) {y : MethodName} {bytes : ByteArray} {maxL n index : Nat} {ret : Option FieldType} {ws : List Cond} {rm : Room} {As : List Value} {b ci : Nat} {qc : vw_C} {fs : List Value} (hF : gFr d 2 f0 f) (hM : kM l k L f y ws rm (.ref b :: As) (dP k L d f (some (.int x)) q2)) (hb : b ∈ L) (hfb : f b = .inr (ci, fs)) (hc : vwCl[ci]? = some qc) (cw : CallW R s args own qc.1 index y bytes maxL ret ws rm 0 0 n) (hn : As.length = n) (hst : st = As.reverse ++ .ref b :: rest) (hrm : (rest.map fun v => v.category).sum ≤ 8) (hzz : cells ≤ R.cells ∧ slots ≤ R.slots) (hdg : decode cc pc = .ok (.invokevirtual index, 3)) (kk : ∀ f2, isDS k L f2 d q2 → gFr d 2 f0 f2 → gW p l e R s m args below meth c k nL False A H0 Q L cells slots f2 (pc + 3) lv (.int x :: rest)) : gW p l e R s m args below meth c k nL False A H0 Q L cells slots f pc lv st :=
  gx_callM C hD hM hb hfb hc cw hn hst hrm hzz hdg (fun v f2 hp => by obtain ⟨rfl, h1, h2⟩ := hp; exact kk f2 h1 (gFr_tr hF h2))
theorem gx_callDv {q2 : DS} (C : gC k p s m args meth c cc own nL Ts) (hD : gD A L) {y : MethodName} {bytes : ByteArray} {maxL n index : Nat} {ret : Option FieldType} {ws : List Cond} {rm : Room} {As : List Value} {b ci : Nat} {qc : vw_C} {fs : List Value} (hF : gFr d 2 f0 f) (hM : kM l k L f y ws rm (.ref b :: As) (dP k L d f none q2)) (hb : b ∈ L) (hfb : f b = .inr (ci, fs)) (hc : vwCl[ci]? = some qc) (cw : CallW R s args own qc.1 index y bytes maxL ret ws rm 0 0 n) (hn : As.length = n) (hst : st = As.reverse ++ .ref b :: rest) (hrm : (rest.map fun v => v.category).sum ≤ 8) (hzz : cells ≤ R.cells ∧ slots ≤ R.slots) (hdg : decode cc pc = .ok (.invokevirtual index, 3)) (kk : ∀ f2, isDS k L f2 d q2 → gFr d 2 f0 f2 → gW p l e R s m args below meth c k nL False A H0 Q L cells slots f2 (pc + 3) lv rest) : gW p l e R s m args below meth c k nL False A H0 Q L cells slots f pc lv st :=
  gx_callM C hD hM hb hfb hc cw hn hst hrm hzz hdg (fun v f2 hp => by obtain ⟨rfl, h1, h2⟩ := hp; exact kk f2 h1 (gFr_tr hF h2))
theorem gx_iretD {q2 : DS} {v : Int32} (C : gC k p s m args meth c cc own nL Ts) (hr : meth.sig.returnType = some .int) (hW : isDS k L f d q) (hF : gFr d 2 f0 f) (hdg : decode cc pc = .ok (.ireturn, 1)) (hv : x = v) (hw : q = q2) : gW p l e R s m args below meth c k nL False (fun q => q ∈ L) s.heap (MQ below (gQM k L (dP k L d f0 (some (.int v)) q2)) args s cells slots (fun q => q ∈ L)) L cells slots f pc lv [.int x] := gx_iretM C hr hdg ⟨by rw [hv], by rw [← hw]; exact hW, hF⟩
theorem gx_zretD {q2 : DS} {v : Int32} (C : gC k p s m args meth c cc own nL Ts) (hr : meth.sig.returnType = some .boolean) (hz : x = 0 ∨ x = 1) (hW : isDS k L f d q) (hF : gFr d 2 f0 f) (hdg : decode cc pc = .ok (.ireturn, 1)) (hv : x = v) (hw : q = q2) : gW p l e R s m args below meth c k nL False (fun q => q ∈ L) s.heap (MQ below (gQM k L (dP k L d f0 (some (.int v)) q2)) args s cells slots (fun q => q ∈ L)) L cells slots f pc lv [.int x] := gx_zretM C hr hz hdg ⟨by rw [hv], by rw [← hw]; exact hW, hF⟩
theorem gx_vretD {q2 : DS} (C : gC k p s m args meth c cc own nL Ts) (hr : meth.sig.returnType = none) (hW : isDS k L f d q) (hF : gFr d 2 f0 f) (hdg : decode cc pc = .ok (.return_, 1)) (hw : q = q2) : gW p l e R s m args below meth c k nL False (fun q => q ∈ L) s.heap (MQ below (gQM k L (dP k L d f0 none q2)) args s cells slots (fun q => q ∈ L)) L cells slots f pc lv [] := gx_vretM C hr hdg ⟨rfl, by rw [← hw]; exact hW, hF⟩
end
theorem isWS_fr {a b : Nat → Nat} {w : WS} {k : gK} {L : List Nat} {f f2 : Nat → va_E} {n : Nat} (h : isWS k L f a w) (hF : gFr b n f f2) (hd : ∀ i j, i < 27 → j < n → a i ≠ b j) : isWS k L f2 a w := by
  obtain ⟨h1, h2, h3, h4, h5, h6⟩ := h
  refine ⟨h1, h2, ?_, ?_, ?_, fun r hr => ⟨?_, ?_⟩⟩
  · rw [hF _ (fun j hj => hd 0 j (by omega) hj)]; exact h3
  · rw [hF _ (fun j hj => hd 1 j (by omega) hj)]; exact h4
  · rw [hF _ (fun j hj => hd 2 j (by omega) hj)]; exact h5
  · rw [hF _ (fun j hj => hd (3 + 2 * r) j (by omega) hj)]; exact (h6 r hr).1
  · rw [hF _ (fun j hj => hd (4 + 2 * r) j (by omega) hj)]; exact (h6 r hr).2
theorem nLit (n : Nat) : (OfNat.ofNat n : Int32) = nI n := rfl
theorem nAdd {x y : Int32} {a b : Nat} (h1 : x = nI a) (h2 : y = nI b) : x + y = nI (a + b) := by rw [h1, h2, nI_add]
theorem nMul {x y : Int32} {a b : Nat} (h1 : x = nI a) (h2 : y = nI b) : x * y = nI (a * b) := by rw [h1, h2, pk_mul]
theorem nSub {x y : Int32} {a b : Nat} (h1 : x = nI a) (h2 : y = nI b) (h : b ≤ a) : x - y = nI (a - b) := by rw [h1, h2, pk_sub h]
abbrev cl (x : Int32) : Nat := x.toNatClampNeg
section
variable {p : Program} {l : Launch} {e : Env} {R : Room} {s : State} {m : MethodId} {args : Array Value} {below : List Frame} {meth : Method} {c : Code} {k : gK} {cc : ByteArray} {own : String} {nL : Nat} {Ts : List Cond} {rd : Prop} {A : Nat → Prop} {H0 : Heap} {Q : State → Prop} {L : List Nat} {cells slots : Nat} {f f0 : Nat → va_E} {pc : Nat} {lv : List (Nat × Value)} {rest st : List Value} {x : Int32}
theorem gx_topv {v : Value} (v2 : Value) (hv : v = v2) (kk : gW p l e R s m args below meth c k nL rd A H0 Q L cells slots f pc lv (v2 :: rest)) : gW p l e R s m args below meth c k nL rd A H0 Q L cells slots f pc lv (v :: rest) := by subst hv; exact kk
theorem gx_ialdN (C : gC k p s m args meth c cc own nL Ts) {a n j : Nat} {g : Nat → Int32} {i : Int32} (ha : a ∈ L) (hf : f a = gIA k n g) (hi : i = nI j) (hj : j < n) (hn : n < 2 ^ 31) (hdg : decode cc pc = .ok (.iaload, 1)) (kk : gW p l e R s m args below meth c k nL rd A H0 Q L cells slots f (pc + 1) lv (.int (g j) :: rest)) : gW p l e R s m args below meth c k nL rd A H0 Q L cells slots f pc lv (.int i :: .ref a :: rest) := by
  subst hi
  refine gx_iald C ha hf (vp_in_nI hj hn) hdg ?_
  rw [nI_clamp (by omega)]
  exact kk
theorem gx_iastN (C : gC k p s m args meth c cc own nL Ts) (hD : gD A L) {a n j : Nat} {g : Nat → Int32} {i : Int32} (ha : a ∈ L) (hf : f a = gIA k n g) (hi : i = nI j) (hj : j < n) (hn : n < 2 ^ 31) (hdg : decode cc pc = .ok (.iastore, 1)) (kk : gW p l e R s m args below meth c k nL False A H0 Q L cells slots (va_up f a (gIA k n (upd g j x))) (pc + 1) lv rest) : gW p l e R s m args below meth c k nL False A H0 Q L cells slots f pc lv (.int x :: .int i :: .ref a :: rest) := by
  subst hi
  refine gx_iast C hD ha hf (vp_in_nI hj hn) hdg ?_
  rw [nI_clamp (by omega)]
  exact kk
theorem gx_dup2 (C : gC k p s m args meth c cc own nL Ts) {va vb : Value} (hdg : decode cc pc = .ok (.dup2, 1)) (hva : va.category = 1) (hvb : vb.category = 1) (kk : gW p l e R s m args below meth c k nL rd A H0 Q L cells slots f (pc + 1) lv (va :: vb :: va :: vb :: rest)) : gW p l e R s m args below meth c k nL rd A H0 Q L cells slots f pc lv (va :: vb :: rest) := fun H locs ls hP hS hr hl => lv_dup2_11 C.1 C.2.1 hdg hva hvb (kk H locs ls hP hS hr hl)
end
