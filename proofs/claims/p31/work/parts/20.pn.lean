/-! the face: all its cells at the addresses A 0 ..: 0 itself, 1 the history, 2 its states' array, 3 the slots' array, 4 the pad, 5 its codes, from 6 on the workshop, from 33 + 27 * j on the state j, from 222 + 27 * i on the slot i -/
abbrev PS : Type := WS × (Nat → WS) × (Nat → Option WS) × (Nat → Int32) × DS
abbrev pRing (q : PS) : Nat → WS := q.2.1
abbrev pSlot (q : PS) : Nat → Option WS := q.2.2.1
abbrev pH (q : PS) : Nat → Int32 := q.2.2.2.1
abbrev pPad (q : PS) : DS := q.2.2.2.2
abbrev pwNow (q : PS) (w : WS) : PS := (w, q.2)
abbrev pwRing (q : PS) (r : Nat → WS) : PS := (q.1, r, q.2.2)
abbrev pwSlot (q : PS) (r : Nat → Option WS) : PS := (q.1, q.2.1, r, q.2.2.2)
abbrev pwH (q : PS) (r : Nat → Int32) : PS := (q.1, q.2.1, q.2.2.1, r, q.2.2.2.2)
abbrev pwPad (q : PS) (r : DS) : PS := (q.1, q.2.1, q.2.2.1, q.2.2.2.1, r)
def wA (A : Nat → Nat) (b : Nat) : Nat → Nat := fun i => A (b + i)
def pvl (q : PS) (n : Nat) : Prop := n < 222 ∨ (222 ≤ n ∧ n < 249 ∧ pSlot q 0 ≠ none) ∨ (249 ≤ n ∧ n < 276 ∧ pSlot q 1 ≠ none)
def isPN (k : gK) (L : List Nat) (f : Nat → va_E) (A : Nat → Nat) (q : PS) : Prop :=
  (∀ n, pvl q n → A n ∈ L) ∧ (∀ n m, pvl q n → pvl q m → A n = A m → n = m) ∧
  f (A 0) = .inr (6, [.ref (A 6), .ref (A 1), .ref (A 3), .ref (A 4)]) ∧
  f (A 1) = .inr (1, [.ref (A 2), .int (pH q 0), .int (pH q 1)]) ∧
  (∃ g, f (A 2) = gWA k 7 g ∧ ∀ j, j < 7 → g j = some (A (33 + 27 * j))) ∧
  (∃ g, f (A 3) = gWA k 2 g ∧ ∀ i, i < 2 → g i = (pSlot q i).map (fun _ => A (222 + 27 * i))) ∧
  isDS k L f (wA A 4) (pPad q) ∧ isWS k L f (wA A 6) q.1 ∧ (∀ j, j < 7 → isWS k L f (wA A (33 + 27 * j)) (pRing q j)) ∧
  ∀ i, i < 2 → ∀ w, pSlot q i = some w → isWS k L f (wA A (222 + 27 * i)) w
theorem isPN_in {k : gK} {L : List Nat} {f : Nat → va_E} {A : Nat → Nat} {q : PS} (h : isPN k L f A q) (n : Nat) (hn : n < 222) : A n ∈ L := h.1 n (Or.inl hn)
theorem isPN_0 {k : gK} {L : List Nat} {f : Nat → va_E} {A : Nat → Nat} {q : PS} (h : isPN k L f A q) : f (A 0) = .inr (6, [.ref (A 6), .ref (A 1), .ref (A 3), .ref (A 4)]) := h.2.2.1
theorem isPN_1 {k : gK} {L : List Nat} {f : Nat → va_E} {A : Nat → Nat} {q : PS} (h : isPN k L f A q) : f (A 1) = .inr (1, [.ref (A 2), .int (pH q 0), .int (pH q 1)]) := h.2.2.2.1
theorem isPN_pad {k : gK} {L : List Nat} {f : Nat → va_E} {A : Nat → Nat} {q : PS} (h : isPN k L f A q) : isDS k L f (wA A 4) (pPad q) := h.2.2.2.2.2.2.1
theorem isPN_now {k : gK} {L : List Nat} {f : Nat → va_E} {A : Nat → Nat} {q : PS} (h : isPN k L f A q) : isWS k L f (wA A 6) q.1 := h.2.2.2.2.2.2.2.1
theorem isPN_ring {k : gK} {L : List Nat} {f : Nat → va_E} {A : Nat → Nat} {q : PS} (h : isPN k L f A q) (j : Nat) (hj : j < 7) : isWS k L f (wA A (33 + 27 * j)) (pRing q j) := h.2.2.2.2.2.2.2.2.1 j hj
theorem isPN_slot {k : gK} {L : List Nat} {f : Nat → va_E} {A : Nat → Nat} {q : PS} (h : isPN k L f A q) (i : Nat) (hi : i < 2) {w : WS} (hs : pSlot q i = some w) : isWS k L f (wA A (222 + 27 * i)) w := h.2.2.2.2.2.2.2.2.2 i hi w hs
theorem isPN_now0 {k : gK} {L : List Nat} {f : Nat → va_E} {A : Nat → Nat} {q : PS} (h : isPN k L f A q) : f (A 6) = .inr (5, [.ref (A 9), .ref (A 7), .ref (A 8), .ref (A 29), .ref (A 31), .int (q.1.2 3), .int (q.1.2 4), .int (q.1.2 5)]) := isWS_0 (isPN_now h)
theorem isPN_pad0 {k : gK} {L : List Nat} {f : Nat → va_E} {A : Nat → Nat} {q : PS} (h : isPN k L f A q) : f (A 4) = .inr (2, [.ref (A 5), .int ((pPad q).2 0), .int ((pPad q).2 1), .int ((pPad q).2 2), .int ((pPad q).2 3), .int ((pPad q).2 4), .int ((pPad q).2 5)]) := isDS_0 (isPN_pad h)
theorem pvl_s {q : PS} {i j : Nat} (hi : i < 2) (hj : j < 27) (hs : pSlot q i ≠ none) : pvl q (222 + 27 * i + j) := by
  rcases (show i = 0 ∨ i = 1 by omega) with rfl | rfl
  · exact Or.inr (Or.inl ⟨by omega, by omega, hs⟩)
  · exact Or.inr (Or.inr ⟨by omega, by omega, hs⟩)
theorem isPN_unow {k : gK} {L : List Nat} {f : Nat → va_E} {A : Nat → Nat} {q : PS} (h : isPN k L f A q) {f2 : Nat → va_E} {w2 : WS} (hW : isWS k L f2 (wA A 6) w2) (hF : gFr (wA A 6) 27 f f2) : isPN k L f2 A (pwNow q w2) := by
  obtain ⟨h1, h2, c0, c1, c2, c3, hd, hn, hr, hs⟩ := h
  have hne : ∀ x, pvl q x → (x < 6 ∨ 6 + 27 ≤ x) → ∀ j, j < 27 → A x ≠ A (6 + j) := fun x hx hb j hj e => by have := h2 x (6 + j) hx (Or.inl (by omega)) e; omega
  have same : ∀ x, pvl q x → (x < 6 ∨ 6 + 27 ≤ x) → f2 (A x) = f (A x) := fun x hx hb => hF _ (hne x hx hb)
  have lo : ∀ x, x < 222 → pvl q x := fun x hx => Or.inl hx
  refine ⟨h1, h2, ?_, ?_, ?_, ?_, ?_, ?_, ?_, ?_⟩
  · rw [same 0 (lo 0 (by omega)) (by omega)]; exact c0
  · rw [same 1 (lo 1 (by omega)) (by omega)]; exact c1
  · rw [same 2 (lo 2 (by omega)) (by omega)]; exact c2
  · rw [same 3 (lo 3 (by omega)) (by omega)]; exact c3
  · exact isDS_fr hd hF (fun i j hi hj => hne (4 + i) (lo _ (by omega)) (by omega) j hj)
  · exact hW
  · exact fun r hr2 => isWS_fr (hr r hr2) hF (fun i j hi hj => hne (33 + 27 * r + i) (lo _ (by omega)) (by omega) j hj)
  · exact fun z hz w hw => isWS_fr (hs z hz w hw) hF (fun i j hi hj => hne (222 + 27 * z + i) (pvl_s hz hi (by rw [hw]; exact fun e => by cases e)) (by omega) j hj)
theorem isPN_uring {k : gK} {L : List Nat} {f : Nat → va_E} {A : Nat → Nat} {q : PS} (h : isPN k L f A q) {f2 : Nat → va_E} {w2 : WS} (r0 : Nat) (hr0 : r0 < 7) (hW : isWS k L f2 (wA A (33 + 27 * r0)) w2) (hF : gFr (wA A (33 + 27 * r0)) 27 f f2) : isPN k L f2 A (pwRing q (va_up (pRing q) r0 w2)) := by
  obtain ⟨h1, h2, c0, c1, c2, c3, hd, hn, hr, hs⟩ := h
  have hne : ∀ x, pvl q x → (x < (33 + 27 * r0) ∨ (33 + 27 * r0) + 27 ≤ x) → ∀ j, j < 27 → A x ≠ A ((33 + 27 * r0) + j) := fun x hx hb j hj e => by have := h2 x ((33 + 27 * r0) + j) hx (Or.inl (by omega)) e; omega
  have same : ∀ x, pvl q x → (x < (33 + 27 * r0) ∨ (33 + 27 * r0) + 27 ≤ x) → f2 (A x) = f (A x) := fun x hx hb => hF _ (hne x hx hb)
  have lo : ∀ x, x < 222 → pvl q x := fun x hx => Or.inl hx
  refine ⟨h1, h2, ?_, ?_, ?_, ?_, ?_, ?_, ?_, ?_⟩
  · rw [same 0 (lo 0 (by omega)) (by omega)]; exact c0
  · rw [same 1 (lo 1 (by omega)) (by omega)]; exact c1
  · rw [same 2 (lo 2 (by omega)) (by omega)]; exact c2
  · rw [same 3 (lo 3 (by omega)) (by omega)]; exact c3
  · exact isDS_fr hd hF (fun i j hi hj => hne (4 + i) (lo _ (by omega)) (by omega) j hj)
  · exact isWS_fr hn hF (fun i j hi hj => hne (6 + i) (lo _ (by omega)) (by omega) j hj)
  · intro r hr2
    by_cases e : r = r0
    · subst e; show isWS k L f2 _ (va_up (pRing q) r w2 r); rw [va_up_at]; exact hW
    · show isWS k L f2 _ (va_up (pRing q) r0 w2 r)
      rw [va_up_of _ e]
      exact isWS_fr (hr r hr2) hF (fun i j hi hj => hne (33 + 27 * r + i) (lo _ (by omega)) (by omega) j hj)
  · exact fun z hz w hw => isWS_fr (hs z hz w hw) hF (fun i j hi hj => hne (222 + 27 * z + i) (pvl_s hz hi (by rw [hw]; exact fun e => by cases e)) (by omega) j hj)
theorem isPN_upad {k : gK} {L : List Nat} {f : Nat → va_E} {A : Nat → Nat} {q : PS} (h : isPN k L f A q) {f2 : Nat → va_E} {d2 : DS} (hW : isDS k L f2 (wA A 4) d2) (hF : gFr (wA A 4) 2 f f2) : isPN k L f2 A (pwPad q d2) := by
  obtain ⟨h1, h2, c0, c1, c2, c3, hd, hn, hr, hs⟩ := h
  have hne : ∀ x, pvl q x → (x < 4 ∨ 4 + 2 ≤ x) → ∀ j, j < 2 → A x ≠ A (4 + j) := fun x hx hb j hj e => by have := h2 x (4 + j) hx (Or.inl (by omega)) e; omega
  have same : ∀ x, pvl q x → (x < 4 ∨ 4 + 2 ≤ x) → f2 (A x) = f (A x) := fun x hx hb => hF _ (hne x hx hb)
  have lo : ∀ x, x < 222 → pvl q x := fun x hx => Or.inl hx
  refine ⟨h1, h2, ?_, ?_, ?_, ?_, ?_, ?_, ?_, ?_⟩
  · rw [same 0 (lo 0 (by omega)) (by omega)]; exact c0
  · rw [same 1 (lo 1 (by omega)) (by omega)]; exact c1
  · rw [same 2 (lo 2 (by omega)) (by omega)]; exact c2
  · rw [same 3 (lo 3 (by omega)) (by omega)]; exact c3
  · exact hW
  · exact isWS_fr hn hF (fun i j hi hj => hne (6 + i) (lo _ (by omega)) (by omega) j hj)
  · exact fun r hr2 => isWS_fr (hr r hr2) hF (fun i j hi hj => hne (33 + 27 * r + i) (lo _ (by omega)) (by omega) j hj)
  · exact fun z hz w hw => isWS_fr (hs z hz w hw) hF (fun i j hi hj => hne (222 + 27 * z + i) (pvl_s hz hi (by rw [hw]; exact fun e => by cases e)) (by omega) j hj)
theorem isPN_uh {k : gK} {L : List Nat} {f : Nat → va_E} {A : Nat → Nat} {q : PS} (h : isPN k L f A q) {f2 : Nat → va_E} {h2 : Nat → Int32} (hW : f2 (A 1) = .inr (1, [.ref (A 2), .int (h2 0), .int (h2 1)])) (hF : gFr (wA A 1) 1 f f2) : isPN k L f2 A (pwH q h2) := by
  obtain ⟨h1, h2, c0, c1, c2, c3, hd, hn, hr, hs⟩ := h
  have hne : ∀ x, pvl q x → (x < 1 ∨ 1 + 1 ≤ x) → ∀ j, j < 1 → A x ≠ A (1 + j) := fun x hx hb j hj e => by have := h2 x (1 + j) hx (Or.inl (by omega)) e; omega
  have same : ∀ x, pvl q x → (x < 1 ∨ 1 + 1 ≤ x) → f2 (A x) = f (A x) := fun x hx hb => hF _ (hne x hx hb)
  have lo : ∀ x, x < 222 → pvl q x := fun x hx => Or.inl hx
  refine ⟨h1, h2, ?_, ?_, ?_, ?_, ?_, ?_, ?_, ?_⟩
  · rw [same 0 (lo 0 (by omega)) (by omega)]; exact c0
  · exact hW
  · rw [same 2 (lo 2 (by omega)) (by omega)]; exact c2
  · rw [same 3 (lo 3 (by omega)) (by omega)]; exact c3
  · exact isDS_fr hd hF (fun i j hi hj => hne (4 + i) (lo _ (by omega)) (by omega) j hj)
  · exact isWS_fr hn hF (fun i j hi hj => hne (6 + i) (lo _ (by omega)) (by omega) j hj)
  · exact fun r hr2 => isWS_fr (hr r hr2) hF (fun i j hi hj => hne (33 + 27 * r + i) (lo _ (by omega)) (by omega) j hj)
  · exact fun z hz w hw => isWS_fr (hs z hz w hw) hF (fun i j hi hj => hne (222 + 27 * z + i) (pvl_s hz hi (by rw [hw]; exact fun e => by cases e)) (by omega) j hj)
theorem pvl_up {q : PS} {i0 : Nat} {w w2 : WS} (hs0 : pSlot q i0 = some w) (n : Nat) : pvl (pwSlot q (va_up (pSlot q) i0 (some w2))) n ↔ pvl q n := by
  have e : ∀ i, (va_up (pSlot q) i0 (some w2)) i ≠ none ↔ pSlot q i ≠ none := by
    intro i
    by_cases c : i = i0
    · subst c; rw [va_up_at, hs0]; simp
    · rw [va_up_of _ c]
  show (n < 222 ∨ (222 ≤ n ∧ n < 249 ∧ (va_up (pSlot q) i0 (some w2)) 0 ≠ none) ∨ (249 ≤ n ∧ n < 276 ∧ (va_up (pSlot q) i0 (some w2)) 1 ≠ none)) ↔ _
  rw [e 0, e 1]
  exact Iff.rfl
theorem isPN_uslot {k : gK} {L : List Nat} {f : Nat → va_E} {A : Nat → Nat} {q : PS} (h : isPN k L f A q) {f2 : Nat → va_E} {w2 : WS} (i0 : Nat) (hi0 : i0 < 2) {w : WS} (hs0 : pSlot q i0 = some w) (hW : isWS k L f2 (wA A (222 + 27 * i0)) w2) (hF : gFr (wA A (222 + 27 * i0)) 27 f f2) : isPN k L f2 A (pwSlot q (va_up (pSlot q) i0 (some w2))) := by
  obtain ⟨h1, h2, c0, c1, c2, c3, hd, hn, hr, hs⟩ := h
  have hne : ∀ x, pvl q x → (x < (222 + 27 * i0) ∨ (222 + 27 * i0) + 27 ≤ x) → ∀ j, j < 27 → A x ≠ A ((222 + 27 * i0) + j) := fun x hx hb j hj e => by have := h2 x ((222 + 27 * i0) + j) hx (pvl_s hi0 hj (by rw [hs0]; exact fun e => by cases e)) e; omega
  have same : ∀ x, pvl q x → (x < (222 + 27 * i0) ∨ (222 + 27 * i0) + 27 ≤ x) → f2 (A x) = f (A x) := fun x hx hb => hF _ (hne x hx hb)
  have lo : ∀ x, x < 222 → pvl q x := fun x hx => Or.inl hx
  refine ⟨fun n hn => h1 n ((pvl_up hs0 n).mp hn), fun n m hn hm => h2 n m ((pvl_up hs0 n).mp hn) ((pvl_up hs0 m).mp hm), ?_, ?_, ?_, ?_, ?_, ?_, ?_, ?_⟩
  · rw [same 0 (lo 0 (by omega)) (by omega)]; exact c0
  · rw [same 1 (lo 1 (by omega)) (by omega)]; exact c1
  · rw [same 2 (lo 2 (by omega)) (by omega)]; exact c2
  · obtain ⟨g, g1, g2⟩ := c3
    refine ⟨g, by rw [same 3 (lo 3 (by omega)) (by omega)]; exact g1, fun i hi => ?_⟩
    rw [g2 i hi]
    show _ = ((va_up (pSlot q) i0 (some w2)) i).map _
    by_cases c : i = i0
    · subst c; rw [va_up_at, hs0]; rfl
    · rw [va_up_of _ c]
  · exact isDS_fr hd hF (fun i j hi hj => hne (4 + i) (lo _ (by omega)) (by omega) j hj)
  · exact isWS_fr hn hF (fun i j hi hj => hne (6 + i) (lo _ (by omega)) (by omega) j hj)
  · exact fun r hr2 => isWS_fr (hr r hr2) hF (fun i j hi hj => hne (33 + 27 * r + i) (lo _ (by omega)) (by omega) j hj)
  · intro z hz w3 hw
    have hw : (va_up (pSlot q) i0 (some w2)) z = some w3 := hw
    by_cases c : z = i0
    · subst c
      rw [va_up_at] at hw
      cases hw
      exact hW
    rw [va_up_of _ c] at hw
    exact isWS_fr (hs z hz w3 hw) hF (fun i j hi hj => hne (222 + 27 * z + i) (pvl_s hz hi (by rw [hw]; exact fun e => by cases e)) (by omega) j hj)
section
variable {p : Program} {l : Launch} {e : Env} {R : Room} {s : State} {m : MethodId} {args : Array Value} {below : List Frame} {meth : Method} {c : Code} {k : gK} {cc : ByteArray} {own : String} {nL : Nat} {Ts : List Cond} {rd : Prop} {AA : Nat → Prop} {H0 : Heap} {Q : State → Prop} {L : List Nat} {cells slots : Nat} {f f0 : Nat → va_E} {pc : Nat} {lv : List (Nat × Value)} {rest st : List Value} {A : Nat → Nat} {q : PS} {x : Int32}
def pP (k : gK) (L : List Nat) (A : Nat → Nat) (v : Option Value) (q : PS) : Option Value → (Nat → va_E) → Prop := fun v2 f2 => v2 = v ∧ isPN k L f2 A q
theorem gx_callNi {w2 : WS} (C : gC k p s m args meth c cc own nL Ts) (hD : gD AA L) {y : MethodName} {bytes : ByteArray} {maxL n index : Nat} {ret : Option FieldType} {ws : List Cond} {rm : Room} {As : List Value} {b ci : Nat} {qc : vw_C} {fs : List Value} (hP : isPN k L f A q) (hM : kM l k L f y ws rm (.ref b :: As) (wP k L (wA A 6) f (some (.int x)) w2)) (hb : b ∈ L) (hfb : f b = .inr (ci, fs)) (hc : vwCl[ci]? = some qc) (cw : CallW R s args own qc.1 index y bytes maxL ret ws rm 0 0 n) (hn : As.length = n) (hst : st = As.reverse ++ .ref b :: rest) (hrm : (rest.map fun v => v.category).sum ≤ 8) (hzz : cells ≤ R.cells ∧ slots ≤ R.slots) (hdg : decode cc pc = .ok (.invokevirtual index, 3)) (kk : ∀ f2, isPN k L f2 A (pwNow q w2) → gW p l e R s m args below meth c k nL False AA H0 Q L cells slots f2 (pc + 3) lv (.int x :: rest)) : gW p l e R s m args below meth c k nL False AA H0 Q L cells slots f pc lv st :=
  gx_callM C hD hM hb hfb hc cw hn hst hrm hzz hdg (fun v f2 hp => by obtain ⟨rfl, h1, h2⟩ := hp; exact kk f2 (isPN_unow hP h1 h2))
theorem gx_callTi {d2 : DS} (C : gC k p s m args meth c cc own nL Ts) (hD : gD AA L) {y : MethodName} {bytes : ByteArray} {maxL n index : Nat} {ret : Option FieldType} {ws : List Cond} {rm : Room} {As : List Value} {b ci : Nat} {qc : vw_C} {fs : List Value} (hP : isPN k L f A q) (hM : kM l k L f y ws rm (.ref b :: As) (dP k L (wA A 4) f (some (.int x)) d2)) (hb : b ∈ L) (hfb : f b = .inr (ci, fs)) (hc : vwCl[ci]? = some qc) (cw : CallW R s args own qc.1 index y bytes maxL ret ws rm 0 0 n) (hn : As.length = n) (hst : st = As.reverse ++ .ref b :: rest) (hrm : (rest.map fun v => v.category).sum ≤ 8) (hzz : cells ≤ R.cells ∧ slots ≤ R.slots) (hdg : decode cc pc = .ok (.invokevirtual index, 3)) (kk : ∀ f2, isPN k L f2 A (pwPad q d2) → gW p l e R s m args below meth c k nL False AA H0 Q L cells slots f2 (pc + 3) lv (.int x :: rest)) : gW p l e R s m args below meth c k nL False AA H0 Q L cells slots f pc lv st :=
  gx_callM C hD hM hb hfb hc cw hn hst hrm hzz hdg (fun v f2 hp => by obtain ⟨rfl, h1, h2⟩ := hp; exact kk f2 (isPN_upad hP h1 h2))
theorem gx_callPi {q2 : PS} (C : gC k p s m args meth c cc own nL Ts) (hD : gD AA L) {y : MethodName} {bytes : ByteArray} {maxL n index : Nat} {ret : Option FieldType} {ws : List Cond} {rm : Room} {As : List Value} {b ci : Nat} {qc : vw_C} {fs : List Value} (hM : kM l k L f y ws rm (.ref b :: As) (pP k L A (some (.int x)) q2)) (hb : b ∈ L) (hfb : f b = .inr (ci, fs)) (hc : vwCl[ci]? = some qc) (cw : CallW R s args own qc.1 index y bytes maxL ret ws rm 0 0 n) (hn : As.length = n) (hst : st = As.reverse ++ .ref b :: rest) (hrm : (rest.map fun v => v.category).sum ≤ 8) (hzz : cells ≤ R.cells ∧ slots ≤ R.slots) (hdg : decode cc pc = .ok (.invokevirtual index, 3)) (kk : ∀ f2, isPN k L f2 A q2 → gW p l e R s m args below meth c k nL False AA H0 Q L cells slots f2 (pc + 3) lv (.int x :: rest)) : gW p l e R s m args below meth c k nL False AA H0 Q L cells slots f pc lv st :=
  gx_callM C hD hM hb hfb hc cw hn hst hrm hzz hdg (fun v f2 hp => by obtain ⟨rfl, h1⟩ := hp; exact kk f2 h1)
theorem gx_callNv {w2 : WS} (C : gC k p s m args meth c cc own nL Ts) (hD : gD AA L) {y : MethodName} {bytes : ByteArray} {maxL n index : Nat} {ret : Option FieldType} {ws : List Cond} {rm : Room} {As : List Value} {b ci : Nat} {qc : vw_C} {fs : List Value} (hP : isPN k L f A q) (hM : kM l k L f y ws rm (.ref b :: As) (wP k L (wA A 6) f none w2)) (hb : b ∈ L) (hfb : f b = .inr (ci, fs)) (hc : vwCl[ci]? = some qc) (cw : CallW R s args own qc.1 index y bytes maxL ret ws rm 0 0 n) (hn : As.length = n) (hst : st = As.reverse ++ .ref b :: rest) (hrm : (rest.map fun v => v.category).sum ≤ 8) (hzz : cells ≤ R.cells ∧ slots ≤ R.slots) (hdg : decode cc pc = .ok (.invokevirtual index, 3)) (kk : ∀ f2, isPN k L f2 A (pwNow q w2) → gW p l e R s m args below meth c k nL False AA H0 Q L cells slots f2 (pc + 3) lv rest) : gW p l e R s m args below meth c k nL False AA H0 Q L cells slots f pc lv st :=
  gx_callM C hD hM hb hfb hc cw hn hst hrm hzz hdg (fun v f2 hp => by obtain ⟨rfl, h1, h2⟩ := hp; exact kk f2 (isPN_unow hP h1 h2))
theorem gx_callTv {d2 : DS} (C : gC k p s m args meth c cc own nL Ts) (hD : gD AA L) {y : MethodName} {bytes : ByteArray} {maxL n index : Nat} {ret : Option FieldType} {ws : List Cond} {rm : Room} {As : List Value} {b ci : Nat} {qc : vw_C} {fs : List Value} (hP : isPN k L f A q) (hM : kM l k L f y ws rm (.ref b :: As) (dP k L (wA A 4) f none d2)) (hb : b ∈ L) (hfb : f b = .inr (ci, fs)) (hc : vwCl[ci]? = some qc) (cw : CallW R s args own qc.1 index y bytes maxL ret ws rm 0 0 n) (hn : As.length = n) (hst : st = As.reverse ++ .ref b :: rest) (hrm : (rest.map fun v => v.category).sum ≤ 8) (hzz : cells ≤ R.cells ∧ slots ≤ R.slots) (hdg : decode cc pc = .ok (.invokevirtual index, 3)) (kk : ∀ f2, isPN k L f2 A (pwPad q d2) → gW p l e R s m args below meth c k nL False AA H0 Q L cells slots f2 (pc + 3) lv rest) : gW p l e R s m args below meth c k nL False AA H0 Q L cells slots f pc lv st :=
  gx_callM C hD hM hb hfb hc cw hn hst hrm hzz hdg (fun v f2 hp => by obtain ⟨rfl, h1, h2⟩ := hp; exact kk f2 (isPN_upad hP h1 h2))
theorem gx_callPv {q2 : PS} (C : gC k p s m args meth c cc own nL Ts) (hD : gD AA L) {y : MethodName} {bytes : ByteArray} {maxL n index : Nat} {ret : Option FieldType} {ws : List Cond} {rm : Room} {As : List Value} {b ci : Nat} {qc : vw_C} {fs : List Value} (hM : kM l k L f y ws rm (.ref b :: As) (pP k L A none q2)) (hb : b ∈ L) (hfb : f b = .inr (ci, fs)) (hc : vwCl[ci]? = some qc) (cw : CallW R s args own qc.1 index y bytes maxL ret ws rm 0 0 n) (hn : As.length = n) (hst : st = As.reverse ++ .ref b :: rest) (hrm : (rest.map fun v => v.category).sum ≤ 8) (hzz : cells ≤ R.cells ∧ slots ≤ R.slots) (hdg : decode cc pc = .ok (.invokevirtual index, 3)) (kk : ∀ f2, isPN k L f2 A q2 → gW p l e R s m args below meth c k nL False AA H0 Q L cells slots f2 (pc + 3) lv rest) : gW p l e R s m args below meth c k nL False AA H0 Q L cells slots f pc lv st :=
  gx_callM C hD hM hb hfb hc cw hn hst hrm hzz hdg (fun v f2 hp => by obtain ⟨rfl, h1⟩ := hp; exact kk f2 h1)
theorem gx_callR1 {w2 : WS} (r0 : Nat) (hr0 : r0 < 7) (C : gC k p s m args meth c cc own nL Ts) (hD : gD AA L) {y : MethodName} {bytes : ByteArray} {maxL n index : Nat} {ret : Option FieldType} {ws : List Cond} {rm : Room} {As : List Value} {b ci : Nat} {qc : vw_C} {fs : List Value} (hP : isPN k L f A q) (hM : kM l k L f y ws rm (.ref b :: As) (wP k L (wA A (33 + 27 * r0)) f none w2)) (hb : b ∈ L) (hfb : f b = .inr (ci, fs)) (hc : vwCl[ci]? = some qc) (cw : CallW R s args own qc.1 index y bytes maxL ret ws rm 0 0 n) (hn : As.length = n) (hst : st = As.reverse ++ .ref b :: rest) (hrm : (rest.map fun v => v.category).sum ≤ 8) (hzz : cells ≤ R.cells ∧ slots ≤ R.slots) (hdg : decode cc pc = .ok (.invokevirtual index, 3)) (kk : ∀ f2, isPN k L f2 A (pwRing q (va_up (pRing q) r0 w2)) → gW p l e R s m args below meth c k nL False AA H0 Q L cells slots f2 (pc + 3) lv rest) : gW p l e R s m args below meth c k nL False AA H0 Q L cells slots f pc lv st :=
  gx_callM C hD hM hb hfb hc cw hn hst hrm hzz hdg (fun v f2 hp => by obtain ⟨rfl, h1, h2⟩ := hp; exact kk f2 (isPN_uring hP r0 hr0 h1 h2))
theorem gx_callS1 {w w2 : WS} (i0 : Nat) (hi0 : i0 < 2) (hs0 : pSlot q i0 = some w) (C : gC k p s m args meth c cc own nL Ts) (hD : gD AA L) {y : MethodName} {bytes : ByteArray} {maxL n index : Nat} {ret : Option FieldType} {ws : List Cond} {rm : Room} {As : List Value} {b ci : Nat} {qc : vw_C} {fs : List Value} (hP : isPN k L f A q) (hM : kM l k L f y ws rm (.ref b :: As) (wP k L (wA A (222 + 27 * i0)) f none w2)) (hb : b ∈ L) (hfb : f b = .inr (ci, fs)) (hc : vwCl[ci]? = some qc) (cw : CallW R s args own qc.1 index y bytes maxL ret ws rm 0 0 n) (hn : As.length = n) (hst : st = As.reverse ++ .ref b :: rest) (hrm : (rest.map fun v => v.category).sum ≤ 8) (hzz : cells ≤ R.cells ∧ slots ≤ R.slots) (hdg : decode cc pc = .ok (.invokevirtual index, 3)) (kk : ∀ f2, isPN k L f2 A (pwSlot q (va_up (pSlot q) i0 (some w2))) → gW p l e R s m args below meth c k nL False AA H0 Q L cells slots f2 (pc + 3) lv rest) : gW p l e R s m args below meth c k nL False AA H0 Q L cells slots f pc lv st :=
  gx_callM C hD hM hb hfb hc cw hn hst hrm hzz hdg (fun v f2 hp => by obtain ⟨rfl, h1, h2⟩ := hp; exact kk f2 (isPN_uslot hP i0 hi0 hs0 h1 h2))
theorem gx_iretP {q2 : PS} {v : Int32} (C : gC k p s m args meth c cc own nL Ts) (hr : meth.sig.returnType = some .int) (hP : isPN k L f A q) (hdg : decode cc pc = .ok (.ireturn, 1)) (hv : x = v) (hw : q = q2) : gW p l e R s m args below meth c k nL False (fun z => z ∈ L) s.heap (MQ below (gQM k L (pP k L A (some (.int v)) q2)) args s cells slots (fun z => z ∈ L)) L cells slots f pc lv [.int x] := gx_iretM C hr hdg ⟨by rw [hv], by rw [← hw]; exact hP⟩
theorem gx_vretP {q2 : PS} (C : gC k p s m args meth c cc own nL Ts) (hr : meth.sig.returnType = none) (hP : isPN k L f A q) (hdg : decode cc pc = .ok (.return_, 1)) (hw : q = q2) : gW p l e R s m args below meth c k nL False (fun z => z ∈ L) s.heap (MQ below (gQM k L (pP k L A none q2)) args s cells slots (fun z => z ∈ L)) L cells slots f pc lv [] := gx_vretM C hr hdg ⟨rfl, by rw [← hw]; exact hP⟩
theorem gx_H0 (hP : isPN k L f A q) (kk : ∀ f2, isPN k L f2 A (pwH q (va_up (pH q) 0 x)) → gW p l e R s m args below meth c k nL rd AA H0 Q L cells slots f2 pc lv st) : gW p l e R s m args below meth c k nL rd AA H0 Q L cells slots (va_up f (A 1) (.inr (1, [.ref (A 2), .int x, .int (pH q 1)]))) pc lv st := kk _ (isPN_uh hP (va_up_at _ _ _) (fun z hz => va_up_of _ (hz 0 (by omega)) _))
theorem gx_H1 (hP : isPN k L f A q) (kk : ∀ f2, isPN k L f2 A (pwH q (va_up (pH q) 1 x)) → gW p l e R s m args below meth c k nL rd AA H0 Q L cells slots f2 pc lv st) : gW p l e R s m args below meth c k nL rd AA H0 Q L cells slots (va_up f (A 1) (.inr (1, [.ref (A 2), .int (pH q 0), .int x]))) pc lv st := kk _ (isPN_uh hP (va_up_at _ _ _) (fun z hz => va_up_of _ (hz 0 (by omega)) _))
end
