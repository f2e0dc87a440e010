/-! methods that make cells: the pool grows by a list of new addresses -/
def gQA (k : gK) (L : List Nat) (P : Option Value → List Nat → (Nat → va_E) → Prop) (sz : Nat) : Array Value → State → Outcome → State → Prop := fun _ st o t => ∃ (v : Option Value) (N : List Nat) (f2 : Nat → va_E), o = .returned v ∧ P v N f2 ∧ va_P k.1 vwCl (va_pl (L ++ N) f2) t.heap ∧ (L ++ N).Nodup ∧ (∀ q ∈ N, sz ≤ q) ∧ va_F (fun q => q ∈ L) st t
def gPreA (k : gK) (L : List Nat) (f : Nat → va_E) (sz : Nat) (As : List Value) : Array Value → State → Prop := va_Pc As (fun U => U.heap.size = sz ∧ va_P k.1 vwCl (va_pl L f) U.heap ∧ gV k U ∧ va_AO RX5 U)
def kA (l : Launch) (k : gK) (L : List Nat) (f : Nat → va_E) (y : MethodName) (ws : List Cond) (rm : Room) (As : List Value) (mc ms : Nat) (P : Option Value → List Nat → (Nat → va_E) → Prop) : Prop := ∀ sz, Met l y ws rm (gPreA k L f sz As) (gQA k L P sz) mc ms (fun q => q ∈ L ∨ sz ≤ q)
theorem gPreA_blind {k : gK} {L : List Nat} {f : Nat → va_E} {sz : Nat} {As : List Value} : FrameBlind (gPreA k L f sz As) := fun a U g mk h => ⟨h.1, h.2.1, h.2.2.1, gV_calling h.2.2.2.1, va_AO.moved (u := U) (U := U.calling g mk a) (Vm.Alike.refl U.vm) h.2.2.2.2⟩
section AL
variable {p : Program} {l : Launch} {e : Env} {R : Room} {s : State} {m : MethodId} {args : Array Value} {below : List Frame} {meth : Method} {c : Code} {k : gK} {cc : ByteArray} {own : String} {nL : Nat} {Ts : List Cond} {rd : Prop} {A : Nat → Prop} {H0 : Heap} {Q : State → Prop} {L : List Nat} {cells slots : Nat} {f f0 : Nat → va_E} {pc : Nat} {lv : List (Nat × Value)} {rest st : List Value} {x : Int32}
theorem gPreSA {H : Heap} {As : List Value} (hV : gV k s) (hAO : va_AO RX5 s) (hP : va_P k.1 vwCl (va_pl L f) H) : PreS s H (gPreA k L f H.size As) As :=
  ⟨gPreA_blind, fun U hU hW => ⟨rfl, by rw [hU], by rw [hU]; exact hP, gV_warm hW hV, va_AO.moved hW.alike hAO⟩⟩
theorem gPreVA {H : Heap} {b ci : Nat} {q : vw_C} {fs As : List Value} (hV : gV k s) (hAO : va_AO RX5 s) (hP : va_P k.1 vwCl (va_pl L f) H) (hb : b ∈ L) (hfb : f b = .inr (ci, fs)) (hc : vwCl[ci]? = some q) : PreV s H q.1 b (gPreA k L f H.size (.ref b :: As)) As :=
  ⟨gPreA_blind, gRecv hV hP hb hfb hc, fun U hU hW => ⟨rfl, by rw [hU], by rw [hU]; exact hP, gV_warm hW hV, va_AO.moved hW.alike hAO⟩⟩
theorem kA_of {y : MethodName} {ws ws' : List Cond} {rm : Room} {As : List Value} {P : Option Value → List Nat → (Nat → va_E) → Prop} {maxL mc ms : Nat} {ret : Option FieldType} (hL : L.Nodup) (hy : plainName y.cls = true) (hw : ws = Cond.code y cc maxL ret :: ws') (hlen : (lg_sl As).length ≤ maxL)
    (body : ∀ (p : Program) (e : Env) (s : State) (m : MethodId) (args : Array Value) (below : List Frame) (meth : Method) (c : Code), gC k p s m args meth c cc y.cls maxL ws → meth.sig.returnType = ret → meth.name = y.name → va_AO RX5 s → gD (fun q => q ∈ L ∨ s.heap.size ≤ q) L →
      gW p l e (headSpec ws rm).room s m args below meth c k maxL False (fun q => q ∈ L ∨ s.heap.size ≤ q) s.heap (MQ below (gQA k L P s.heap.size) args s mc ms (fun q => q ∈ L ∨ s.heap.size ≤ q)) L 0 0 f 0 (lv_args 0 As) []) : kA l k L f y ws rm As mc ms P := by
  intro sz
  refine Met.ofW hy hw ?_
  intro p e s m args below meth c s₁ B hml hv
  obtain ⟨rfl, rfl, hP, hV, hAO⟩ := hv
  have hts := atoms_spec (ws := ws) B.pre
  rw [lg_entry_eq]
  exact body p e s m _ below meth c ⟨B.exec, B.bytes, hml, findClass_of_methodNamed B.named, hts, hV, B.notSynchronized⟩ B.returns (name_of_methodNamed B.named B.method).1 hAO ⟨hL, fun _ h => Or.inl h⟩ s.heap [] _ hP va_S.rf (fun z => z.elim) (lv_entry As hlen)
theorem gCallA {H : Heap} {locs : List Loc} {ls : Array Slot} {P : Option Value → List Nat → (Nat → va_E) → Prop} {a : Array Value} {st0 : List Value} {mc ms : Nat} (hD : gD A L) (hA : ∀ q, H0.size ≤ q → A q) (hS : va_S A H0 H locs) (hl : lv_has ls nL lv) (hr : CallRun p l e R s m args below meth c H locs cells slots mc ms (F0 m pc ls st0) rest (gQA k L P H.size a) (fun q => q ∈ L ∨ H.size ≤ q))
    (kk : ∀ (v : Option Value) (N : List Nat) (f2 : Nat → va_E), P v N f2 → gD A (L ++ N) → gW p l e R s m args below meth c k nL False A H0 Q (L ++ N) (cells + mc) (slots + ms) f2 (pc + 3) lv (v.toList ++ rest)) : W p l e R s m args below meth c H locs cells slots Q (F0 m pc ls st0) := by
  intro T hT X
  obtain ⟨v, st₀, t, T', L1, h0, X', hL, e1, ⟨v2, N, f2, hv, hp, hP2, hN, hNz, hF⟩, st⟩ := hr T hT X
  cases hv
  obtain ⟨hz, hk⟩ := hF
  rw [h0] at hz hk
  have hA2 : ∀ q, q ∈ L ∨ H.size ≤ q → A q := fun q h => h.elim (hD.2 q) (fun z => hA q (Nat.le_trans hS.1 z))
  obtain ⟨t2, a1, b1⟩ := kk v N f2 hp ⟨hN, fun q hq => (List.mem_append.mp hq).elim (hD.2 q) (fun h => hA2 q (Or.inr (hNz q h)))⟩ t.heap (locs ++ L1) ls hP2 ⟨Nat.le_trans hS.1 hz, fun q h1 h2 => (hk q (Nat.lt_of_lt_of_le h1 hS.1) (fun z => h2 (hD.2 q z))).trans (hS.2.1 q h1 h2), fun q hq => by
      rcases List.mem_append.mp hq with h | h
      · exact hS.2.2 q h
      · exact hA2 _ (hL q h)⟩ (fun z => z.elim) hl T' e1 X'
  exact ⟨t2, st t2 a1, b1⟩
theorem gx_callI (C : gC k p s m args meth c cc own nL Ts) (hAO : va_AO RX5 s) (hD : gD A L) (hA : ∀ q, H0.size ≤ q → A q) {y : MethodName} {bytes : ByteArray} {maxL n index mc ms : Nat} {ws : List Cond} {rm : Room} {As : List Value} {b : Nat} {P : Option Value → List Nat → (Nat → va_E) → Prop} (hM : kA l k L f y ws rm (.ref b :: As) mc ms P) (cw : CallB R s args own index y bytes maxL none ws rm mc ms n ∧ y.name = "<init>" ∧ (Cond.instanceMethod y).before args s = true) (hn : As.length = n) (hst : st = As.reverse ++ .ref b :: rest) (hrm : (rest.map fun v => v.category).sum ≤ 8) (hzz : cells + mc ≤ R.cells ∧ slots + ms ≤ R.slots) (hdg : decode cc pc = .ok (.invokespecial index, 3)) (kk : ∀ (v : Option Value) (N : List Nat) (f2 : Nat → va_E), P v N f2 → gD A (L ++ N) → gW p l e R s m args below meth c k nL False A H0 Q (L ++ N) (cells + mc) (slots + ms) f2 (pc + 3) lv (v.toList ++ rest)) : gW p l e R s m args below meth c k nL False A H0 Q L cells slots f pc lv st := by
  intro H locs ls hP hS hr hl
  subst hst
  exact gCallA hD hA hS hl (gRunCall (va_runI (gFix C) (hM H.size) cw (gPreSA C.2.2.2.2.2.1 hAO hP) rfl hn hl.1 rfl (lv_room hrm) hdg hzz)) kk
theorem gx_callIN (C : gC k p s m args meth c cc own nL Ts) (hAO : va_AO RX5 s) (hD : gD A L) (hA : ∀ q, H0.size ≤ q → A q) {y : MethodName} {bytes : ByteArray} {maxL n index mc ms : Nat} {host : String} {ws : List Cond} {rm : Room} {As : List Value} {b : Nat} {P : Option Value → List Nat → (Nat → va_E) → Prop} (hM : kA l k L f y ws rm (.ref b :: As) mc ms P) (cw : va_CN R s args own index y host bytes maxL none ws rm mc ms n ∧ y.name = "<init>" ∧ (Cond.instanceMethod y).before args s = true) (hn : As.length = n) (hst : st = As.reverse ++ .ref b :: rest) (hrm : (rest.map fun v => v.category).sum ≤ 8) (hzz : cells + mc ≤ R.cells ∧ slots + ms ≤ R.slots) (hdg : decode cc pc = .ok (.invokespecial index, 3)) (kk : ∀ (v : Option Value) (N : List Nat) (f2 : Nat → va_E), P v N f2 → gD A (L ++ N) → gW p l e R s m args below meth c k nL False A H0 Q (L ++ N) (cells + mc) (slots + ms) f2 (pc + 3) lv (v.toList ++ rest)) : gW p l e R s m args below meth c k nL False A H0 Q L cells slots f pc lv st := by
  intro H locs ls hP hS hr hl
  subst hst
  exact gCallA hD hA hS hl (gRunCall (va_runIN (gFix C) (hM H.size) cw (gPreSA C.2.2.2.2.2.1 hAO hP) rfl hn hl.1 rfl (lv_room hrm) hdg hzz)) kk
theorem gx_callVA (C : gC k p s m args meth c cc own nL Ts) (hAO : va_AO RX5 s) (hD : gD A L) (hA : ∀ q, H0.size ≤ q → A q) {y : MethodName} {bytes : ByteArray} {maxL n index mc ms : Nat} {ret : Option FieldType} {ws : List Cond} {rm : Room} {As : List Value} {b ci : Nat} {q : vw_C} {fs : List Value} {P : Option Value → List Nat → (Nat → va_E) → Prop} (hM : kA l k L f y ws rm (.ref b :: As) mc ms P) (hb : b ∈ L) (hfb : f b = .inr (ci, fs)) (hc : vwCl[ci]? = some q) (cw : CallW R s args own q.1 index y bytes maxL ret ws rm mc ms n) (hn : As.length = n) (hst : st = As.reverse ++ .ref b :: rest) (hrm : (rest.map fun v => v.category).sum ≤ 8) (hzz : cells + mc ≤ R.cells ∧ slots + ms ≤ R.slots) (hdg : decode cc pc = .ok (.invokevirtual index, 3)) (kk : ∀ (v : Option Value) (N : List Nat) (f2 : Nat → va_E), P v N f2 → gD A (L ++ N) → gW p l e R s m args below meth c k nL False A H0 Q (L ++ N) (cells + mc) (slots + ms) f2 (pc + 3) lv (v.toList ++ rest)) : gW p l e R s m args below meth c k nL False A H0 Q L cells slots f pc lv st := by
  intro H locs ls hP hS hr hl
  subst hst
  exact gCallA hD hA hS hl (W.runV (gFix C) (hM H.size) cw (gPreVA C.2.2.2.2.2.1 hAO hP hb hfb hc) rfl hn hl.1 rfl (lv_room hrm) hdg hzz) kk
theorem gD_push {A : Nat → Prop} {L : List Nat} {f : Nat → va_E} {q : Nat} {ee : va_E} (h : va_D A (va_pl L f ++ [(q, ee)])) : q ∉ L := by
  intro hq
  obtain ⟨i, hi⟩ := gGet (f := f) hq
  have hl := (List.getElem?_eq_some_iff.mp hi).1
  have h2 : (va_pl L f ++ [(q, ee)])[(va_pl L f).length]? = some (q, ee) := by simp
  have h1 : (va_pl L f ++ [(q, ee)])[i]? = some (q, f q) := by rw [List.getElem?_append_left hl]; exact hi
  have := h.1 _ _ _ _ h1 h2 rfl
  omega
theorem gD_app {A : Nat → Prop} {L : List Nat} {f : Nat → va_E} {q : Nat} {ee : va_E} (hD : gD A L) (h : va_D A (va_pl L f ++ [(q, ee)])) : gD A (L ++ [q]) := by
  have hq := gD_push h
  refine ⟨List.nodup_append.mpr ⟨hD.1, List.pairwise_singleton _ _, fun a ha b hb => ?_⟩, fun a ha => ?_⟩
  · rw [List.mem_singleton.mp hb]; exact fun z => hq (z ▸ ha)
  · rcases List.mem_append.mp ha with h1 | h1
    · exact hD.2 a h1
    · rw [List.mem_singleton.mp h1]
      exact h.2 (va_pl L f).length (q, ee) (by simp)
theorem gD_ne {A : Nat → Prop} {L N : List Nat} (h : gD A (L ++ N)) {x q : Nat} (hx : x ∈ L) (hq : q ∈ N) : x ≠ q := (List.nodup_append.mp h.1).2.2 x hx q hq
theorem gx_new (C : gC k p s m args meth c cc own nL Ts) (hD : gD A L) (hA : ∀ q, H0.size ≤ q → A q) {ci N index : Nat} {Cn : String} {T : u_T} {fs : List Value} {ty : Nat → FieldType} (hty : ∀ k, k < N → parseFieldDescriptor (T k).2.2.1 = some (ty k)) (hc : vwCl[ci]? = some (Cn, T, N)) (hin : ∀ w ∈ u_ws Cn T N, w ∈ Ts) (h1 : Cond.classLink own index Cn ∈ Ts) (h2 : Cond.instantiable Cn N ∈ Ts) (h3 : Cond.initialized Cn ∈ Ts) (hfs : ∀ j, j < N → defaultValue (ty j) = vp_V fs j) (hcells : cells + 1 ≤ R.cells) (hslots : slots + N ≤ R.slots) (hdg : decode cc pc = .ok (.new index, 3))
    (kk : ∀ q, gD A (L ++ [q]) → gW p l e R s m args below meth c k nL False A H0 Q (L ++ [q]) (cells + 1) (slots + N) (va_up f q (.inr (ci, fs))) (pc + 3) lv (.ref q :: rest)) : gW p l e R s m args below meth c k nL False A H0 Q L cells slots f pc lv rest := by
  intro H locs ls hP hS hr hl
  refine va_new C.1 C.2.1 C.2.2.2.2.1 hin ty hty C.2.2.2.1 (C.2.2.2.2.1 _ h1) (C.2.2.2.2.1 _ h2) (C.2.2.2.2.1 _ h3) C.2.2.2.2.2.1.1 hP (gD_D f hD) hS hA hc hfs hcells hslots hdg (fun q H1 hP1 hD1 hS1 => ?_)
  rw [va_pl_push (gD_push hD1)] at hP1
  exact kk q (gD_app hD hD1) H1 locs ls hP1 hS1 (fun z => z.elim) hl
theorem gRA {ty : FieldType} {cA cB : ClassId} (h1 : va_RA s cA ty) (h2 : va_RA s cB ty) : cA = cB := by
  cases ty with
  | object C =>
    obtain ⟨-, -, -, -, -, e1⟩ := h1
    obtain ⟨-, -, -, -, -, e2⟩ := h2
    exact Option.some.inj (e1.symm.trans e2)
  | _ => exact Option.some.inj (Eq.trans (Eq.symm h1) h2)
theorem gx_newI (C : gC k p s m args meth c cc own nL Ts) (hD : gD A L) (hA : ∀ q, H0.size ≤ q → A q) {n : Int32} {N : Nat} (h1 : Cond.arrayClass .int ∈ Ts) (hn : ¬ n < 0) (hN : n.toNatClampNeg = N) (hb : N * 4 ≤ 536870912) (hcells : cells + 1 ≤ R.cells) (hslots : slots + N ≤ R.slots) (hdg : decode cc pc = .ok (.newarray .int, 2))
    (kk : ∀ q, gD A (L ++ [q]) → gW p l e R s m args below meth c k nL False A H0 Q (L ++ [q]) (cells + 1) (slots + N) (va_up f q (gIA k N (fun _ => 0))) (pc + 2) lv (.ref q :: rest)) : gW p l e R s m args below meth c k nL False A H0 Q L cells slots f pc lv (.int n :: rest) := by
  intro H locs ls hP hS hr hl
  refine va_newa (atype := .int) (ty := .int) (a0 := (N, .inl (fun _ => 0))) C.1 C.2.1 (C.2.2.2.2.1 _ h1) rfl C.2.2.2.2.2.1.1 hP (gD_D f hD) hS hA (fun _ => rfl) hn hN hb hcells hslots hdg (fun q cA H1 hK1 hP1 hD1 hS1 => ?_)
  have e1 : cA = k.2.1 := gRA (hK1.2 3 (cA, .int) rfl).2 (C.2.2.2.2.2.1.1.2 0 (k.2.1, .int) rfl).2
  subst e1
  rw [va_pl_push (gD_push hD1)] at hP1
  exact kk q (gD_app hD hD1) H1 locs ls hP1 hS1 (fun z => z.elim) hl
theorem gx_newW (C : gC k p s m args meth c cc own nL Ts) (hAO : va_AO RX5 s) (hD : gD A L) (hA : ∀ q, H0.size ≤ q → A q) {n : Int32} {N index : Nat} (h1 : Cond.classLink own index RX5 ∈ Ts) (hn : ¬ n < 0) (hN : n.toNatClampNeg = N) (hb : N * 4 ≤ 536870912) (hcells : cells + 1 ≤ R.cells) (hslots : slots + N ≤ R.slots) (hdg : decode cc pc = .ok (.anewarray index, 3))
    (kk : ∀ q, gD A (L ++ [q]) → gW p l e R s m args below meth c k nL False A H0 Q (L ++ [q]) (cells + 1) (slots + N) (va_up f q (gWA k N (fun _ => none))) (pc + 3) lv (.ref q :: rest)) : gW p l e R s m args below meth c k nL False A H0 Q L cells slots f pc lv (.int n :: rest) := by
  intro H locs ls hP hS hr hl
  refine va_newq C.1 C.2.1 C.2.2.2.1 (C.2.2.2.2.1 _ h1) hAO C.2.2.2.2.2.1.1 hP (gD_D f hD) hS hA hn hN hb hcells hslots hdg (fun q cA H1 hK1 hP1 hD1 hS1 => ?_)
  have e1 : cA = k.2.2.2 := gRA (hK1.2 3 (cA, .object RX5) rfl).2 (C.2.2.2.2.2.1.1.2 2 (k.2.2.2, .object RX5) rfl).2
  subst e1
  rw [va_pl_push (gD_push hD1)] at hP1
  exact kk q (gD_app hD hD1) H1 locs ls hP1 hS1 (fun z => z.elim) hl
theorem gx_objInit (C : gC k p s m args meth c cc own nL Ts) {index a : Nat} (h1 : Cond.methodLink own index objectInit ∈ Ts) (h2 : Cond.instanceMethod objectInit ∈ Ts) (h3 : Cond.code objectInit ⟨#[0xb1]⟩ 1 none ∈ Ts) (hfr : 1 ≤ R.frames) (hlo : (rest.map fun v => v.category).sum + 12 ≤ R.locals) (hdg : decode cc pc = .ok (.invokespecial index, 3)) (kk : gW p l e R s m args below meth c k nL rd A H0 Q L cells slots f (pc + 3) lv rest) : gW p l e R s m args below meth c k nL rd A H0 Q L cells slots f pc lv (.ref a :: rest) := by
  intro H locs ls hP hS hr hl
  refine W.objInit C.1 C.2.1 C.2.2.2.1 (C.2.2.2.2.1 _ h1) (C.2.2.2.2.1 _ h2) (C.2.2.2.2.1 _ h3) rfl (by rw [C.2.2.1]; exact hl.1) rfl hdg hfr (by show 2 * 0 + _ + 12 ≤ _; omega) ?_
  exact kk H locs ls hP hS hr hl
theorem gx_widen {k2 n2 : Nat} (h1 : cells ≤ k2) (h2 : slots ≤ n2) (kk : gW p l e R s m args below meth c k nL rd A H0 Q L k2 n2 f pc lv st) : gW p l e R s m args below meth c k nL rd A H0 Q L cells slots f pc lv st := fun H locs ls hP hS hr hl => W.widen h1 h2 (kk H locs ls hP hS hr hl)
theorem gEndA {P : Option Value → List Nat → (Nat → va_E) → Prop} {N : List Nat} {H : Heap} {locs : List Loc} {Lc : List Nat} {v : Option Value} {t : State} (hLc : Lc = L ++ N) (hD : gD (fun q => q ∈ L ∨ s.heap.size ≤ q) Lc) (hp : P v N f) (hP : va_P k.1 vwCl (va_pl Lc f) H) (hS : va_S (fun q => q ∈ L ∨ s.heap.size ≤ q) s.heap H locs) (ht : t.heap = H) : gQA k L P s.heap.size args s (.returned v) t := by
  subst hLc
  refine ⟨v, N, f, rfl, hp, by rw [ht]; exact hP, hD.1, fun q hq => ?_, by rw [ht]; exact hS.1, fun q h1 h2 => ?_⟩
  · rcases hD.2 q (List.mem_append_right _ hq) with h | h
    · exact absurd rfl (gD_ne hD h hq)
    · exact h
  · rw [ht]
    exact hS.2.1 q h1 (fun z => z.elim h2 (fun z => by omega))
theorem gx_vretA (C : gC k p s m args meth c cc own nL Ts) {P : Option Value → List Nat → (Nat → va_E) → Prop} {N Lc : List Nat} (hr : meth.sig.returnType = none) (hLc : Lc = L ++ N) (hD : gD (fun q => q ∈ L ∨ s.heap.size ≤ q) Lc) (hdg : decode cc pc = .ok (.return_, 1)) (hp : P none N f) : gW p l e R s m args below meth c k nL False (fun q => q ∈ L ∨ s.heap.size ≤ q) s.heap (MQ below (gQA k L P s.heap.size) args s cells slots (fun q => q ∈ L ∨ s.heap.size ≤ q)) Lc cells slots f pc lv [] := by
  intro H locs ls hP hS hrd hl
  exact W.vret C.1 C.2.1 hr (fun t ht hW => gEndA hLc hD hp hP hS ht) hS.2.2 hdg C.2.2.2.2.2.2
theorem gx_iretA (C : gC k p s m args meth c cc own nL Ts) {P : Option Value → List Nat → (Nat → va_E) → Prop} {N Lc : List Nat} {v : Int32} (hr : meth.sig.returnType = some .int) (hLc : Lc = L ++ N) (hD : gD (fun q => q ∈ L ∨ s.heap.size ≤ q) Lc) (hdg : decode cc pc = .ok (.ireturn, 1)) (hp : P (some (.int v)) N f) : gW p l e R s m args below meth c k nL False (fun q => q ∈ L ∨ s.heap.size ≤ q) s.heap (MQ below (gQA k L P s.heap.size) args s cells slots (fun q => q ∈ L ∨ s.heap.size ≤ q)) Lc cells slots f pc lv [.int v] := by
  intro H locs ls hP hS hrd hl
  exact W.iret C.1 C.2.1 hr (fun t ht hW => gEndA hLc hD hp hP hS ht) hS.2.2 hdg C.2.2.2.2.2.2
end AL
