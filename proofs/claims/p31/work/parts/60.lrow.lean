/-! rows that the law's own methods need; the law's four arrays; the face beside them -/
abbrev lR (x : Int64) (y : Int32) : Int64 := x >>> (y.toInt64 &&& 63)
section LR
variable {p : Program} {l : Launch} {e : Env} {R : Room} {s : State} {m : MethodId} {args : Array Value} {below : List Frame} {meth : Method} {c : Code} {k : gK} {cc : ByteArray} {own : String} {nL : Nat} {Ts : List Cond} {rd : Prop} {A : Nat → Prop} {H0 : Heap} {Q : State → Prop} {L L1 L2 : List Nat} {cells slots : Nat} {f : Nat → va_E} {pc : Nat} {lv : List (Nat × Value)} {rest st : List Value}
theorem gx_lshr (C : gC k p s m args meth c cc own nL Ts) {x : Int64} {y : Int32} (hdg : decode cc pc = .ok (.lshr, 1)) (kk : gW p l e R s m args below meth c k nL rd A H0 Q L cells slots f (pc + 1) lv (.long (lR x y) :: rest)) : gW p l e R s m args below meth c k nL rd A H0 Q L cells slots f pc lv (.int y :: .long x :: rest) := fun H locs ls hP hS hr hl => lv_lshr C.1 C.2.1 hdg rfl (kk H locs ls hP hS hr hl)
theorem gx_lxor (C : gC k p s m args meth c cc own nL Ts) {x y : Int64} (hdg : decode cc pc = .ok (.lxor, 1)) (kk : gW p l e R s m args below meth c k nL rd A H0 Q L cells slots f (pc + 1) lv (.long (x ^^^ y) :: rest)) : gW p l e R s m args below meth c k nL rd A H0 Q L cells slots f pc lv (.long y :: .long x :: rest) := fun H locs ls hP hS hr hl => lv_lxor C.1 C.2.1 hdg (kk H locs ls hP hS hr hl)
theorem gx_aload (C : gC k p s m args meth c cc own nL Ts) {i q : Nat} {x : Nat} (hdg : decode cc pc = .ok (.aload i, 2)) (hk : lv[q]? = some (i, .ref x)) (kk : gW p l e R s m args below meth c k nL rd A H0 Q L cells slots f (pc + 2) lv (.ref x :: rest)) : gW p l e R s m args below meth c k nL rd A H0 Q L cells slots f pc lv rest := fun H locs ls hP hS hr hl => lv_aload C.1 C.2.1 hdg (lv_at hl q hk) (kk H locs ls hP hS hr hl)
theorem gx_astore (C : gC k p s m args meth c cc own nL Ts) {i : Nat} {x : Nat} (lv2 : List (Nat × Value)) (hdg : decode cc pc = .ok (.astore i, 2)) (hn : i < nL) (h2 : (i, Value.ref x) :: lv.filter (fun q => !(q.1 == i) && !(q.1 + 1 == i && q.2.category == 2)) = lv2) (kk : gW p l e R s m args below meth c k nL rd A H0 Q L cells slots f (pc + 2) lv2 rest) : gW p l e R s m args below meth c k nL rd A H0 Q L cells slots f pc lv (.ref x :: rest) := fun H locs ls hP hS hr hl => lv_astore C.1 C.2.1 hdg hl hn h2 (fun ls2 hl2 => kk H locs ls2 hP hS hr hl2)
theorem gx_laldN (C : gC k p s m args meth c cc own nL Ts) {a n j : Nat} {g : Nat → Int64} {i : Int32} (ha : a ∈ L) (hf : f a = gLA k n g) (hi : i = nI j) (hj : j < n) (hn : n < 2 ^ 31) (hdg : decode cc pc = .ok (.laload, 1)) (kk : gW p l e R s m args below meth c k nL rd A H0 Q L cells slots f (pc + 1) lv (.long (g j) :: rest)) : gW p l e R s m args below meth c k nL rd A H0 Q L cells slots f pc lv (.int i :: .ref a :: rest) := by
  intro H locs ls hP hS hr hl
  subst hi
  obtain ⟨q, hq⟩ := gGet (f := f) ha
  rw [hf] at hq
  refine va_lald C.1 C.2.1 C.2.2.2.2.2.1.1 hP q 1 hq rfl (vp_in_nI hj hn) hdg ?_
  rw [nI_clamp (by omega)]
  exact kk H locs ls hP hS hr hl
theorem gx_lastN (C : gC k p s m args meth c cc own nL Ts) (hD : gD A L) {a n j : Nat} {g : Nat → Int64} {i : Int32} {x : Int64} (ha : a ∈ L) (hf : f a = gLA k n g) (hi : i = nI j) (hj : j < n) (hn : n < 2 ^ 31) (hdg : decode cc pc = .ok (.lastore, 1)) (kk : gW p l e R s m args below meth c k nL False A H0 Q L cells slots (va_up f a (gLA k n (vp_updL g j x))) (pc + 1) lv rest) : gW p l e R s m args below meth c k nL False A H0 Q L cells slots f pc lv (.long x :: .int i :: .ref a :: rest) := by
  intro H locs ls hP hS hr hl
  subst hi
  obtain ⟨q, hq0⟩ := gGet (f := f) ha
  have hq := hq0
  rw [hf] at hq
  refine va_last C.1 C.2.1 C.2.2.2.2.2.1.1 hP (gD_D f hD) hS q 1 hq rfl (vp_in_nI hj hn) hdg (fun H1 locs1 hP1 hD1 hS1 => ?_)
  rw [nI_clamp (by omega)] at hP1
  have hP2 : va_P k.1 vwCl ((va_pl L f).set q (a, gLA k n (vp_updL g j x))) H1 := hP1
  rw [gSet hD ha hq0] at hP2
  exact kk H1 locs1 ls hP2 hS1 (fun z => z.elim) hl
theorem gx_newL (C : gC k p s m args meth c cc own nL Ts) (hD : gD A L) (hA : ∀ q, H0.size ≤ q → A q) {n : Int32} {N : Nat} (h1 : Cond.arrayClass .long ∈ Ts) (hn : ¬ n < 0) (hN : n.toNatClampNeg = N) (hb : N * 8 ≤ 536870912) (hcells : cells + 1 ≤ R.cells) (hslots : slots + N ≤ R.slots) (hdg : decode cc pc = .ok (.newarray .long, 2))
    (kk : ∀ q, gD A (L ++ [q]) → gW p l e R s m args below meth c k nL False A H0 Q (L ++ [q]) (cells + 1) (slots + N) (va_up f q (gLA k N (fun _ => 0))) (pc + 2) lv (.ref q :: rest)) : gW p l e R s m args below meth c k nL False A H0 Q L cells slots f pc lv (.int n :: rest) := by
  intro H locs ls hP hS hr hl
  refine va_newa (atype := .long) (ty := .long) (a0 := (N, .inr (.inl (fun _ => 0)))) C.1 C.2.1 (C.2.2.2.2.1 _ h1) rfl C.2.2.2.2.2.1.1 hP (gD_D f hD) hS hA (fun _ => rfl) hn hN hb hcells hslots hdg (fun q cA H1 hK1 hP1 hD1 hS1 => ?_)
  have e1 : cA = k.2.2.1 := gRA (hK1.2 3 (cA, .long) rfl).2 (C.2.2.2.2.2.1.1.2 1 (k.2.2.1, .long) rfl).2
  subst e1
  rw [va_pl_push (gD_push hD1)] at hP1
  exact kk q (gD_app hD hD1) H1 locs ls hP1 hS1 (fun z => z.elim) hl
theorem gx_lretR (C : gC k p s m args meth c cc own nL Ts) {v : Int64} {v2 : Value} {H0 : Heap} (hh : H0 = s.heap) (hr : meth.sig.returnType = some .long) (hdg : decode cc pc = .ok (.lreturn, 1)) (hv : Value.long v = v2) : gW p l e R s m args below meth c k nL True A H0 (MQ below (gQR v2) args s cells slots (fun _ => False)) L cells slots f pc lv [.long v] := by
  intro H locs ls hP hS hrd hl
  obtain ⟨rfl, rfl⟩ := hrd trivial
  subst hh
  exact W.lret C.1 C.2.1 hr (fun t ht hW => ⟨by rw [hv], ht⟩) (fun q hq => absurd hq List.not_mem_nil) hdg C.2.2.2.2.2.2
theorem pl_at {D : va_G} {cl : List vw_C} {L : List Nat} {f : Nat → va_E} {H : Heap} : va_P D cl (va_pl L f) H ↔ ∀ a ∈ L, va_at D cl (a, f a) H := by
  constructor
  · intro h a ha
    obtain ⟨i, hi⟩ := gGet (f := f) ha
    exact h i _ hi
  · intro h j q hq
    rw [va_pl, List.getElem?_map] at hq
    obtain ⟨a, ha, rfl⟩ := Option.map_eq_some_iff.mp hq
    exact h a (List.mem_of_getElem? ha)
theorem pl_kept {D : va_G} {cl : List vw_C} {L : List Nat} {f : Nat → va_E} {H H1 : Heap} (h : va_P D cl (va_pl L f) H) (hq : ∀ a ∈ L, a < H.size → H1[a]? = H[a]?) : va_P D cl (va_pl L f) H1 := h.kept (fun j q hj => by
  have hlt := (h j q hj).lt
  rw [va_pl, List.getElem?_map] at hj
  obtain ⟨a, ha, rfl⟩ := Option.map_eq_some_iff.mp hj
  exact hq a (List.mem_of_getElem? ha) hlt)
theorem pl_cong {D : va_G} {cl : List vw_C} {L : List Nat} {f f2 : Nat → va_E} {H : Heap} (h : va_P D cl (va_pl L f) H) (hf : ∀ a ∈ L, f2 a = f a) : va_P D cl (va_pl L f2) H := pl_at.mpr (fun a ha => by rw [hf a ha]; exact pl_at.mp h a ha)
theorem pl_sub {D : va_G} {cl : List vw_C} {L La : List Nat} {f : Nat → va_E} {H : Heap} (h : va_P D cl (va_pl L f) H) (hs : ∀ a ∈ La, a ∈ L) : va_P D cl (va_pl La f) H := pl_at.mpr (fun a ha => pl_at.mp h a (hs a ha))
theorem pl_app {D : va_G} {cl : List vw_C} {La Lb : List Nat} {f : Nat → va_E} {H : Heap} (ha : va_P D cl (va_pl La f) H) (hb : va_P D cl (va_pl Lb f) H) : va_P D cl (va_pl (La ++ Lb) f) H := pl_at.mpr (fun a h => (List.mem_append.mp h).elim (pl_at.mp ha a) (pl_at.mp hb a))
/-- two pools' words joined -/
noncomputable def jn (L1 : List Nat) (f2 f : Nat → va_E) : Nat → va_E := fun a => if a ∈ L1 then f2 a else f a
theorem jn_in {L1 : List Nat} {f2 f : Nat → va_E} {a : Nat} (h : a ∈ L1) : jn L1 f2 f a = f2 a := if_pos h
theorem jn_out {L1 : List Nat} {f2 f : Nat → va_E} {a : Nat} (h : a ∉ L1) : jn L1 f2 f a = f a := if_neg h
/-- a call of a writer over a part of the pool: the rest stays -/
theorem gx_callMJ (C : gC k p s m args meth c cc own nL Ts) (hD : gD A (L1 ++ L2)) {y : MethodName} {bytes : ByteArray} {maxL n index : Nat} {ret : Option FieldType} {ws : List Cond} {rm : Room} {As : List Value} {b ci : Nat} {q : vw_C} {fs : List Value} {P : Option Value → (Nat → va_E) → Prop} (hM : kM l k L1 f y ws rm (.ref b :: As) P) (hb : b ∈ L1) (hfb : f b = .inr (ci, fs)) (hc : vwCl[ci]? = some q) (cw : CallW R s args own q.1 index y bytes maxL ret ws rm 0 0 n) (hn : As.length = n) (hst : st = As.reverse ++ .ref b :: rest) (hrm : (rest.map fun v => v.category).sum ≤ 8) (hzz : cells ≤ R.cells ∧ slots ≤ R.slots) (hdg : decode cc pc = .ok (.invokevirtual index, 3)) (kk : ∀ (v : Option Value) (f2 : Nat → va_E), P v f2 → gW p l e R s m args below meth c k nL False A H0 Q (L1 ++ L2) cells slots (jn L1 f2 f) (pc + 3) lv (v.toList ++ rest)) : gW p l e R s m args below meth c k nL False A H0 Q (L1 ++ L2) cells slots f pc lv st := by
  intro H locs ls hP hS hr hl
  subst hst
  have hPa : va_P k.1 vwCl (va_pl L1 f) H := pl_sub hP (fun a h => List.mem_append_left _ h)
  have hPb : va_P k.1 vwCl (va_pl L2 f) H := pl_sub hP (fun a h => List.mem_append_right _ h)
  have hA : ∀ a ∈ L1, A a := fun a h => hD.2 a (List.mem_append_left _ h)
  have hdj : ∀ a ∈ L2, a ∉ L1 := fun a h h2 => (List.nodup_append.mp hD.1).2.2 a h2 a h rfl
  have hrr : CallRun p l e R s m args below meth c H locs cells slots 0 0 (F0 m pc ls (As.reverse ++ .ref b :: rest)) rest (gQM k L1 P _) (fun q => q ∈ L1) := W.runV (gFix C) hM cw (gPreV C.2.2.2.2.2.1 hPa hb hfb hc) rfl hn hl.1 rfl (lv_room hrm) hdg hzz
  intro T hT X
  obtain ⟨v, st₀, t, T', LL, h0, X', hL, e1, ⟨v2, f2, hv, hpp, hP2, hF⟩, stt⟩ := hrr T hT X
  cases hv
  obtain ⟨hz, hk⟩ := hF
  rw [h0] at hz hk
  have hPn : va_P k.1 vwCl (va_pl (L1 ++ L2) (jn L1 f2 f)) t.heap := pl_app (pl_cong hP2 (fun a h => jn_in h)) (pl_cong (pl_kept hPb (fun a ha hlt => hk a hlt (hdj a ha))) (fun a h => jn_out (hdj a h)))
  obtain ⟨t2, a1, b1⟩ := kk v f2 hpp t.heap (locs ++ LL) ls hPn ⟨Nat.le_trans hS.1 hz, fun q h1 h2 => (hk q (Nat.lt_of_lt_of_le h1 hS.1) (fun z => h2 (hA q z))).trans (hS.2.1 q h1 h2), fun q hq => by
      rcases List.mem_append.mp hq with h | h
      · exact hS.2.2 q h
      · exact hA _ (hL q h)⟩ (fun z => z.elim) hl T' e1 X'
  exact ⟨t2, stt t2 a1, b1⟩
/-- a call of a static writer over the whole pool -/
theorem gx_callMS (C : gC k p s m args meth c cc own nL Ts) (hD : gD A L) {y : MethodName} {bytes : ByteArray} {maxL n index : Nat} {ret : Option FieldType} {ws : List Cond} {rm : Room} {As : List Value} {P : Option Value → (Nat → va_E) → Prop} (hM : kM l k L f y ws rm As P) (cw : CallB R s args own index y bytes maxL ret ws rm 0 0 n ∧ (Cond.static y).before args s = true) (hn : As.length = n) (hst : st = As.reverse ++ rest) (hrm : (rest.map fun v => v.category).sum ≤ 8) (hzz : cells ≤ R.cells ∧ slots ≤ R.slots) (hdg : decode cc pc = .ok (.invokestatic index, 3)) (kk : ∀ (v : Option Value) (f2 : Nat → va_E), P v f2 → gW p l e R s m args below meth c k nL False A H0 Q L cells slots f2 (pc + 3) lv (v.toList ++ rest)) : gW p l e R s m args below meth c k nL False A H0 Q L cells slots f pc lv st := by
  intro H locs ls hP hS hr hl
  subst hst
  exact gCallM hD.2 hS hl (W.runS (gFix C) hM cw (gPreS C.2.2.2.2.2.1 hP) rfl hn hl.1 rfl (lv_room hrm) hdg hzz) kk
/-- a call of a static maker -/
theorem gx_callSA (C : gC k p s m args meth c cc own nL Ts) (hAO : va_AO RX5 s) (hD : gD A L) (hA : ∀ q, H0.size ≤ q → A q) {y : MethodName} {bytes : ByteArray} {maxL n index mc ms : Nat} {ret : Option FieldType} {ws : List Cond} {rm : Room} {As : List Value} {P : Option Value → List Nat → (Nat → va_E) → Prop} (hM : kA l k L f y ws rm As mc ms P) (cw : CallB R s args own index y bytes maxL ret ws rm mc ms n ∧ (Cond.static y).before args s = true) (hn : As.length = n) (hst : st = As.reverse ++ rest) (hrm : (rest.map fun v => v.category).sum ≤ 8) (hzz : cells + mc ≤ R.cells ∧ slots + ms ≤ R.slots) (hdg : decode cc pc = .ok (.invokestatic index, 3)) (kk : ∀ (v : Option Value) (N : List Nat) (f2 : Nat → va_E), P v N f2 → gD A (L ++ N) → gW p l e R s m args below meth c k nL False A H0 Q (L ++ N) (cells + mc) (slots + ms) f2 (pc + 3) lv (v.toList ++ rest)) : gW p l e R s m args below meth c k nL False A H0 Q L cells slots f pc lv st := by
  intro H locs ls hP hS hr hl
  subst hst
  exact gCallA hD hA hS hl (W.runS (gFix C) (hM H.size) cw (gPreSA C.2.2.2.2.2.1 hAO hP) rfl hn hl.1 rfl (lv_room hrm) hdg hzz) kk
/-- a part of the pool is forgotten -/
theorem gx_drop {La : List Nat} (hs : ∀ a ∈ La, a ∈ L) (kk : gW p l e R s m args below meth c k nL rd A H0 Q La cells slots f pc lv st) : gW p l e R s m args below meth c k nL rd A H0 Q L cells slots f pc lv st := fun H locs ls hP hS hr hl => kk H locs ls (pl_sub hP hs) hS hr hl
theorem gx_zretA (C : gC k p s m args meth c cc own nL Ts) {P : Option Value → List Nat → (Nat → va_E) → Prop} {N Lc : List Nat} {v : Int32} (hr : meth.sig.returnType = some .boolean) (hz : v = 0 ∨ v = 1) (hLc : Lc = L ++ N) (hD : gD (fun q => q ∈ L ∨ s.heap.size ≤ q) Lc) (hdg : decode cc pc = .ok (.ireturn, 1)) (hp : P (some (.int v)) N f) : gW p l e R s m args below meth c k nL False (fun q => q ∈ L ∨ s.heap.size ≤ q) s.heap (MQ below (gQA k L P s.heap.size) args s cells slots (fun q => q ∈ L ∨ s.heap.size ≤ q)) Lc cells slots f pc lv [.int v] := by
  intro H locs ls hP hS hrd hl
  exact W.zret C.1 C.2.1 hr (by rcases hz with rfl | rfl <;> rfl) (fun t ht hW => gEndA hLc hD hp hP hS ht) hS.2.2 hdg C.2.2.2.2.2.2
/-- branches that meet again with a number on top -/
theorem gx_join {pc2 : Nat} (v : Int32) (kk : gW p l e R s m args below meth c k nL rd A H0 Q L cells slots f pc2 lv (.int v :: rest)) (br : (∀ x, x = v → gW p l e R s m args below meth c k nL rd A H0 Q L cells slots f pc2 lv (.int x :: rest)) → gW p l e R s m args below meth c k nL rd A H0 Q L cells slots f pc lv rest) : gW p l e R s m args below meth c k nL rd A H0 Q L cells slots f pc lv rest := br (fun x h => by subst h; exact kk)
theorem gx_join0 {pc2 : Nat} (kk : gW p l e R s m args below meth c k nL rd A H0 Q L cells slots f pc2 lv rest) (br : gW p l e R s m args below meth c k nL rd A H0 Q L cells slots f pc2 lv rest → gW p l e R s m args below meth c k nL rd A H0 Q L cells slots f pc lv rest) : gW p l e R s m args below meth c k nL rd A H0 Q L cells slots f pc lv rest := br kk
theorem gx_topl {x : Int64} (y : Int64) (hy : x = y) (kk : gW p l e R s m args below meth c k nL rd A H0 Q L cells slots f pc lv (.long y :: rest)) : gW p l e R s m args below meth c k nL rd A H0 Q L cells slots f pc lv (.long x :: rest) := by subst hy; exact kk
end LR
/-! the law's numbers: g (the workshop's), b (the pots, a long each), k (the bookings), t (the pupils) -/
abbrev ZS : Type := (Nat → Int32) × (Nat → Int64) × (Nat → Int32) × (Nat → Int32)
abbrev zg (z : ZS) : Nat → Int32 := z.1
abbrev zb (z : ZS) : Nat → Int64 := z.2.1
abbrev zk (z : ZS) : Nat → Int32 := z.2.2.1
abbrev zt (z : ZS) : Nat → Int32 := z.2.2.2
abbrev ug (z : ZS) (i : Nat) (x : Int32) : ZS := (upd z.1 i x, z.2)
abbrev ub (z : ZS) (i : Nat) (x : Int64) : ZS := (z.1, vp_updL z.2.1 i x, z.2.2)
abbrev uk (z : ZS) (i : Nat) (x : Int32) : ZS := (z.1, z.2.1, upd z.2.2.1 i x, z.2.2.2)
abbrev ut (z : ZS) (i : Nat) (x : Int32) : ZS := (z.1, z.2.1, z.2.2.1, upd z.2.2.2 i x)
def isLA (k : gK) (L : List Nat) (f : Nat → va_E) (B : Nat → Nat) (z : ZS) : Prop :=
  (∀ i, i < 4 → B i ∈ L) ∧ (∀ i j, i < 4 → j < 4 → B i = B j → i = j) ∧ f (B 0) = gIA k 15 z.1 ∧ f (B 1) = gLA k 20 z.2.1 ∧ f (B 2) = gIA k 31 z.2.2.1 ∧ f (B 3) = gIA k 20 z.2.2.2
theorem isLA_cong {k : gK} {L : List Nat} {f f2 : Nat → va_E} {B : Nat → Nat} {z : ZS} (h : isLA k L f B z) (hf : ∀ a ∈ L, f2 a = f a) : isLA k L f2 B z := by
  obtain ⟨h1, h2, h3, h4, h5, h6⟩ := h
  exact ⟨h1, h2, by rw [hf _ (h1 0 (by decide))]; exact h3, by rw [hf _ (h1 1 (by decide))]; exact h4, by rw [hf _ (h1 2 (by decide))]; exact h5, by rw [hf _ (h1 3 (by decide))]; exact h6⟩
theorem isWS_cong {k : gK} {L : List Nat} {f f2 : Nat → va_E} {a : Nat → Nat} {w : WS} (h : isWS k L f a w) (hf : ∀ x ∈ L, f2 x = f x) : isWS k L f2 a w := by
  obtain ⟨h1, h2, h3, h4, h5, h6⟩ := h
  exact ⟨h1, h2, by rw [hf _ (h1 0 (by decide))]; exact h3, by rw [hf _ (h1 1 (by decide))]; exact h4, by rw [hf _ (h1 2 (by decide))]; exact h5, fun r hr => ⟨by rw [hf _ (h1 _ (by omega))]; exact (h6 r hr).1, by rw [hf _ (h1 _ (by omega))]; exact (h6 r hr).2⟩⟩
theorem isDS_cong {k : gK} {L : List Nat} {f f2 : Nat → va_E} {d : Nat → Nat} {m : DS} (h : isDS k L f d m) (hf : ∀ x ∈ L, f2 x = f x) : isDS k L f2 d m := by
  obtain ⟨h1, h2, h3, h4⟩ := h
  exact ⟨h1, h2, by rw [hf _ (h1 0 (by decide))]; exact h3, by rw [hf _ (h1 1 (by decide))]; exact h4⟩
theorem isPN_cong {k : gK} {L : List Nat} {f f2 : Nat → va_E} {A : Nat → Nat} {q : PS} (h : isPN k L f A q) (hf : ∀ x ∈ L, f2 x = f x) : isPN k L f2 A q := by
  obtain ⟨h1, h2, c0, c1, ⟨g, c2, c2'⟩, ⟨g', c3, c3'⟩, hd, hn, hr, hs⟩ := h
  have lo : ∀ x, x < 222 → A x ∈ L := fun x hx => h1 x (Or.inl hx)
  exact ⟨h1, h2, by rw [hf _ (lo 0 (by decide))]; exact c0, by rw [hf _ (lo 1 (by decide))]; exact c1, ⟨g, by rw [hf _ (lo 2 (by decide))]; exact c2, c2'⟩, ⟨g', by rw [hf _ (lo 3 (by decide))]; exact c3, c3'⟩, isDS_cong hd hf, isWS_cong hn hf, fun j hj => isWS_cong (hr j hj) hf, fun i hi w hw => isWS_cong (hs i hi w hw) hf⟩
theorem isWS_mono {k : gK} {L La : List Nat} {f : Nat → va_E} {a : Nat → Nat} {w : WS} (h : isWS k La f a w) (hL : ∀ x ∈ La, x ∈ L) : isWS k L f a w := ⟨fun i hi => hL _ (h.1 i hi), h.2⟩
theorem isDS_mono {k : gK} {L La : List Nat} {f : Nat → va_E} {d : Nat → Nat} {m : DS} (h : isDS k La f d m) (hL : ∀ x ∈ La, x ∈ L) : isDS k L f d m := ⟨fun i hi => hL _ (h.1 i hi), h.2⟩
theorem isPN_mono {k : gK} {L La : List Nat} {f : Nat → va_E} {A : Nat → Nat} {q : PS} (h : isPN k La f A q) (hL : ∀ x ∈ La, x ∈ L) : isPN k L f A q := by
  obtain ⟨h1, h2, c0, c1, c2, c3, hd, hn, hr, hs⟩ := h
  exact ⟨fun n hn => hL _ (h1 n hn), h2, c0, c1, c2, c3, isDS_mono hd hL, isWS_mono hn hL, fun j hj => isWS_mono (hr j hj) hL, fun i hi w hw => isWS_mono (hs i hi w hw) hL⟩
/-- the face in the pool L1 beside the law's arrays in L2 -/
def isLW (k : gK) (L1 L2 : List Nat) (f : Nat → va_E) (A : Nat → Nat) (q : PS) (B : Nat → Nat) (z : ZS) : Prop := isPN k L1 f A q ∧ isLA k L2 f B z ∧ ∀ a ∈ L2, a ∉ L1
theorem lw_mg {k : gK} {L1 L2 : List Nat} {f : Nat → va_E} {A : Nat → Nat} {q : PS} {B : Nat → Nat} {z : ZS} (h : isLW k L1 L2 f A q B z) : B 0 ∈ L1 ++ L2 := List.mem_append_right _ (h.2.1.1 0 (by decide))
theorem lw_eg {k : gK} {L1 L2 : List Nat} {f : Nat → va_E} {A : Nat → Nat} {q : PS} {B : Nat → Nat} {z : ZS} (h : isLW k L1 L2 f A q B z) : f (B 0) = gIA k 15 z.1 := h.2.1.2.2.1
theorem isLW_ug {k : gK} {L1 L2 : List Nat} {f : Nat → va_E} {A : Nat → Nat} {q : PS} {B : Nat → Nat} {z : ZS} (h : isLW k L1 L2 f A q B z) (g2 : Nat → Int32) : isLW k L1 L2 (va_up f (B 0) (gIA k 15 g2)) A q B (g2, z.2) := by
  obtain ⟨hp, ⟨h1, h2, h3, h4, h5, h6⟩, hd⟩ := h
  refine ⟨isPN_cong hp (fun x hx => va_up_of _ (fun e : x = B 0 => hd _ (h1 0 (by decide)) (e ▸ hx)) _), ⟨h1, h2, va_up_at _ _ _, (va_up_of _ (fun e => by have := h2 1 0 (by decide) (by decide) e; omega) _).trans h4, (va_up_of _ (fun e => by have := h2 2 0 (by decide) (by decide) e; omega) _).trans h5, (va_up_of _ (fun e => by have := h2 3 0 (by decide) (by decide) e; omega) _).trans h6⟩, hd⟩
theorem lw_mb {k : gK} {L1 L2 : List Nat} {f : Nat → va_E} {A : Nat → Nat} {q : PS} {B : Nat → Nat} {z : ZS} (h : isLW k L1 L2 f A q B z) : B 1 ∈ L1 ++ L2 := List.mem_append_right _ (h.2.1.1 1 (by decide))
theorem lw_eb {k : gK} {L1 L2 : List Nat} {f : Nat → va_E} {A : Nat → Nat} {q : PS} {B : Nat → Nat} {z : ZS} (h : isLW k L1 L2 f A q B z) : f (B 1) = gLA k 20 z.2.1 := h.2.1.2.2.2.1
theorem isLW_ub {k : gK} {L1 L2 : List Nat} {f : Nat → va_E} {A : Nat → Nat} {q : PS} {B : Nat → Nat} {z : ZS} (h : isLW k L1 L2 f A q B z) (g2 : Nat → Int64) : isLW k L1 L2 (va_up f (B 1) (gLA k 20 g2)) A q B (z.1, g2, z.2.2) := by
  obtain ⟨hp, ⟨h1, h2, h3, h4, h5, h6⟩, hd⟩ := h
  refine ⟨isPN_cong hp (fun x hx => va_up_of _ (fun e : x = B 1 => hd _ (h1 1 (by decide)) (e ▸ hx)) _), ⟨h1, h2, (va_up_of _ (fun e => by have := h2 0 1 (by decide) (by decide) e; omega) _).trans h3, va_up_at _ _ _, (va_up_of _ (fun e => by have := h2 2 1 (by decide) (by decide) e; omega) _).trans h5, (va_up_of _ (fun e => by have := h2 3 1 (by decide) (by decide) e; omega) _).trans h6⟩, hd⟩
theorem lw_mk {k : gK} {L1 L2 : List Nat} {f : Nat → va_E} {A : Nat → Nat} {q : PS} {B : Nat → Nat} {z : ZS} (h : isLW k L1 L2 f A q B z) : B 2 ∈ L1 ++ L2 := List.mem_append_right _ (h.2.1.1 2 (by decide))
theorem lw_ek {k : gK} {L1 L2 : List Nat} {f : Nat → va_E} {A : Nat → Nat} {q : PS} {B : Nat → Nat} {z : ZS} (h : isLW k L1 L2 f A q B z) : f (B 2) = gIA k 31 z.2.2.1 := h.2.1.2.2.2.2.1
theorem isLW_uk {k : gK} {L1 L2 : List Nat} {f : Nat → va_E} {A : Nat → Nat} {q : PS} {B : Nat → Nat} {z : ZS} (h : isLW k L1 L2 f A q B z) (g2 : Nat → Int32) : isLW k L1 L2 (va_up f (B 2) (gIA k 31 g2)) A q B (z.1, z.2.1, g2, z.2.2.2) := by
  obtain ⟨hp, ⟨h1, h2, h3, h4, h5, h6⟩, hd⟩ := h
  refine ⟨isPN_cong hp (fun x hx => va_up_of _ (fun e : x = B 2 => hd _ (h1 2 (by decide)) (e ▸ hx)) _), ⟨h1, h2, (va_up_of _ (fun e => by have := h2 0 2 (by decide) (by decide) e; omega) _).trans h3, (va_up_of _ (fun e => by have := h2 1 2 (by decide) (by decide) e; omega) _).trans h4, va_up_at _ _ _, (va_up_of _ (fun e => by have := h2 3 2 (by decide) (by decide) e; omega) _).trans h6⟩, hd⟩
theorem lw_mt {k : gK} {L1 L2 : List Nat} {f : Nat → va_E} {A : Nat → Nat} {q : PS} {B : Nat → Nat} {z : ZS} (h : isLW k L1 L2 f A q B z) : B 3 ∈ L1 ++ L2 := List.mem_append_right _ (h.2.1.1 3 (by decide))
theorem lw_et {k : gK} {L1 L2 : List Nat} {f : Nat → va_E} {A : Nat → Nat} {q : PS} {B : Nat → Nat} {z : ZS} (h : isLW k L1 L2 f A q B z) : f (B 3) = gIA k 20 z.2.2.2 := h.2.1.2.2.2.2.2
theorem isLW_ut {k : gK} {L1 L2 : List Nat} {f : Nat → va_E} {A : Nat → Nat} {q : PS} {B : Nat → Nat} {z : ZS} (h : isLW k L1 L2 f A q B z) (g2 : Nat → Int32) : isLW k L1 L2 (va_up f (B 3) (gIA k 20 g2)) A q B (z.1, z.2.1, z.2.2.1, g2) := by
  obtain ⟨hp, ⟨h1, h2, h3, h4, h5, h6⟩, hd⟩ := h
  refine ⟨isPN_cong hp (fun x hx => va_up_of _ (fun e : x = B 3 => hd _ (h1 3 (by decide)) (e ▸ hx)) _), ⟨h1, h2, (va_up_of _ (fun e => by have := h2 0 3 (by decide) (by decide) e; omega) _).trans h3, (va_up_of _ (fun e => by have := h2 1 3 (by decide) (by decide) e; omega) _).trans h4, (va_up_of _ (fun e => by have := h2 2 3 (by decide) (by decide) e; omega) _).trans h5, va_up_at _ _ _⟩, hd⟩
section LQ
variable {p : Program} {l : Launch} {e : Env} {R : Room} {s : State} {m : MethodId} {args : Array Value} {below : List Frame} {meth : Method} {c : Code} {k : gK} {cc : ByteArray} {own : String} {nL : Nat} {Ts : List Cond} {rd : Prop} {A : Nat → Prop} {H0 : Heap} {Q : State → Prop} {L L1 L2 : List Nat} {cells slots : Nat} {f : Nat → va_E} {pc : Nat} {lv : List (Nat × Value)} {rest st : List Value} {AA : Nat → Nat} {q : PS} {B : Nat → Nat} {z : ZS}
theorem gx_Lg {g2 : Nat → Int32} (hI : isLW k L1 L2 f AA q B z) (kk : ∀ f2, isLW k L1 L2 f2 AA q B (g2, z.2) → gW p l e R s m args below meth c k nL rd A H0 Q L cells slots f2 pc lv st) : gW p l e R s m args below meth c k nL rd A H0 Q L cells slots (va_up f (B 0) (gIA k 15 g2)) pc lv st := kk _ (isLW_ug hI g2)
theorem gx_Lb {g2 : Nat → Int64} (hI : isLW k L1 L2 f AA q B z) (kk : ∀ f2, isLW k L1 L2 f2 AA q B (z.1, g2, z.2.2) → gW p l e R s m args below meth c k nL rd A H0 Q L cells slots f2 pc lv st) : gW p l e R s m args below meth c k nL rd A H0 Q L cells slots (va_up f (B 1) (gLA k 20 g2)) pc lv st := kk _ (isLW_ub hI g2)
theorem gx_Lk {g2 : Nat → Int32} (hI : isLW k L1 L2 f AA q B z) (kk : ∀ f2, isLW k L1 L2 f2 AA q B (z.1, z.2.1, g2, z.2.2.2) → gW p l e R s m args below meth c k nL rd A H0 Q L cells slots f2 pc lv st) : gW p l e R s m args below meth c k nL rd A H0 Q L cells slots (va_up f (B 2) (gIA k 31 g2)) pc lv st := kk _ (isLW_uk hI g2)
theorem gx_Lt {g2 : Nat → Int32} (hI : isLW k L1 L2 f AA q B z) (kk : ∀ f2, isLW k L1 L2 f2 AA q B (z.1, z.2.1, z.2.2.1, g2) → gW p l e R s m args below meth c k nL rd A H0 Q L cells slots f2 pc lv st) : gW p l e R s m args below meth c k nL rd A H0 Q L cells slots (va_up f (B 3) (gIA k 20 g2)) pc lv st := kk _ (isLW_ut hI g2)
theorem lw_pn {k : gK} {L1 L2 : List Nat} {f : Nat → va_E} {A : Nat → Nat} {q : PS} {B : Nat → Nat} {z : ZS} (h : isLW k L1 L2 f A q B z) : isPN k (L1 ++ L2) f A q := isPN_mono h.1 (fun _ hx => List.mem_append_left _ hx)
theorem lw_mo {k : gK} {L1 L2 : List Nat} {f : Nat → va_E} {A : Nat → Nat} {q : PS} {B : Nat → Nat} {z : ZS} (h : isLW k L1 L2 f A q B z) : A 0 ∈ L1 := h.1.1 0 (Or.inl (by decide))
theorem lw_eo {k : gK} {L1 L2 : List Nat} {f : Nat → va_E} {A : Nat → Nat} {q : PS} {B : Nat → Nat} {z : ZS} (h : isLW k L1 L2 f A q B z) : f (A 0) = .inr (6, [.ref (A 6), .ref (A 1), .ref (A 3), .ref (A 4)]) := isPN_0 h.1
theorem lw_jn {k : gK} {L1 L2 : List Nat} {f f2 : Nat → va_E} {A : Nat → Nat} {q q2 : PS} {B : Nat → Nat} {z : ZS} (h : isLW k L1 L2 f A q B z) (h2 : isPN k L1 f2 A q2) : isLW k L1 L2 (jn L1 f2 f) A q2 B z := ⟨isPN_cong h2 (fun _ hx => jn_in hx), isLA_cong h.2.1 (fun a ha => jn_out (h.2.2 a ha)), h.2.2⟩
/-- a call of the face that changes it -/
theorem gx_callF {q2 : PS} (C : gC k p s m args meth c cc own nL Ts) (hD : gD A (L1 ++ L2)) (hI : isLW k L1 L2 f AA q B z) {y : MethodName} {bytes : ByteArray} {maxL n index : Nat} {ret : Option FieldType} {ws : List Cond} {rm : Room} {As : List Value} {x : Int32} (hM : kM l k L1 f y ws rm (.ref (AA 0) :: As) (pP k L1 AA (some (.int x)) q2)) (cw : CallW R s args own RX6 index y bytes maxL ret ws rm 0 0 n) (hn : As.length = n) (hst : st = As.reverse ++ .ref (AA 0) :: rest) (hrm : (rest.map fun v => v.category).sum ≤ 8) (hzz : cells ≤ R.cells ∧ slots ≤ R.slots) (hdg : decode cc pc = .ok (.invokevirtual index, 3)) (kk : ∀ f2, isLW k L1 L2 f2 AA q2 B z → gW p l e R s m args below meth c k nL False A H0 Q (L1 ++ L2) cells slots f2 (pc + 3) lv (.int x :: rest)) : gW p l e R s m args below meth c k nL False A H0 Q (L1 ++ L2) cells slots f pc lv st :=
  gx_callMJ C hD hM (lw_mo hI) (lw_eo hI) (q := (RX6, TX6, 4)) rfl cw hn hst hrm hzz hdg (fun v f2 hp => by obtain ⟨rfl, h2⟩ := hp; exact kk _ (lw_jn hI h2))
/-- a call of the face that asks -/
theorem gx_callQ (C : gC k p s m args meth c cc own nL Ts) (hI : isLW k L1 L2 f AA q B z) {y : MethodName} {bytes : ByteArray} {maxL n index : Nat} {ret : Option FieldType} {ws : List Cond} {rm : Room} {As : List Value} {v : Value} (hM : kR l k (L1 ++ L2) f y ws rm (.ref (AA 0) :: As) v) (cw : CallW R s args own RX6 index y bytes maxL ret ws rm 0 0 n) (hn : As.length = n) (hst : st = As.reverse ++ .ref (AA 0) :: rest) (hrm : (rest.map fun v => v.category).sum ≤ 8) (hzz : cells ≤ R.cells ∧ slots ≤ R.slots) (hdg : decode cc pc = .ok (.invokevirtual index, 3)) (kk : gW p l e R s m args below meth c k nL rd A H0 Q (L1 ++ L2) cells slots f (pc + 3) lv (v :: rest)) : gW p l e R s m args below meth c k nL rd A H0 Q (L1 ++ L2) cells slots f pc lv st :=
  gx_callR C hM (List.mem_append_left _ (lw_mo hI)) (lw_eo hI) (q := (RX6, TX6, 4)) rfl cw hn hst hrm hzz hdg kk
/-- the end of a method of the law that says true -/
theorem gx_zretL (C : gC k p s m args meth c cc own nL Ts) {P : Option Value → (Nat → va_E) → Prop} {v : Int32} (hr : meth.sig.returnType = some .boolean) (hdg : decode cc pc = .ok (.ireturn, 1)) (hv : v = 1) (hp : P (some (.int 1)) f) : gW p l e R s m args below meth c k nL False (fun q => q ∈ L) s.heap (MQ below (gQM k L P) args s cells slots (fun q => q ∈ L)) L cells slots f pc lv [.int v] := by
  subst hv
  exact gx_zretM C hr (Or.inr rfl) hdg hp
end LQ
