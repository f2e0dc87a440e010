/-! THE CLAIM OUT OF ONE WALK OF THE LAW'S BODY. Your part is whole_start (and what it stands on); all else here is the same for every law, but numbers. -/
def R_law : String := "PotteryNightsLaw"
def lw_P (b : Addr) (xs : List Int32) (args : Array Value) (s : State) : Prop := args = #[.ref b] ∧ s.IntsAt b xs ∧ xs.length ≤ 2048 ∧ (Jvm.Cond.and given_1 narrow_1).before args s = true
def lw_Q (_ : Array Value) (s : State) (o : Outcome) (t : State) : Prop := o = .returned (some (.int 1)) ∧ Framed s o t [] 600000 7302249
def lw_Z (below : List Frame) (a : Array Value) (s : State) : State → Prop := fun t => ∃ o, t.status = .running ∧ Ended t below o ∧ lw_Q a s o t
/-- the law's own end, with 1 on the stack, nothing written that was there before, its room as the claim has it -/
theorem lw_ret {p : Program} {l : Launch} {e : Env} {s : State} {m : MethodId} {below : List Frame} {meth : Method} {c : Code} {b : Nat} (hx : p.tables.exec = Jvm.exec) (hb : c.code = code) (hr : meth.sig.returnType = ret) (hlocks : meth.locks = false) {pc : Nat} {H : Heap} {ls : Array Slot} (hdg : decode code pc = .ok (.ireturn, 1)) : W p l e room_1 s m #[Value.ref b] below meth c H [] 600000 7302249 (lw_Z below #[Value.ref b] s) (F0 m pc ls [.int 1]) := by
  intro T hT X
  obtain ⟨fs, hret, hrun, hended, hW, hframe⟩ := X.leave (v := some (.int 1)) (hlocks := hlocks) (fun h => by rw [hr] at h; cases h)
  have hmeth' : T.vm.method? m = some meth := X.method'
  refine ⟨T.setFrames fs, ?_, .returned (some (.int 1)), hrun, hended, rfl, ⟨_, rfl⟩, hW, hframe⟩
  jvm_step X.here [X.here.top, hx, hb, hdg, hmeth', hr, ret, narrow_b1]
  (try refine ⟨rfl, ?_⟩); (try refine ⟨rfl, ?_⟩)
  first | (intro acts; rw [hret _ acts rfl rfl rfl]) | rw [hret _ _ rfl rfl rfl]
  exact Steps.refl _
/-- what holds at the law's entry: the machine, the code, the tables' words (any of lw_tbl by 'hts w (by decide +kernel)'), the script of L ints xs at the cell b, what the Statement gives of the start (any of its parts by flat_of_before) -/
def lw_At (p : Program) (s : State) (m : MethodId) (meth : Method) (c : Code) (b L : Nat) (xs : Nat → Int32) : Prop :=
  p.tables.exec = Jvm.exec ∧ c.code = code ∧ meth.sig.returnType = ret ∧ c.maxLocals = 4 ∧ s.vm.findClass R_law = some m.cls ∧ (∀ w ∈ lw_tbl, w.before #[Value.ref b] s = true) ∧ va_X b L xs s s.heap ∧ b < s.heap.size ∧ meth.locks = false ∧ (Jvm.Cond.and given_1 narrow_1).before #[Value.ref b] s = true
/-! the known classes, and the words of the nest -/
theorem gNF_tbl : ∀ q ∈ gNF, Cond.fieldLinkNest q.1 q.2.1 q.2.2.1 q.2.2.2.1 q.2.2.2.2 RX6 ∈ tables_1 := List.forall_mem_cons.mpr ⟨List.mem_of_getElem? (i := 50) (by decide +kernel), List.forall_mem_cons.mpr ⟨List.mem_of_getElem? (i := 70) (by decide +kernel), List.forall_mem_cons.mpr ⟨List.mem_of_getElem? (i := 74) (by decide +kernel), List.forall_mem_cons.mpr ⟨List.mem_of_getElem? (i := 80) (by decide +kernel), List.forall_mem_cons.mpr ⟨List.mem_of_getElem? (i := 68) (by decide +kernel), List.forall_mem_cons.mpr ⟨List.mem_of_getElem? (i := 76) (by decide +kernel), List.forall_mem_cons.mpr ⟨List.mem_of_getElem? (i := 78) (by decide +kernel), List.forall_mem_cons.mpr ⟨List.mem_of_getElem? (i := 82) (by decide +kernel), List.forall_mem_cons.mpr ⟨List.mem_of_getElem? (i := 72) (by decide +kernel), List.forall_mem_cons.mpr ⟨List.mem_of_getElem? (i := 84) (by decide +kernel), fun _ h => absurd h List.not_mem_nil⟩⟩⟩⟩⟩⟩⟩⟩⟩⟩
theorem gNM_tbl : ∀ q ∈ gNM, Cond.methodLinkNest q.1 q.2.1 q.2.2 RX6 ∈ tables_1 := List.forall_mem_cons.mpr ⟨List.mem_of_getElem? (i := 154) (by decide +kernel), List.forall_mem_cons.mpr ⟨List.mem_of_getElem? (i := 624) (by decide +kernel), List.forall_mem_cons.mpr ⟨List.mem_of_getElem? (i := 458) (by decide +kernel), List.forall_mem_cons.mpr ⟨List.mem_of_getElem? (i := 422) (by decide +kernel), List.forall_mem_cons.mpr ⟨List.mem_of_getElem? (i := 42) (by decide +kernel), List.forall_mem_cons.mpr ⟨List.mem_of_getElem? (i := 61) (by decide +kernel), List.forall_mem_cons.mpr ⟨List.mem_of_getElem? (i := 236) (by decide +kernel), List.forall_mem_cons.mpr ⟨List.mem_of_getElem? (i := 268) (by decide +kernel), List.forall_mem_cons.mpr ⟨List.mem_of_getElem? (i := 272) (by decide +kernel), fun _ h => absurd h List.not_mem_nil⟩⟩⟩⟩⟩⟩⟩⟩⟩
theorem inst_0 : Cond.instantiable RX0 3 ∈ tables_1 := List.mem_of_getElem? (i := 41) (by decide +kernel)
theorem inst_1 : Cond.instantiable RX1 3 ∈ tables_1 := List.mem_of_getElem? (i := 134) (by decide +kernel)
theorem inst_2 : Cond.instantiable RX2 7 ∈ tables_1 := List.mem_of_getElem? (i := 153) (by decide +kernel)
theorem inst_3 : Cond.instantiable RX3 9 ∈ tables_1 := List.mem_of_getElem? (i := 60) (by decide +kernel)
theorem inst_4 : Cond.instantiable RX4 1 ∈ tables_1 := List.mem_of_getElem? (i := 27) (by decide +kernel)
theorem inst_5 : Cond.instantiable RX5 8 ∈ tables_1 := List.mem_of_getElem? (i := 21) (by decide +kernel)
theorem inst_6 : Cond.instantiable RX6 4 ∈ tables_1 := List.mem_of_getElem? (i := 13) (by decide +kernel)
theorem inst_7 : Cond.instantiable RX7 13 ∈ tables_1 := List.mem_of_getElem? (i := 730) (by decide +kernel)
theorem arr_I : Cond.arrayClass .int ∈ tables_1 := List.mem_of_getElem? (i := 39) (by decide +kernel)
theorem arr_Z : Cond.arrayClass .boolean ∈ tables_1 := List.mem_of_getElem? (i := 775) (by decide +kernel)
theorem arr_W : Cond.arrayOver (.object RX5) ∈ tables_1 := List.mem_of_getElem? (i := 140) (by decide +kernel)
theorem tb_in {w : Cond} (h : w ∈ tables_1) : w ∈ lw_tbl := List.mem_append_right _ h
theorem kn_all {s : State} {b : Nat} (hts : ∀ w ∈ lw_tbl, w.before #[Value.ref b] s = true) : ∃ (dC : Nat → ClassId) (dI : Nat → Nat → Nat), ∀ (k : Nat) (q : vw_C), vwCl[k]? = some q → u_Kn s q.1 q.2.1 q.2.2 (dC k) (dI k) := by
  obtain ⟨c0, i0, k0⟩ := u_known (C := RX0) (T := TX0) (N := 3) (n := 3) hts inX0 (hts _ (tb_in inst_0))
  obtain ⟨c1, i1, k1⟩ := u_known (C := RX1) (T := TX1) (N := 3) (n := 3) hts inX1 (hts _ (tb_in inst_1))
  obtain ⟨c2, i2, k2⟩ := u_known (C := RX2) (T := TX2) (N := 7) (n := 7) hts inX2 (hts _ (tb_in inst_2))
  obtain ⟨c3, i3, k3⟩ := u_known (C := RX3) (T := TX3) (N := 9) (n := 9) hts inX3 (hts _ (tb_in inst_3))
  obtain ⟨c4, i4, k4⟩ := u_known (C := RX4) (T := TX4) (N := 1) (n := 1) hts inX4 (hts _ (tb_in inst_4))
  obtain ⟨c5, i5, k5⟩ := u_known (C := RX5) (T := TX5) (N := 8) (n := 8) hts inX5 (hts _ (tb_in inst_5))
  obtain ⟨c6, i6, k6⟩ := u_known (C := RX6) (T := TX6) (N := 4) (n := 4) hts inX6 (hts _ (tb_in inst_6))
  obtain ⟨c7, i7, k7⟩ := u_known (C := RX7) (T := TX7) (N := 13) (n := 13) hts inX7 (hts _ (tb_in inst_7))
  refine ⟨fun k => if k = 0 then c0 else if k = 1 then c1 else if k = 2 then c2 else if k = 3 then c3 else if k = 4 then c4 else if k = 5 then c5 else if k = 6 then c6 else c7, fun k => if k = 0 then i0 else if k = 1 then i1 else if k = 2 then i2 else if k = 3 then i3 else if k = 4 then i4 else if k = 5 then i5 else if k = 6 then i6 else i7, ?_⟩
  intro k q hq
  match k, hq with
  | 0, hq => cases hq; exact k0
  | 1, hq => cases hq; exact k1
  | 2, hq => cases hq; exact k2
  | 3, hq => cases hq; exact k3
  | 4, hq => cases hq; exact k4
  | 5, hq => cases hq; exact k5
  | 6, hq => cases hq; exact k6
  | 7, hq => cases hq; exact k7
  | k + 8, hq => simp [vwCl] at hq
theorem arr_known {s : State} {ty : FieldType} {args : Array Value} (h : (Cond.arrayClass ty).before args s = true) : ∃ cA, ArrOfT s cA ty ∧ s.vm.findClass ("[" ++ ty.toString) = some cA := by
  obtain ⟨cA, kA, comp, h1, h2, h3⟩ := Cond.arrayClass_spec h
  exact ⟨cA, fun n z => ⟨fun k h => (by cases h), kA, h2, comp, h3⟩, h1⟩
/-- the law's own context -/
theorem lw_ctx {p : Program} {s : State} {m : MethodId} {meth : Method} {c : Code} {b L : Nat} {xs : Nat → Int32} (C0 : lw_At p s m meth c b L xs) : ∃ k, gC k p s m #[Value.ref b] meth c cL_law RL 4 wsL_law ∧ va_AO RX5 s := by
  obtain ⟨hx, hb, hr, hml, hown, hts, hX, hbl, hlocks, hgv⟩ := C0
  obtain ⟨dC, dI, hK⟩ := kn_all hts
  obtain ⟨cI, aI, nI1⟩ := arr_known (hts _ (tb_in arr_I))
  obtain ⟨cZ, aZ, nZ1⟩ := arr_known (hts _ (tb_in arr_Z))
  obtain ⟨comp, cW, kW, w1, -, w3, w4, w5⟩ := Cond.arrayOver_spec (hts _ (tb_in arr_W))
  have aW : ArrOfT s cW (.object RX5) := fun n z => ⟨fun k h => (by cases h), kW, w3, comp, w4⟩
  refine ⟨((dC, dI), cI, cZ, cW), ⟨hx, hb, hml, hown, fun w h => hts w (wsL_law_in w h), ⟨⟨hK, fun j q hj => ?_⟩, fun q hq => va_Nw.of rfl (hts _ (tb_in (gNF_tbl q hq))), fun q hq => va_Nw.of rfl (hts _ (tb_in (gNM_tbl q hq)))⟩, hlocks⟩, va_AO.of (A := #[Value.ref b]) (hts _ (tb_in arr_W))⟩
  match j, hj with
  | 0, hj => cases hj; exact ⟨aI, nI1⟩
  | 1, hj => cases hj; exact ⟨aZ, nZ1⟩
  | 2, hj => cases hj; exact ⟨aW, kW, comp, w3, w4, w1, w5⟩
  | j + 3, hj => simp [gTy] at hj
/-! two pools side by side -/
theorem pl_at {D : va_G} {cl : List vw_C} {L : List Nat} {f : Nat → va_E} {H : Heap} : va_P D cl (va_pl L f) H ↔ ∀ a ∈ L, va_at D cl (a, f a) H := by
  constructor
  · intro h a ha
    obtain ⟨i, hi⟩ := gGet (f := f) ha
    exact h i _ hi
  · intro h j q hq
    rw [va_pl, List.getElem?_map] at hq
    obtain ⟨a, ha, rfl⟩ := Option.map_eq_some_iff.mp hq
    exact h a (List.mem_of_getElem? ha)
theorem pl_kept {D : va_G} {cl : List vw_C} {L : List Nat} {f : Nat → va_E} {H H1 : Heap} (h : va_P D cl (va_pl L f) H) (hq : ∀ a ∈ L, a < H.size → H1[a]? = H[a]?) : va_P D cl (va_pl L f) H1 := h.kept (fun j q hj => by
  have hlt := (h j q hj).lt
  rw [va_pl, List.getElem?_map] at hj
  obtain ⟨a, ha, rfl⟩ := Option.map_eq_some_iff.mp hj
  exact hq a (List.mem_of_getElem? ha) hlt)
theorem pl_lt {D : va_G} {cl : List vw_C} {L : List Nat} {f : Nat → va_E} {H : Heap} (h : va_P D cl (va_pl L f) H) {a : Nat} (ha : a ∈ L) : a < H.size := (pl_at.mp h a ha).lt
section LW
variable {p : Program} {l : Launch} {e : Env} {R : Room} {s : State} {m : MethodId} {args : Array Value} {below : List Frame} {meth : Method} {c : Code} {k : gK} {cc : ByteArray} {own : String} {nL : Nat} {Ts : List Cond} {A : Nat → Prop} {H0 H : Heap} {locs : List Loc} {ls : Array Slot} {Q : State → Prop} {La Lb : List Nat} {cells slots : Nat} {f g : Nat → va_E} {pc : Nat} {lv : List (Nat × Value)} {rest st : List Value}
theorem lw_callM (C : gC k p s m args meth c cc own nL Ts) (hA : ∀ a ∈ La, A a) (hdj : ∀ a ∈ Lb, a ∉ La) (hPa : va_P k.1 vwCl (va_pl La f) H) (hPb : va_P k.1 vwCl (va_pl Lb g) H) (hS : va_S A H0 H locs) (hl : lv_has ls nL lv) {y : MethodName} {bytes : ByteArray} {maxL n index : Nat} {ret : Option FieldType} {ws : List Cond} {rm : Room} {As : List Value} {b ci : Nat} {q : vw_C} {fs : List Value} {P : Option Value → (Nat → va_E) → Prop} {x : Int32} (hM : kM l k La f y ws rm (.ref b :: As) P) (hp : ∀ v f2, P v f2 → v = some (.int x)) (hb : b ∈ La) (hfb : f b = .inr (ci, fs)) (hc : vwCl[ci]? = some q) (cw : CallW R s args own q.1 index y bytes maxL ret ws rm 0 0 n) (hn : As.length = n) (hst : st = As.reverse ++ .ref b :: rest) (hrm : (rest.map fun v => v.category).sum ≤ 8) (hzz : cells ≤ R.cells ∧ slots ≤ R.slots) (hdg : decode cc pc = .ok (.invokevirtual index, 3))
    (kk : ∀ v f2 H1 locs1, P v f2 → va_P k.1 vwCl (va_pl La f2) H1 → va_P k.1 vwCl (va_pl Lb g) H1 → va_S A H0 H1 locs1 → W p l e R s m args below meth c H1 locs1 cells slots Q (F0 m (pc + 3) ls (.int x :: rest))) : W p l e R s m args below meth c H locs cells slots Q (F0 m pc ls st) := by
  subst hst
  have hr : CallRun p l e R s m args below meth c H locs cells slots 0 0 (F0 m pc ls (As.reverse ++ .ref b :: rest)) rest (gQM k La P _) (fun q => q ∈ La) := W.runV (gFix C) hM cw (gPreV C.2.2.2.2.2.1 hPa hb hfb hc) rfl hn hl.1 rfl (lv_room hrm) hdg hzz
  intro T hT X
  obtain ⟨v, st₀, t, T', L1, h0, X', hL, e1, ⟨v2, f2, hv, hpp, hP2, hF⟩, stt⟩ := hr T hT X
  cases hv
  have hx := hp v f2 hpp
  subst hx
  obtain ⟨hz, hk⟩ := hF
  rw [h0] at hz hk
  obtain ⟨t2, a1, b1⟩ := kk _ f2 t.heap (locs ++ L1) hpp hP2 (pl_kept hPb (fun a ha hlt => hk a hlt (hdj a ha))) ⟨Nat.le_trans hS.1 hz, fun q h1 h2 => (hk q (Nat.lt_of_lt_of_le h1 hS.1) (fun z => h2 (hA q z))).trans (hS.2.1 q h1 h2), fun q hq => by
      rcases List.mem_append.mp hq with h | h
      · exact hS.2.2 q h
      · exact hA _ (hL q h)⟩ T' e1 X'
  exact ⟨t2, stt t2 a1, b1⟩
theorem lw_callR (C : gC k p s m args meth c cc own nL Ts) (hPa : va_P k.1 vwCl (va_pl La f) H) (hl : lv_has ls nL lv) {y : MethodName} {bytes : ByteArray} {maxL n index : Nat} {ret : Option FieldType} {ws : List Cond} {rm : Room} {As : List Value} {b ci : Nat} {q : vw_C} {fs : List Value} {v : Value} (hM : kR l k La f y ws rm (.ref b :: As) v) (hb : b ∈ La) (hfb : f b = .inr (ci, fs)) (hc : vwCl[ci]? = some q) (cw : CallW R s args own q.1 index y bytes maxL ret ws rm 0 0 n) (hn : As.length = n) (hst : st = As.reverse ++ .ref b :: rest) (hrm : (rest.map fun v => v.category).sum ≤ 8) (hzz : cells ≤ R.cells ∧ slots ≤ R.slots) (hdg : decode cc pc = .ok (.invokevirtual index, 3))
    (kk : W p l e R s m args below meth c H locs cells slots Q (F0 m (pc + 3) ls (v :: rest))) : W p l e R s m args below meth c H locs cells slots Q (F0 m pc ls st) := by
  subst hst
  exact gCallR (W.runV (gFix C) hM cw (gPreV C.2.2.2.2.2.1 hPa hb hfb hc) rfl hn hl.1 rfl (lv_room hrm) hdg hzz) kk
theorem lw_callA (C : gC k p s m args meth c cc own nL Ts) (hAO : va_AO RX5 s) (hA : ∀ a ∈ La, A a) (hAn : ∀ q, H0.size ≤ q → A q) (hdj : ∀ a ∈ Lb, a ∉ La) (hPa : va_P k.1 vwCl (va_pl La f) H) (hPb : va_P k.1 vwCl (va_pl Lb g) H) (hS : va_S A H0 H locs) (hl : lv_has ls nL lv) {y : MethodName} {bytes : ByteArray} {maxL n index mc ms : Nat} {ret : Option FieldType} {ws : List Cond} {rm : Room} {As : List Value} {b ci : Nat} {q : vw_C} {fs : List Value} {P : Option Value → List Nat → (Nat → va_E) → Prop} {x : Int32} (hM : kA l k La f y ws rm (.ref b :: As) mc ms P) (hp : ∀ v N f2, P v N f2 → v = some (.int x)) (hb : b ∈ La) (hfb : f b = .inr (ci, fs)) (hc : vwCl[ci]? = some q) (cw : CallW R s args own q.1 index y bytes maxL ret ws rm mc ms n) (hn : As.length = n) (hst : st = As.reverse ++ .ref b :: rest) (hrm : (rest.map fun v => v.category).sum ≤ 8) (hzz : cells + mc ≤ R.cells ∧ slots + ms ≤ R.slots) (hdg : decode cc pc = .ok (.invokevirtual index, 3))
    (kk : ∀ v N f2 H1 locs1, P v N f2 → (La ++ N).Nodup → (∀ a ∈ La ++ N, A a) → (∀ a ∈ Lb, a ∉ La ++ N) → va_P k.1 vwCl (va_pl (La ++ N) f2) H1 → va_P k.1 vwCl (va_pl Lb g) H1 → va_S A H0 H1 locs1 → W p l e R s m args below meth c H1 locs1 (cells + mc) (slots + ms) Q (F0 m (pc + 3) ls (.int x :: rest))) : W p l e R s m args below meth c H locs cells slots Q (F0 m pc ls st) := by
  subst hst
  have hr : CallRun p l e R s m args below meth c H locs cells slots mc ms (F0 m pc ls (As.reverse ++ .ref b :: rest)) rest (gQA k La P H.size _) (fun q => q ∈ La ∨ H.size ≤ q) := W.runV (gFix C) (hM H.size) cw (gPreVA C.2.2.2.2.2.1 hAO hPa hb hfb hc) rfl hn hl.1 rfl (lv_room hrm) hdg hzz
  intro T hT X
  obtain ⟨v, st₀, t, T', L1, h0, X', hL, e1, ⟨v2, N, f2, hv, hpp, hP2, hN, hNz, hF⟩, stt⟩ := hr T hT X
  cases hv
  have hx := hp v N f2 hpp
  subst hx
  obtain ⟨hz, hk⟩ := hF
  rw [h0] at hz hk
  have hA2 : ∀ q, q ∈ La ∨ H.size ≤ q → A q := fun q h => h.elim (hA q) (fun z => hAn q (Nat.le_trans hS.1 z))
  obtain ⟨t2, a1, b1⟩ := kk _ N f2 t.heap (locs ++ L1) hpp hN (fun a ha => (List.mem_append.mp ha).elim (hA a) (fun z => hA2 a (Or.inr (hNz a z)))) (fun a ha hm => (List.mem_append.mp hm).elim (hdj a ha) (fun z => by have := hNz a z; have := pl_lt hPb ha; omega)) hP2 (pl_kept hPb (fun a ha hlt => hk a hlt (hdj a ha))) ⟨Nat.le_trans hS.1 hz, fun q h1 h2 => (hk q (Nat.lt_of_lt_of_le h1 hS.1) (fun z => h2 (hA q z))).trans (hS.2.1 q h1 h2), fun q hq => by
      rcases List.mem_append.mp hq with h | h
      · exact hS.2.2 q h
      · exact hA2 _ (hL q h)⟩ T' e1 X'
  exact ⟨t2, stt t2 a1, b1⟩
end LW
abbrev lwl (b h1 o0 i : Nat) : List (Nat × Value) := [(0, .ref b), (1, .ref h1), (2, .ref o0), (3, .int (nI i))]
/-- a number of the script, j behind the i-th -/
theorem lw_arg {p : Program} {l : Launch} {e : Env} {s : State} {m : MethodId} {below : List Frame} {meth : Method} {c : Code} {b L : Nat} {xs : Nat → Int32} (hL : L ≤ 2048) (C0 : lw_At p s m meth c b L xs) {H : Heap} {locs : List Loc} {ls : Array Slot} {cells slots h1 o0 i : Nat} {Q : State → Prop} (hS : va_S (fun q : Nat => s.heap.size ≤ q) s.heap H locs) (hl : lv_has ls 4 (lwl b h1 o0 i)) {pc : Nat} (j : Nat) {jc : Int} {st : List Value} (hj : i + j < L) (hjc : Int32.ofInt jc = nI j) (d0 : decode cL_law pc = .ok (.aload_n 0, 1)) (d1 : decode cL_law (pc + 1) = .ok (.iload_n 3, 1)) (d2 : decode cL_law (pc + 1 + 1) = .ok (.iconst jc, 1)) (d3 : decode cL_law (pc + 1 + 1 + 1) = .ok (.iadd, 1)) (d4 : decode cL_law (pc + 1 + 1 + 1 + 1) = .ok (.iaload, 1)) (kk : W p l e room_1 s m #[Value.ref b] below meth c H locs cells slots Q (F0 m (pc + 1 + 1 + 1 + 1 + 1) ls (.int (xs (i + j)) :: st))) : W p l e room_1 s m #[Value.ref b] below meth c H locs cells slots Q (F0 m pc ls st) := by
  obtain ⟨hx, hb, hr, hml, hown, hts, hX, hbl, hlocks, hgv⟩ := C0
  have hbA : ¬ (fun q : Nat => s.heap.size ≤ q) b := Nat.not_le.mpr hbl
  refine lv_aload_n hx hb d0 rfl (lv_at hl 0 rfl) ?_
  refine lv_iload_n hx hb d1 rfl (lv_at hl 3 rfl) ?_
  refine lv_iconst hx hb d2 hjc ?_
  refine lv_iadd hx hb d3 ?_
  rw [nI_add]
  refine va_sld hx hb hX hbl hbA hS (vp_in_nI hj (by omega)) d4 ?_
  rw [nI_clamp (by omega)]
  exact kk
/-- what the two objects hold, between two calls -/
def LI (s : State) (k : gK) (h1 o0 K : Nat) (H : Heap) (locs : List Loc) : Prop := ∃ q y A o L1 f1 L2 f2, Rel K q y ∧ isPN k L1 f1 A q ∧ isMS k L2 f2 o y ∧ A 0 = h1 ∧ o 0 = o0 ∧ L1.Nodup ∧ L2.Nodup ∧ (∀ a ∈ L1, s.heap.size ≤ a) ∧ (∀ a ∈ L2, s.heap.size ≤ a) ∧ (∀ a ∈ L1, a ∉ L2) ∧ va_P k.1 vwCl (va_pl L1 f1) H ∧ va_P k.1 vwCl (va_pl L2 f2) H ∧ va_S (fun q : Nat => s.heap.size ≤ q) s.heap H locs
theorem Rel_H {K : Nat} {q : PS} {y : MS} (h : Rel K q y) : pHK q ∧ wOK q.1 ∧ mKK y ∧ mOK y ∧ mQK y ∧ ∀ i, i < mN y → hPu y i := by
  have hw := R_wr h
  obtain ⟨i1, i2, i3⟩ := I_z ⟨K, q.1, hw⟩
  obtain ⟨nx, kp, n, ⟨a1, a2, a3⟩, ⟨b1, b2, b3⟩, -⟩ := h
  have e1 : cl (pH q 0) = nx := by rw [b1]; exact cl_n (by omega)
  have e2 : mKn y = kp := by unfold mKn; rw [b3]; exact cl_n (by omega)
  refine ⟨?_, I_w ⟨K, _, hw⟩, ?_, i1, i2, i3⟩
  · unfold pHK; rw [e1]; exact ⟨b1, a1⟩
  · unfold mKK; rw [e2]; exact ⟨b3, a2⟩
theorem WR_ini : WR 0 wIni (mIni.1 0) := by
  have hb : ∀ j, 215 ≤ j → j < 320 → zIn 105 j = -6 := fun j h1 h2 => if_pos ⟨h1, by omega⟩
  refine ⟨0, 0, 0, ⟨by decide, by decide, by decide, by decide, by decide, by decide⟩, ?_, ?_, ⟨?_, ?_⟩, ?_, ?_, ?_, fun p hp => absurd hp (Nat.not_lt_zero _), fun p q hp => absurd hp (Nat.not_lt_zero _), (show zIn 105 9 = 0 by decide +kernel)⟩
  · intro i hi
    rcases (show i = 0 ∨ i = 1 ∨ i = 2 ∨ i = 3 by omega) with rfl | rfl | rfl | rfl
    · exact ⟨by decide, 2, by decide, by decide⟩
    · exact ⟨by decide, 8, by decide, by decide⟩
    · exact ⟨by decide, 120, by decide, by decide⟩
    · exact ⟨by decide, 3, by decide, by decide⟩
  · intro i hi
    rcases (show i = 0 ∨ i = 1 ∨ i = 2 ∨ i = 3 by omega) with rfl | rfl | rfl | rfl <;> exact ⟨by decide, 20, by decide, by decide⟩
  · show ∀ i, i < 10 → wIni.1 11 i = zIn 105 (15 + i)
    decide +kernel
  · show zIn 105 10 = suI (fun i => zIn 105 (15 + i)) 10
    decide +kernel
  · show wIni.2 1 = mk (fun k => decide (zIn 105 (25 + k) = 1)) 10
    decide +kernel
  · intro wh ah h1 h2
    exact Or.inl ⟨hb _ (by omega) (by omega), rfl⟩
  · intro ah wh wh2 h1 h2 h3 _ h
    exact absurd (hb _ (by omega) (by omega)) h
theorem Rel_ini : Rel 0 psIni mIni := ⟨0, 0, 0, ⟨by decide, by decide, by decide⟩, ⟨rfl, rfl, rfl⟩, WR_ini, fun k hk => absurd hk (Nat.not_lt_zero _), fun i _ => Or.inl ⟨rfl, rfl⟩, rfl, rfl, fun i hi => absurd hi (Nat.not_lt_zero _)⟩
