/-! a number of the script, read by the law's own method; the tie at the start -/
theorem kdN_L_cell : yL_cell.cls ≠ "java/lang/invoke/MethodHandle" ∧ yL_cell.cls ≠ "java/lang/invoke/VarHandle" ∧ (parseMethodDescriptor yL_cell.desc).map (fun d => d.parameters.length) = some 2 := by decide +kernel
def scX (L : Nat) (xs : Nat → Int32) (j : Nat) : Int32 := if j < L then xs j else 1359893119 * (nI j + 1)
theorem wd_L_cell_k7 : Cond.constant RL 7 (1359893119) ∈ wsL_cell := by decide +kernel
abbrev rmL_cell : Room := { frames := 0, cells := 0, slots := 0, locals := 0 }
theorem m_L_cell (l : Launch) {b L : Nat} {xs : Nat → Int32} (hL : L < 2 ^ 31) (j : Nat) (hj : j < 2 ^ 31) : Met l yL_cell wsL_cell rmL_cell (va_Pc [.ref b, .int (nI j)] (fun U => va_X b L xs U U.heap ∧ b < U.heap.size)) (gQR (.int (scX L xs j))) 0 0 (fun _ => False) := by
  refine Met.ofW (cc := cL_cell) (maxL := 2) (ret := (some .int)) (by decide) rfl ?_
  intro p e s m args below meth c s₁ B hml hv
  obtain ⟨rfl, hX, hbl⟩ := hv
  have hts := atoms_spec (ws := wsL_cell) B.pre
  have hx := B.exec
  have hb := B.bytes
  have hown : s.vm.findClass RL = some m.cls := findClass_of_methodNamed B.named
  have hr := B.returns
  have hlk := B.notSynchronized
  rw [lg_entry_eq]
  have hl := lv_entry ([.ref b, .int (nI j)]) (n := 2) (Nat.le_of_ble_eq_true rfl)
  have hbA : ¬ (fun q : Nat => s.heap.size ≤ q) b := Nat.not_le.mpr hbl
  have hS : va_S (fun q : Nat => s.heap.size ≤ q) s.heap s.heap [] := va_S.rf
  refine lv_iload_n hx hb dL_cell_0 rfl (lv_at hl 1 rfl) ?_
  refine lv_aload_n hx hb dL_cell_1 rfl (lv_at hl 0 rfl) ?_
  refine va_slen hx hb hX hbl hbA hS dL_cell_2 ?_
  refine lv_icmp_ge (tgt := 12) hx hb dL_cell_3 (by decide) (fun h => ?_) (fun h => ?_)
  · have hj2 : ¬ j < L := by
      have h2 := Int32.le_iff_toInt_le.mp h
      rw [show Int32.ofNat L = nI L from rfl, nI_toInt hL, nI_toInt hj] at h2
      omega
    refine lv_ldc hx hb hown (hts _ wd_L_cell_k7) dL_cell_12 ?_
    refine lv_iload_n hx hb dL_cell_14 rfl (lv_at hl 1 rfl) ?_
    refine lv_iconst (v := 1) hx hb dL_cell_15 (by decide) ?_
    refine lv_iadd hx hb dL_cell_16 ?_
    refine lv_imul hx hb dL_cell_17 ?_
    exact W.iret hx hb hr (fun t ht hW => ⟨by rw [scX, if_neg hj2], ht⟩) (fun q hq => absurd hq List.not_mem_nil) dL_cell_18 hlk
  · have hj2 : j < L := by
      have h2 := mt Int32.le_iff_toInt_le.mpr h
      rw [show Int32.ofNat L = nI L from rfl, nI_toInt hL, nI_toInt hj] at h2
      omega
    refine lv_aload_n hx hb dL_cell_6 rfl (lv_at hl 0 rfl) ?_
    refine lv_iload_n hx hb dL_cell_7 rfl (lv_at hl 1 rfl) ?_
    refine va_sld hx hb hX hbl hbA hS (vp_in_nI hj2 hL) dL_cell_8 ?_
    rw [nI_clamp (by omega)]
    refine lv_goto (tgt := 18) hx hb dL_cell_9 (by decide) ?_
    exact W.iret hx hb hr (fun t ht hW => ⟨by rw [scX, if_pos hj2], ht⟩) (fun q hq => absurd hq List.not_mem_nil) dL_cell_18 hlk
section CE
variable {p : Program} {l : Launch} {e : Env} {R : Room} {s : State} {m : MethodId} {args : Array Value} {below : List Frame} {meth : Method} {c : Code} {k : gK} {cc : ByteArray} {nL : Nat} {Ts : List Cond} {rd : Prop} {A : Nat → Prop} {H0 : Heap} {Q : State → Prop} {L : List Nat} {cells slots : Nat} {f : Nat → va_E} {pc : Nat} {lv : List (Nat × Value)} {rest st : List Value}
theorem gx_cell (C : gC k p s m args meth c cc RL nL Ts) {b n : Nat} {xs : Nat → Int32} (hX : va_X b n xs s H0) (hbl : b < H0.size) (hbA : ¬ A b) (hL : n < 2 ^ 31) {i : Int32} {j index : Nat} (hi : i = nI j) (hj : j < 2 ^ 31) (cw : CallB R s args RL index yL_cell cL_cell 2 (some .int) wsL_cell rmL_cell 0 0 2 ∧ (Cond.static yL_cell).before args s = true) (hrm : (rest.map fun v => v.category).sum ≤ 8) (hzz : cells ≤ R.cells ∧ slots ≤ R.slots) (hdg : decode cc pc = .ok (.invokestatic index, 3)) (kk : ∀ x, gW p l e R s m args below meth c k nL rd A H0 Q L cells slots f (pc + 3) lv (.int x :: rest)) : gW p l e R s m args below meth c k nL rd A H0 Q L cells slots f pc lv (.int i :: .ref b :: rest) := by
  subst hi
  intro H locs ls hP hS hr hl
  have hp : PreS s H (va_Pc [.ref b, .int (nI j)] (fun U => va_X b n xs U U.heap ∧ b < U.heap.size)) [.ref b, .int (nI j)] :=
    ⟨fun a U g mk h => ⟨h.1, va_X.moved (u := U) (U := U.calling g mk a) (Vm.Alike.refl U.vm) h.2.1, h.2.2⟩, fun U hU hW => ⟨rfl, by rw [hU]; exact va_X.moved hW.alike (hX.kept (hS.2.1 b hbl hbA)), by rw [hU]; exact Nat.lt_of_lt_of_le hbl hS.1⟩⟩
  exact gCallR (st0 := [.ref b, .int (nI j)].reverse ++ rest) (W.runS (gFix C) (m_L_cell l hL j hj) cw hp rfl rfl hl.1 rfl (lv_room hrm) hdg hzz) (kk _ H locs ls hP hS hr hl)
theorem gx_re {La : List Nat} (h : L = La) (kk : gW p l e R s m args below meth c k nL rd A H0 Q La cells slots f pc lv st) : gW p l e R s m args below meth c k nL rd A H0 Q L cells slots f pc lv st := by subst h; exact kk
end CE
def gI0 : Nat → Int32 := upd (upd (upd (upd (upd (upd (upd (upd (upd (fun _ => 0) 1 1) 2 2) 3 8) 4 120) 5 3) 11 20) 12 20) 13 20) 14 20
def zI0 : Nat → Int32 := fun j => if 215 ≤ j ∧ j < 320 then -6 else gI0 j
def zsI : ZS := (gI0, fun _ => 0, fun _ => 0, fun _ => 0)
theorem WR_ini : WR 0 wIni (zI0) := by
  have hb : ∀ j, 215 ≤ j → j < 320 → zI0 j = -6 := fun j h1 h2 => if_pos ⟨h1, by omega⟩
  refine ⟨0, 0, 0, ⟨by decide, by decide, by decide, by decide, by decide, by decide⟩, ?_, ?_, ⟨?_, ?_⟩, ?_, ?_, ?_, fun p hp => absurd hp (Nat.not_lt_zero _), fun p q hp => absurd hp (Nat.not_lt_zero _), (show zI0 9 = 0 by decide +kernel)⟩
  · intro i hi
    rcases (show i = 0 ∨ i = 1 ∨ i = 2 ∨ i = 3 by omega) with rfl | rfl | rfl | rfl
    · exact ⟨by decide, 2, by decide, by decide⟩
    · exact ⟨by decide, 8, by decide, by decide⟩
    · exact ⟨by decide, 120, by decide, by decide⟩
    · exact ⟨by decide, 3, by decide, by decide⟩
  · intro i hi
    rcases (show i = 0 ∨ i = 1 ∨ i = 2 ∨ i = 3 by omega) with rfl | rfl | rfl | rfl <;> exact ⟨by decide, 20, by decide, by decide⟩
  · show ∀ i, i < 10 → wIni.1 11 i = zI0 (15 + i)
    decide +kernel
  · show zI0 10 = suI (fun i => zI0 (15 + i)) 10
    decide +kernel
  · show wIni.2 1 = mk (fun k => decide (zI0 (25 + k) = 1)) 10
    decide +kernel
  · intro wh ah h1 h2
    exact Or.inl ⟨hb _ (by omega) (by omega), rfl⟩
  · intro ah wh wh2 h1 h2 h3 _ h
    exact absurd (hb _ (by omega) (by omega)) h
theorem IV_ini : IV 0 psIni zI0 zsI := by
  have hb : ∀ j, 215 ≤ j → j < 320 → zI0 j = -6 := fun j h1 h2 => if_pos ⟨h1, h2⟩
  refine ⟨⟨rfl, by decide⟩, WR_ini, 0, 0, 0, 1, ⟨by decide, by decide, by decide, by decide⟩, ⟨by decide +kernel, by decide +kernel, by decide +kernel, by decide +kernel, 2, by decide, by decide +kernel⟩, ?_, ?_, ⟨fun w a h1 h2 => Or.inl ⟨hb _ (by omega) (by omega), rfl⟩, fun w a h1 h2 h3 => hb _ (by omega) (by omega)⟩, fun p hp => absurd hp (Nat.not_lt_zero _)⟩
  · intro j hj
    exact (if_neg (by omega)).symm
  · intro i hi
    have key : ∀ i, i < 10 → (0 : Int32) = zI0 (25 + i) ∧ (0 : Int32) = zI0 (15 + i) := by decide +kernel
    exact key i hi
theorem lw_0 {k : gK} {L1 : List Nat} {f : Nat → va_E} {A : Nat → Nat} {q : PS} {qg qb qk qt : Nat} (hN : (L1 ++ [qg, qb, qk, qt]).Nodup) (h : isPN k L1 f A q) (g : Nat → Int32) (b : Nat → Int64) (kk t : Nat → Int32) : isLW k L1 [qg, qb, qk, qt] (va_up (va_up (va_up (va_up f qg (gIA k 15 g)) qb (gLA k 20 b)) qk (gIA k 31 kk)) qt (gIA k 20 t)) A q (fun i => [qg, qb, qk, qt].getD i 0) (g, b, kk, t) := by
  obtain ⟨-, h2, h3⟩ := List.nodup_append.mp hN
  simp only [List.nodup_cons, List.mem_cons, List.not_mem_nil, or_false, not_or, not_false_eq_true, and_true, List.nodup_nil] at h2
  obtain ⟨⟨n1, n2, n3⟩, ⟨n4, n5⟩, n6⟩ := h2
  have m1 : ∀ x ∈ L1, x ≠ qg := fun x hx => h3 x hx qg (by simp)
  have m2 : ∀ x ∈ L1, x ≠ qb := fun x hx => h3 x hx qb (by simp)
  have m3 : ∀ x ∈ L1, x ≠ qk := fun x hx => h3 x hx qk (by simp)
  have m4 : ∀ x ∈ L1, x ≠ qt := fun x hx => h3 x hx qt (by simp)
  refine ⟨isPN_cong h (fun x hx => by rw [va_up_of _ (m4 x hx), va_up_of _ (m3 x hx), va_up_of _ (m2 x hx), va_up_of _ (m1 x hx)]), ⟨fun i hi => ?_, fun i j hi hj => ?_, ?_, ?_, ?_, ?_⟩, fun a ha hm => h3 a hm a ha rfl⟩
  · rcases (show i = 0 ∨ i = 1 ∨ i = 2 ∨ i = 3 by omega) with rfl | rfl | rfl | rfl <;> simp
  · rcases (show i = 0 ∨ i = 1 ∨ i = 2 ∨ i = 3 by omega) with rfl | rfl | rfl | rfl <;> rcases (show j = 0 ∨ j = 1 ∨ j = 2 ∨ j = 3 by omega) with rfl | rfl | rfl | rfl <;> intro e <;> first | rfl | exact absurd e (by assumption) | exact absurd e.symm (by assumption)
  · show va_up (va_up (va_up (va_up f qg (gIA k 15 g)) qb (gLA k 20 b)) qk (gIA k 31 kk)) qt (gIA k 20 t) qg = _
    rw [va_up_of _ n3, va_up_of _ n2, va_up_of _ n1, va_up_at]
  · show va_up (va_up (va_up (va_up f qg (gIA k 15 g)) qb (gLA k 20 b)) qk (gIA k 31 kk)) qt (gIA k 20 t) qb = _
    rw [va_up_of _ n5, va_up_of _ n4, va_up_at]
  · show va_up (va_up (va_up (va_up f qg (gIA k 15 g)) qb (gLA k 20 b)) qk (gIA k 31 kk)) qt (gIA k 20 t) qk = _
    rw [va_up_of _ n6, va_up_at]
  · show va_up (va_up (va_up (va_up f qg (gIA k 15 g)) qb (gLA k 20 b)) qk (gIA k 31 kk)) qt (gIA k 20 t) qt = _
    rw [va_up_at]
