theorem kdN_X6_count : yX6_count.cls ≠ "java/lang/invoke/MethodHandle" ∧ yX6_count.cls ≠ "java/lang/invoke/VarHandle" ∧ (parseMethodDescriptor yX6_count.desc).map (fun d => d.parameters.length) = some 1 := by decide +kernel
theorem kdV_X6_count : yX6_count.cls = RX6 ∧ yX6_count.cls ≠ "java/lang/invoke/MethodHandle" ∧ yX6_count.cls ≠ "java/lang/invoke/VarHandle" ∧ (parseMethodDescriptor yX6_count.desc).map (fun d => d.parameters.length) = some 1 := ⟨rfl, kdN_X6_count⟩
def vX6_count (q0 : PS) (what : Int32) : Int32 := (if what = 19 then ((pPad q0).2 0) else (if what = 20 then (vX1_kept q0 ) else (vX5_figure q0.1 what)))
theorem in_X6_count_6 : ∀ w ∈ u_ws RX6 TX6 4, w ∈ wsX6_count := by decide +kernel
theorem fl_X6_count_30 : Cond.fieldLink RX6 30 (TX6 3).1 (TX6 3).2.1 (TX6 3).2.2.1 ∈ wsX6_count := by decide +kernel
theorem fl_X6_count_19 : Cond.fieldLink RX6 19 (TX6 1).1 (TX6 1).2.1 (TX6 1).2.2.1 ∈ wsX6_count := by decide +kernel
theorem fl_X6_count_12 : Cond.fieldLink RX6 12 (TX6 0).1 (TX6 0).2.1 (TX6 0).2.2.1 ∈ wsX6_count := by decide +kernel
abbrev rmX6_count : Room := { frames := 6, cells := 0, slots := 0, locals := 131 }
set_option maxHeartbeats 4000000 in
set_option maxRecDepth 100000 in
theorem k_X6_count (l : Launch) {k : gK} {L : List Nat} {f : Nat → va_E} {A : Nat → Nat} {q0 : PS} (hP : isPN k L f A q0) (hN : wOK q0.1) (what : Int32) : kR l k L f yX6_count wsX6_count rmX6_count [.ref (A 0), .int what] (.int (vX6_count q0 what)) := by
  refine kR_of (cc := cX6_count) (maxL := 2) (ret := (some .int)) (by decide) rfl (Nat.le_of_ble_eq_true rfl) ?_
  intro p e s m args below meth c C hr
  refine gx_lv [(0, _), (1, _)] [0, 1] rfl ?_
  refine gx_iload_n (q := 1) C dX6_count_0 rfl ?_
  by_cases l1_19 : what = 19
  · skip
    refine gx_lookup (off := 27) (tgt := 28) C dX6_count_1 (by decide) (by rw [l1_19]; decide) (by decide) ?_
    refine gx_aload_n (q := 0) C dX6_count_28 rfl ?_
    refine gx_get C (i := 3) (isPN_in hP 0 (by decide)) (isPN_0 hP) rfl in_X6_count_6 (by decide) fl_X6_count_30 rfl dX6_count_29 ?_
    refine gx_callR C (k_X2_length l (isPN_pad hP)) (isPN_in hP 4 (by decide)) (isPN_pad0 hP) rfl (cwV 0 C.2.2.2.2.1 gX6_count_X2_length rfl rfl rfl kdV_X2_length ⟨Nat.le_of_ble_eq_true rfl, Nat.le_of_ble_eq_true rfl⟩) rfl rfl (Nat.le_of_ble_eq_true rfl) ⟨Nat.le_of_ble_eq_true rfl, Nat.le_of_ble_eq_true rfl⟩ dX6_count_32 ?_
    exact gx_iretR C rfl hr dX6_count_35 (congrArg Value.int ((if_pos l1_19).trans (rfl)).symm)
  by_cases l1_20 : what = 20
  · skip
    refine gx_lookup (off := 35) (tgt := 36) C dX6_count_1 (by decide) (by rw [l1_20]; decide) (by decide) ?_
    refine gx_aload_n (q := 0) C dX6_count_36 rfl ?_
    refine gx_get C (i := 1) (isPN_in hP 0 (by decide)) (isPN_0 hP) rfl in_X6_count_6 (by decide) fl_X6_count_19 rfl dX6_count_37 ?_
    refine gx_callR C (k_X1_kept l hP) (isPN_in hP 1 (by decide)) (isPN_1 hP) rfl (cwV 0 C.2.2.2.2.1 gX6_count_X1_kept rfl rfl rfl kdV_X1_kept ⟨Nat.le_of_ble_eq_true rfl, Nat.le_of_ble_eq_true rfl⟩) rfl rfl (Nat.le_of_ble_eq_true rfl) ⟨Nat.le_of_ble_eq_true rfl, Nat.le_of_ble_eq_true rfl⟩ dX6_count_40 ?_
    exact gx_iretR C rfl hr dX6_count_43 (congrArg Value.int ((if_neg l1_19).trans ((if_pos l1_20).trans (rfl))).symm)
  refine gx_lookup (off := 43) (tgt := 44) C dX6_count_1 (by decide) (by have z19 : ¬ 19 = (what).toInt := fun z => l1_19 (gsw_eq z.symm (by decide)); have z20 : ¬ 20 = (what).toInt := fun z => l1_20 (gsw_eq z.symm (by decide)); simp [Op.lookupswitch.offset, z19, z20]) (by decide) ?_
  refine gx_aload_n (q := 0) C dX6_count_44 rfl ?_
  refine gx_get C (i := 0) (isPN_in hP 0 (by decide)) (isPN_0 hP) rfl in_X6_count_6 (by decide) fl_X6_count_12 rfl dX6_count_45 ?_
  refine gx_iload_n (q := 1) C dX6_count_48 rfl ?_
  refine gx_callR C (k_X5_figure l (isPN_now hP) hN _) (isPN_in hP 6 (by decide)) (isPN_now0 hP) rfl (cwV 1 C.2.2.2.2.1 gX6_count_X5_figure rfl rfl rfl kdV_X5_figure ⟨Nat.le_of_ble_eq_true rfl, Nat.le_of_ble_eq_true rfl⟩) rfl rfl (Nat.le_of_ble_eq_true rfl) ⟨Nat.le_of_ble_eq_true rfl, Nat.le_of_ble_eq_true rfl⟩ dX6_count_49 ?_
  exact gx_iretR C rfl hr dX6_count_52 (congrArg Value.int ((if_neg l1_19).trans ((if_neg l1_20).trans (rfl))).symm)
section
variable {p : Program} {l : Launch} {e : Env} {R : Room} {s : State} {m : MethodId} {args : Array Value} {below : List Frame} {meth : Method} {c : Code} {k : gK} {cc : ByteArray} {own : String} {nL : Nat} {Ts : List Cond} {rd : Prop} {A : Nat → Prop} {H0 : Heap} {Q : State → Prop} {L : List Nat} {cells slots : Nat} {f f0 : Nat → va_E} {pc : Nat} {lv : List (Nat × Value)} {rest st : List Value} {x : Int32}
theorem gx_aload_nN (C : gC k p s m args meth c cc own nL Ts) {i : Fin 4} {q : Nat} (hdg : decode cc pc = .ok (.aload_n i, 1)) (hk : lv[q]? = some ((i : Nat), .null)) (kk : gW p l e R s m args below meth c k nL rd A H0 Q L cells slots f (pc + 1) lv (.null :: rest)) : gW p l e R s m args below meth c k nL rd A H0 Q L cells slots f pc lv rest := fun H locs ls hP hS hr hl => lv_aload_nN C.1 C.2.1 hdg rfl (lv_at hl q hk) (kk H locs ls hP hS hr hl)
theorem gx_astore_nN (C : gC k p s m args meth c cc own nL Ts) {j : Fin 4} {i : Nat} (lv2 : List (Nat × Value)) (hdg : decode cc pc = .ok (.astore_n j, 1)) (hi : (j : Nat) = i) (hn : i < nL) (h2 : (i, Value.null) :: lv.filter (fun q => !(q.1 == i) && !(q.1 + 1 == i && q.2.category == 2)) = lv2) (kk : gW p l e R s m args below meth c k nL rd A H0 Q L cells slots f (pc + 1) lv2 rest) : gW p l e R s m args below meth c k nL rd A H0 Q L cells slots f pc lv (.null :: rest) := fun H locs ls hP hS hr hl => lv_astore_nN C.1 C.2.1 hdg hi hl hn h2 (fun ls2 hl2 => kk H locs ls2 hP hS hr hl2)
end
theorem isPN_eq {k : gK} {L : List Nat} {f : Nat → va_E} {A : Nat → Nat} {q q2 : PS} (h : isPN k L f A q) (e : q2 = q) : isPN k L f A q2 := e ▸ h
